section
-- ===== PART A: goes FIRST, ahead of the names: the tables' words, and 'selects' of the private methods out of them =====
/-- a private method of a class that the tables say can be made, by its rows of tables_1 -/
def lw_okq (q : MethodName × Nat) : Prop := (q.1.cls ≠ "java/lang/invoke/MethodHandle" ∧ q.1.cls ≠ "java/lang/invoke/VarHandle") ∧ Cond.instantiable q.1.cls q.2 ∈ tables_1 ∧ Cond.privateMethod q.1 ∈ tables_1 ∧ Cond.instanceMethod q.1 ∈ tables_1
theorem lw_p0 : lw_okq (⟨"java/lang/Throwable", "fillInStackTrace", "(I)Ljava/lang/Throwable;"⟩, 6) := ⟨⟨by decide +kernel, by decide +kernel⟩, List.mem_of_getElem? (i := 266) (by decide +kernel), List.mem_of_getElem? (i := 264) (by decide +kernel), List.mem_of_getElem? (i := 265) (by decide +kernel)⟩
theorem lw_p1 : lw_okq (⟨"DiskMachine$Processor", "answerInterrupt", "()I"⟩, 13) := ⟨⟨by decide +kernel, by decide +kernel⟩, List.mem_of_getElem? (i := 97) (by decide +kernel), List.mem_of_getElem? (i := 423) (by decide +kernel), List.mem_of_getElem? (i := 424) (by decide +kernel)⟩
theorem lw_p2 : lw_okq (⟨"DiskMachine$Processor", "push", "(I)V"⟩, 13) := ⟨⟨by decide +kernel, by decide +kernel⟩, List.mem_of_getElem? (i := 97) (by decide +kernel), List.mem_of_getElem? (i := 427) (by decide +kernel), List.mem_of_getElem? (i := 428) (by decide +kernel)⟩
theorem lw_p3 : lw_okq (⟨"DiskMachine$Processor", "instruction", "()I"⟩, 13) := ⟨⟨by decide +kernel, by decide +kernel⟩, List.mem_of_getElem? (i := 97) (by decide +kernel), List.mem_of_getElem? (i := 435) (by decide +kernel), List.mem_of_getElem? (i := 436) (by decide +kernel)⟩
theorem lw_p4 : lw_okq (⟨"DiskMachine$Processor", "nextByte", "()I"⟩, 13) := ⟨⟨by decide +kernel, by decide +kernel⟩, List.mem_of_getElem? (i := 97) (by decide +kernel), List.mem_of_getElem? (i := 439) (by decide +kernel), List.mem_of_getElem? (i := 440) (by decide +kernel)⟩
theorem lw_p5 : lw_okq (⟨"DiskMachine$Processor", "firstQuarter", "(II)I"⟩, 13) := ⟨⟨by decide +kernel, by decide +kernel⟩, List.mem_of_getElem? (i := 97) (by decide +kernel), List.mem_of_getElem? (i := 444) (by decide +kernel), List.mem_of_getElem? (i := 445) (by decide +kernel)⟩
theorem lw_p6 : lw_okq (⟨"DiskMachine$Processor", "setOrAddPair", "(I)I"⟩, 13) := ⟨⟨by decide +kernel, by decide +kernel⟩, List.mem_of_getElem? (i := 97) (by decide +kernel), List.mem_of_getElem? (i := 448) (by decide +kernel), List.mem_of_getElem? (i := 449) (by decide +kernel)⟩
theorem lw_p7 : lw_okq (⟨"DiskMachine$Processor", "nextWord", "()I"⟩, 13) := ⟨⟨by decide +kernel, by decide +kernel⟩, List.mem_of_getElem? (i := 97) (by decide +kernel), List.mem_of_getElem? (i := 452) (by decide +kernel), List.mem_of_getElem? (i := 453) (by decide +kernel)⟩
theorem lw_p8 : lw_okq (⟨"DiskMachine$Processor", "setPair", "(II)V"⟩, 13) := ⟨⟨by decide +kernel, by decide +kernel⟩, List.mem_of_getElem? (i := 97) (by decide +kernel), List.mem_of_getElem? (i := 460) (by decide +kernel), List.mem_of_getElem? (i := 461) (by decide +kernel)⟩
theorem lw_p9 : lw_okq (⟨"DiskMachine$Processor", "pair", "(I)I"⟩, 13) := ⟨⟨by decide +kernel, by decide +kernel⟩, List.mem_of_getElem? (i := 97) (by decide +kernel), List.mem_of_getElem? (i := 464) (by decide +kernel), List.mem_of_getElem? (i := 465) (by decide +kernel)⟩
theorem lw_p10 : lw_okq (⟨"DiskMachine$Processor", "moveByAddress", "(I)I"⟩, 13) := ⟨⟨by decide +kernel, by decide +kernel⟩, List.mem_of_getElem? (i := 97) (by decide +kernel), List.mem_of_getElem? (i := 472) (by decide +kernel), List.mem_of_getElem? (i := 473) (by decide +kernel)⟩
theorem lw_p11 : lw_okq (⟨"DiskMachine$Processor", "stepPair", "(I)I"⟩, 13) := ⟨⟨by decide +kernel, by decide +kernel⟩, List.mem_of_getElem? (i := 97) (by decide +kernel), List.mem_of_getElem? (i := 477) (by decide +kernel), List.mem_of_getElem? (i := 478) (by decide +kernel)⟩
theorem lw_p12 : lw_okq (⟨"DiskMachine$Processor", "value", "(I)I"⟩, 13) := ⟨⟨by decide +kernel, by decide +kernel⟩, List.mem_of_getElem? (i := 97) (by decide +kernel), List.mem_of_getElem? (i := 481) (by decide +kernel), List.mem_of_getElem? (i := 482) (by decide +kernel)⟩
theorem lw_p13 : lw_okq (⟨"DiskMachine$Processor", "setValue", "(II)V"⟩, 13) := ⟨⟨by decide +kernel, by decide +kernel⟩, List.mem_of_getElem? (i := 97) (by decide +kernel), List.mem_of_getElem? (i := 503) (by decide +kernel), List.mem_of_getElem? (i := 504) (by decide +kernel)⟩
theorem lw_p14 : lw_okq (⟨"DiskMachine$Arithmetic", "turnLeft", "(II)I"⟩, 1) := ⟨⟨by decide +kernel, by decide +kernel⟩, List.mem_of_getElem? (i := 125) (by decide +kernel), List.mem_of_getElem? (i := 515) (by decide +kernel), List.mem_of_getElem? (i := 516) (by decide +kernel)⟩
theorem lw_p15 : lw_okq (⟨"DiskMachine$Arithmetic", "turnRight", "(II)I"⟩, 1) := ⟨⟨by decide +kernel, by decide +kernel⟩, List.mem_of_getElem? (i := 125) (by decide +kernel), List.mem_of_getElem? (i := 520) (by decide +kernel), List.mem_of_getElem? (i := 521) (by decide +kernel)⟩
def lw_privs_1 : List (MethodName × Nat) := [(⟨"java/lang/Throwable", "fillInStackTrace", "(I)Ljava/lang/Throwable;"⟩, 6), (⟨"DiskMachine$Processor", "answerInterrupt", "()I"⟩, 13), (⟨"DiskMachine$Processor", "push", "(I)V"⟩, 13), (⟨"DiskMachine$Processor", "instruction", "()I"⟩, 13), (⟨"DiskMachine$Processor", "nextByte", "()I"⟩, 13), (⟨"DiskMachine$Processor", "firstQuarter", "(II)I"⟩, 13), (⟨"DiskMachine$Processor", "setOrAddPair", "(I)I"⟩, 13), (⟨"DiskMachine$Processor", "nextWord", "()I"⟩, 13), (⟨"DiskMachine$Processor", "setPair", "(II)V"⟩, 13), (⟨"DiskMachine$Processor", "pair", "(I)I"⟩, 13), (⟨"DiskMachine$Processor", "moveByAddress", "(I)I"⟩, 13), (⟨"DiskMachine$Processor", "stepPair", "(I)I"⟩, 13), (⟨"DiskMachine$Processor", "value", "(I)I"⟩, 13), (⟨"DiskMachine$Processor", "setValue", "(II)V"⟩, 13), (⟨"DiskMachine$Arithmetic", "turnLeft", "(II)I"⟩, 1), (⟨"DiskMachine$Arithmetic", "turnRight", "(II)I"⟩, 1)]
theorem lw_r1 : ∀ q ∈ lw_privs_1, lw_okq q := List.forall_mem_cons.mpr ⟨lw_p0, List.forall_mem_cons.mpr ⟨lw_p1, List.forall_mem_cons.mpr ⟨lw_p2, List.forall_mem_cons.mpr ⟨lw_p3, List.forall_mem_cons.mpr ⟨lw_p4, List.forall_mem_cons.mpr ⟨lw_p5, List.forall_mem_cons.mpr ⟨lw_p6, List.forall_mem_cons.mpr ⟨lw_p7, List.forall_mem_cons.mpr ⟨lw_p8, List.forall_mem_cons.mpr ⟨lw_p9, List.forall_mem_cons.mpr ⟨lw_p10, List.forall_mem_cons.mpr ⟨lw_p11, List.forall_mem_cons.mpr ⟨lw_p12, List.forall_mem_cons.mpr ⟨lw_p13, List.forall_mem_cons.mpr ⟨lw_p14, List.forall_mem_cons.mpr ⟨lw_p15, fun _ h => absurd h List.not_mem_nil⟩⟩⟩⟩⟩⟩⟩⟩⟩⟩⟩⟩⟩⟩⟩⟩
theorem lw_p16 : lw_okq (⟨"DiskMachine$Arithmetic", "toDecimal", "(I)I"⟩, 1) := ⟨⟨by decide +kernel, by decide +kernel⟩, List.mem_of_getElem? (i := 125) (by decide +kernel), List.mem_of_getElem? (i := 528) (by decide +kernel), List.mem_of_getElem? (i := 529) (by decide +kernel)⟩
theorem lw_p17 : lw_okq (⟨"DiskMachine$Processor", "transfer", "(II)I"⟩, 13) := ⟨⟨by decide +kernel, by decide +kernel⟩, List.mem_of_getElem? (i := 97) (by decide +kernel), List.mem_of_getElem? (i := 540) (by decide +kernel), List.mem_of_getElem? (i := 541) (by decide +kernel)⟩
theorem lw_p18 : lw_okq (⟨"DiskMachine$Arithmetic", "added", "(III)I"⟩, 1) := ⟨⟨by decide +kernel, by decide +kernel⟩, List.mem_of_getElem? (i := 125) (by decide +kernel), List.mem_of_getElem? (i := 548) (by decide +kernel), List.mem_of_getElem? (i := 549) (by decide +kernel)⟩
theorem lw_p19 : lw_okq (⟨"DiskMachine$Arithmetic", "subtracted", "(III)I"⟩, 1) := ⟨⟨by decide +kernel, by decide +kernel⟩, List.mem_of_getElem? (i := 125) (by decide +kernel), List.mem_of_getElem? (i := 552) (by decide +kernel), List.mem_of_getElem? (i := 553) (by decide +kernel)⟩
theorem lw_p20 : lw_okq (⟨"DiskMachine$Arithmetic", "bitwise", "(IZ)I"⟩, 1) := ⟨⟨by decide +kernel, by decide +kernel⟩, List.mem_of_getElem? (i := 125) (by decide +kernel), List.mem_of_getElem? (i := 556) (by decide +kernel), List.mem_of_getElem? (i := 557) (by decide +kernel)⟩
theorem lw_p21 : lw_okq (⟨"DiskMachine$Processor", "lastQuarter", "(II)I"⟩, 13) := ⟨⟨by decide +kernel, by decide +kernel⟩, List.mem_of_getElem? (i := 97) (by decide +kernel), List.mem_of_getElem? (i := 560) (by decide +kernel), List.mem_of_getElem? (i := 561) (by decide +kernel)⟩
theorem lw_p22 : lw_okq (⟨"DiskMachine$Processor", "returnIf", "(I)I"⟩, 13) := ⟨⟨by decide +kernel, by decide +kernel⟩, List.mem_of_getElem? (i := 97) (by decide +kernel), List.mem_of_getElem? (i := 564) (by decide +kernel), List.mem_of_getElem? (i := 565) (by decide +kernel)⟩
theorem lw_p23 : lw_okq (⟨"DiskMachine$Processor", "pop", "()I"⟩, 13) := ⟨⟨by decide +kernel, by decide +kernel⟩, List.mem_of_getElem? (i := 97) (by decide +kernel), List.mem_of_getElem? (i := 572) (by decide +kernel), List.mem_of_getElem? (i := 573) (by decide +kernel)⟩
theorem lw_p24 : lw_okq (⟨"DiskMachine$Processor", "popOrReturn", "(I)I"⟩, 13) := ⟨⟨by decide +kernel, by decide +kernel⟩, List.mem_of_getElem? (i := 97) (by decide +kernel), List.mem_of_getElem? (i := 576) (by decide +kernel), List.mem_of_getElem? (i := 577) (by decide +kernel)⟩
theorem lw_p25 : lw_okq (⟨"DiskMachine$Processor", "popAccumulator", "()I"⟩, 13) := ⟨⟨by decide +kernel, by decide +kernel⟩, List.mem_of_getElem? (i := 97) (by decide +kernel), List.mem_of_getElem? (i := 580) (by decide +kernel), List.mem_of_getElem? (i := 581) (by decide +kernel)⟩
theorem lw_p26 : lw_okq (⟨"DiskMachine$Processor", "jumpIf", "(Z)I"⟩, 13) := ⟨⟨by decide +kernel, by decide +kernel⟩, List.mem_of_getElem? (i := 97) (by decide +kernel), List.mem_of_getElem? (i := 584) (by decide +kernel), List.mem_of_getElem? (i := 585) (by decide +kernel)⟩
theorem lw_p27 : lw_okq (⟨"DiskMachine$Processor", "portOrExchange", "(I)I"⟩, 13) := ⟨⟨by decide +kernel, by decide +kernel⟩, List.mem_of_getElem? (i := 97) (by decide +kernel), List.mem_of_getElem? (i := 588) (by decide +kernel), List.mem_of_getElem? (i := 589) (by decide +kernel)⟩
theorem lw_p28 : lw_okq (⟨"DiskMachine$Processor", "sendToPort", "(II)V"⟩, 13) := ⟨⟨by decide +kernel, by decide +kernel⟩, List.mem_of_getElem? (i := 97) (by decide +kernel), List.mem_of_getElem? (i := 592) (by decide +kernel), List.mem_of_getElem? (i := 593) (by decide +kernel)⟩
theorem lw_p29 : lw_okq (⟨"DiskMachine$Controller", "isBusy", "()Z"⟩, 11) := ⟨⟨by decide +kernel, by decide +kernel⟩, List.mem_of_getElem? (i := 57) (by decide +kernel), List.mem_of_getElem? (i := 621) (by decide +kernel), List.mem_of_getElem? (i := 622) (by decide +kernel)⟩
theorem lw_p30 : lw_okq (⟨"DiskMachine$Processor", "takeFromPort", "(I)I"⟩, 13) := ⟨⟨by decide +kernel, by decide +kernel⟩, List.mem_of_getElem? (i := 97) (by decide +kernel), List.mem_of_getElem? (i := 625) (by decide +kernel), List.mem_of_getElem? (i := 626) (by decide +kernel)⟩
theorem lw_p31 : lw_okq (⟨"DiskMachine$Processor", "swapWithStack", "()I"⟩, 13) := ⟨⟨by decide +kernel, by decide +kernel⟩, List.mem_of_getElem? (i := 97) (by decide +kernel), List.mem_of_getElem? (i := 641) (by decide +kernel), List.mem_of_getElem? (i := 642) (by decide +kernel)⟩
def lw_privs_2 : List (MethodName × Nat) := [(⟨"DiskMachine$Arithmetic", "toDecimal", "(I)I"⟩, 1), (⟨"DiskMachine$Processor", "transfer", "(II)I"⟩, 13), (⟨"DiskMachine$Arithmetic", "added", "(III)I"⟩, 1), (⟨"DiskMachine$Arithmetic", "subtracted", "(III)I"⟩, 1), (⟨"DiskMachine$Arithmetic", "bitwise", "(IZ)I"⟩, 1), (⟨"DiskMachine$Processor", "lastQuarter", "(II)I"⟩, 13), (⟨"DiskMachine$Processor", "returnIf", "(I)I"⟩, 13), (⟨"DiskMachine$Processor", "pop", "()I"⟩, 13), (⟨"DiskMachine$Processor", "popOrReturn", "(I)I"⟩, 13), (⟨"DiskMachine$Processor", "popAccumulator", "()I"⟩, 13), (⟨"DiskMachine$Processor", "jumpIf", "(Z)I"⟩, 13), (⟨"DiskMachine$Processor", "portOrExchange", "(I)I"⟩, 13), (⟨"DiskMachine$Processor", "sendToPort", "(II)V"⟩, 13), (⟨"DiskMachine$Controller", "isBusy", "()Z"⟩, 11), (⟨"DiskMachine$Processor", "takeFromPort", "(I)I"⟩, 13), (⟨"DiskMachine$Processor", "swapWithStack", "()I"⟩, 13)]
theorem lw_r2 : ∀ q ∈ lw_privs_2, lw_okq q := List.forall_mem_cons.mpr ⟨lw_p16, List.forall_mem_cons.mpr ⟨lw_p17, List.forall_mem_cons.mpr ⟨lw_p18, List.forall_mem_cons.mpr ⟨lw_p19, List.forall_mem_cons.mpr ⟨lw_p20, List.forall_mem_cons.mpr ⟨lw_p21, List.forall_mem_cons.mpr ⟨lw_p22, List.forall_mem_cons.mpr ⟨lw_p23, List.forall_mem_cons.mpr ⟨lw_p24, List.forall_mem_cons.mpr ⟨lw_p25, List.forall_mem_cons.mpr ⟨lw_p26, List.forall_mem_cons.mpr ⟨lw_p27, List.forall_mem_cons.mpr ⟨lw_p28, List.forall_mem_cons.mpr ⟨lw_p29, List.forall_mem_cons.mpr ⟨lw_p30, List.forall_mem_cons.mpr ⟨lw_p31, fun _ h => absurd h List.not_mem_nil⟩⟩⟩⟩⟩⟩⟩⟩⟩⟩⟩⟩⟩⟩⟩⟩
theorem lw_p32 : lw_okq (⟨"DiskMachine$Processor", "swapPairs", "()I"⟩, 13) := ⟨⟨by decide +kernel, by decide +kernel⟩, List.mem_of_getElem? (i := 97) (by decide +kernel), List.mem_of_getElem? (i := 645) (by decide +kernel), List.mem_of_getElem? (i := 646) (by decide +kernel)⟩
theorem lw_p33 : lw_okq (⟨"DiskMachine$Processor", "callIf", "(Z)I"⟩, 13) := ⟨⟨by decide +kernel, by decide +kernel⟩, List.mem_of_getElem? (i := 97) (by decide +kernel), List.mem_of_getElem? (i := 649) (by decide +kernel), List.mem_of_getElem? (i := 650) (by decide +kernel)⟩
theorem lw_p34 : lw_okq (⟨"DiskMachine$Processor", "pushPair", "(I)I"⟩, 13) := ⟨⟨by decide +kernel, by decide +kernel⟩, List.mem_of_getElem? (i := 97) (by decide +kernel), List.mem_of_getElem? (i := 653) (by decide +kernel), List.mem_of_getElem? (i := 654) (by decide +kernel)⟩
theorem lw_p35 : lw_okq (⟨"DiskMachine$Controller", "moveByte", "()V"⟩, 11) := ⟨⟨by decide +kernel, by decide +kernel⟩, List.mem_of_getElem? (i := 57) (by decide +kernel), List.mem_of_getElem? (i := 661) (by decide +kernel), List.mem_of_getElem? (i := 662) (by decide +kernel)⟩
theorem lw_p36 : lw_okq (⟨"DiskMachine$Controller", "finish", "()I"⟩, 11) := ⟨⟨by decide +kernel, by decide +kernel⟩, List.mem_of_getElem? (i := 57) (by decide +kernel), List.mem_of_getElem? (i := 668) (by decide +kernel), List.mem_of_getElem? (i := 669) (by decide +kernel)⟩
theorem lw_p37 : lw_okq (⟨"DiskMachineModel", "flags", "()I"⟩, 30) := ⟨⟨by decide +kernel, by decide +kernel⟩, List.mem_of_getElem? (i := 703) (by decide +kernel), List.mem_of_getElem? (i := 834) (by decide +kernel), List.mem_of_getElem? (i := 835) (by decide +kernel)⟩
theorem lw_p38 : lw_okq (⟨"DiskMachineModel", "setFlags", "(I)V"⟩, 30) := ⟨⟨by decide +kernel, by decide +kernel⟩, List.mem_of_getElem? (i := 703) (by decide +kernel), List.mem_of_getElem? (i := 842) (by decide +kernel), List.mem_of_getElem? (i := 843) (by decide +kernel)⟩
theorem lw_p39 : lw_okq (⟨"DiskMachineModel", "push", "(I)V"⟩, 30) := ⟨⟨by decide +kernel, by decide +kernel⟩, List.mem_of_getElem? (i := 703) (by decide +kernel), List.mem_of_getElem? (i := 851) (by decide +kernel), List.mem_of_getElem? (i := 852) (by decide +kernel)⟩
theorem lw_p40 : lw_okq (⟨"DiskMachineModel", "setWord", "(II)V"⟩, 30) := ⟨⟨by decide +kernel, by decide +kernel⟩, List.mem_of_getElem? (i := 703) (by decide +kernel), List.mem_of_getElem? (i := 855) (by decide +kernel), List.mem_of_getElem? (i := 856) (by decide +kernel)⟩
theorem lw_p41 : lw_okq (⟨"DiskMachineModel", "set", "(II)V"⟩, 30) := ⟨⟨by decide +kernel, by decide +kernel⟩, List.mem_of_getElem? (i := 703) (by decide +kernel), List.mem_of_getElem? (i := 859) (by decide +kernel), List.mem_of_getElem? (i := 860) (by decide +kernel)⟩
theorem lw_p42 : lw_okq (⟨"DiskMachineModel", "instruction", "()V"⟩, 30) := ⟨⟨by decide +kernel, by decide +kernel⟩, List.mem_of_getElem? (i := 703) (by decide +kernel), List.mem_of_getElem? (i := 863) (by decide +kernel), List.mem_of_getElem? (i := 864) (by decide +kernel)⟩
theorem lw_p43 : lw_okq (⟨"DiskMachineModel", "next", "()I"⟩, 30) := ⟨⟨by decide +kernel, by decide +kernel⟩, List.mem_of_getElem? (i := 703) (by decide +kernel), List.mem_of_getElem? (i := 867) (by decide +kernel), List.mem_of_getElem? (i := 868) (by decide +kernel)⟩
theorem lw_p44 : lw_okq (⟨"DiskMachineModel", "get", "(I)I"⟩, 30) := ⟨⟨by decide +kernel, by decide +kernel⟩, List.mem_of_getElem? (i := 703) (by decide +kernel), List.mem_of_getElem? (i := 871) (by decide +kernel), List.mem_of_getElem? (i := 872) (by decide +kernel)⟩
theorem lw_p45 : lw_okq (⟨"DiskMachineModel", "zero", "(II)V"⟩, 30) := ⟨⟨by decide +kernel, by decide +kernel⟩, List.mem_of_getElem? (i := 703) (by decide +kernel), List.mem_of_getElem? (i := 875) (by decide +kernel), List.mem_of_getElem? (i := 876) (by decide +kernel)⟩
theorem lw_p46 : lw_okq (⟨"DiskMachineModel", "hl", "()I"⟩, 30) := ⟨⟨by decide +kernel, by decide +kernel⟩, List.mem_of_getElem? (i := 703) (by decide +kernel), List.mem_of_getElem? (i := 879) (by decide +kernel), List.mem_of_getElem? (i := 880) (by decide +kernel)⟩
theorem lw_p47 : lw_okq (⟨"DiskMachineModel", "pair", "(I)I"⟩, 30) := ⟨⟨by decide +kernel, by decide +kernel⟩, List.mem_of_getElem? (i := 703) (by decide +kernel), List.mem_of_getElem? (i := 883) (by decide +kernel), List.mem_of_getElem? (i := 884) (by decide +kernel)⟩
def lw_privs_3 : List (MethodName × Nat) := [(⟨"DiskMachine$Processor", "swapPairs", "()I"⟩, 13), (⟨"DiskMachine$Processor", "callIf", "(Z)I"⟩, 13), (⟨"DiskMachine$Processor", "pushPair", "(I)I"⟩, 13), (⟨"DiskMachine$Controller", "moveByte", "()V"⟩, 11), (⟨"DiskMachine$Controller", "finish", "()I"⟩, 11), (⟨"DiskMachineModel", "flags", "()I"⟩, 30), (⟨"DiskMachineModel", "setFlags", "(I)V"⟩, 30), (⟨"DiskMachineModel", "push", "(I)V"⟩, 30), (⟨"DiskMachineModel", "setWord", "(II)V"⟩, 30), (⟨"DiskMachineModel", "set", "(II)V"⟩, 30), (⟨"DiskMachineModel", "instruction", "()V"⟩, 30), (⟨"DiskMachineModel", "next", "()I"⟩, 30), (⟨"DiskMachineModel", "get", "(I)I"⟩, 30), (⟨"DiskMachineModel", "zero", "(II)V"⟩, 30), (⟨"DiskMachineModel", "hl", "()I"⟩, 30), (⟨"DiskMachineModel", "pair", "(I)I"⟩, 30)]
theorem lw_r3 : ∀ q ∈ lw_privs_3, lw_okq q := List.forall_mem_cons.mpr ⟨lw_p32, List.forall_mem_cons.mpr ⟨lw_p33, List.forall_mem_cons.mpr ⟨lw_p34, List.forall_mem_cons.mpr ⟨lw_p35, List.forall_mem_cons.mpr ⟨lw_p36, List.forall_mem_cons.mpr ⟨lw_p37, List.forall_mem_cons.mpr ⟨lw_p38, List.forall_mem_cons.mpr ⟨lw_p39, List.forall_mem_cons.mpr ⟨lw_p40, List.forall_mem_cons.mpr ⟨lw_p41, List.forall_mem_cons.mpr ⟨lw_p42, List.forall_mem_cons.mpr ⟨lw_p43, List.forall_mem_cons.mpr ⟨lw_p44, List.forall_mem_cons.mpr ⟨lw_p45, List.forall_mem_cons.mpr ⟨lw_p46, List.forall_mem_cons.mpr ⟨lw_p47, fun _ h => absurd h List.not_mem_nil⟩⟩⟩⟩⟩⟩⟩⟩⟩⟩⟩⟩⟩⟩⟩⟩
theorem lw_p48 : lw_okq (⟨"DiskMachineModel", "setPair", "(II)V"⟩, 30) := ⟨⟨by decide +kernel, by decide +kernel⟩, List.mem_of_getElem? (i := 703) (by decide +kernel), List.mem_of_getElem? (i := 887) (by decide +kernel), List.mem_of_getElem? (i := 888) (by decide +kernel)⟩
theorem lw_p49 : lw_okq (⟨"DiskMachineModel", "nextWord", "()I"⟩, 30) := ⟨⟨by decide +kernel, by decide +kernel⟩, List.mem_of_getElem? (i := 703) (by decide +kernel), List.mem_of_getElem? (i := 891) (by decide +kernel), List.mem_of_getElem? (i := 892) (by decide +kernel)⟩
theorem lw_p50 : lw_okq (⟨"DiskMachineModel", "byAddress", "(I)V"⟩, 30) := ⟨⟨by decide +kernel, by decide +kernel⟩, List.mem_of_getElem? (i := 703) (by decide +kernel), List.mem_of_getElem? (i := 895) (by decide +kernel), List.mem_of_getElem? (i := 896) (by decide +kernel)⟩
theorem lw_p51 : lw_okq (⟨"DiskMachineModel", "getWord", "(I)I"⟩, 30) := ⟨⟨by decide +kernel, by decide +kernel⟩, List.mem_of_getElem? (i := 703) (by decide +kernel), List.mem_of_getElem? (i := 899) (by decide +kernel), List.mem_of_getElem? (i := 900) (by decide +kernel)⟩
theorem lw_p52 : lw_okq (⟨"DiskMachineModel", "reg", "(I)I"⟩, 30) := ⟨⟨by decide +kernel, by decide +kernel⟩, List.mem_of_getElem? (i := 703) (by decide +kernel), List.mem_of_getElem? (i := 903) (by decide +kernel), List.mem_of_getElem? (i := 904) (by decide +kernel)⟩
theorem lw_p53 : lw_okq (⟨"DiskMachineModel", "setReg", "(II)V"⟩, 30) := ⟨⟨by decide +kernel, by decide +kernel⟩, List.mem_of_getElem? (i := 703) (by decide +kernel), List.mem_of_getElem? (i := 907) (by decide +kernel), List.mem_of_getElem? (i := 908) (by decide +kernel)⟩
theorem lw_p54 : lw_okq (⟨"DiskMachineModel", "logic", "(I)V"⟩, 30) := ⟨⟨by decide +kernel, by decide +kernel⟩, List.mem_of_getElem? (i := 703) (by decide +kernel), List.mem_of_getElem? (i := 911) (by decide +kernel), List.mem_of_getElem? (i := 912) (by decide +kernel)⟩
theorem lw_p55 : lw_okq (⟨"DiskMachineModel", "turn", "(I)V"⟩, 30) := ⟨⟨by decide +kernel, by decide +kernel⟩, List.mem_of_getElem? (i := 703) (by decide +kernel), List.mem_of_getElem? (i := 915) (by decide +kernel), List.mem_of_getElem? (i := 916) (by decide +kernel)⟩
theorem lw_p56 : lw_okq (⟨"DiskMachineModel", "adjust", "()V"⟩, 30) := ⟨⟨by decide +kernel, by decide +kernel⟩, List.mem_of_getElem? (i := 703) (by decide +kernel), List.mem_of_getElem? (i := 919) (by decide +kernel), List.mem_of_getElem? (i := 920) (by decide +kernel)⟩
theorem lw_p57 : lw_okq (⟨"DiskMachineModel", "reckon", "(II)V"⟩, 30) := ⟨⟨by decide +kernel, by decide +kernel⟩, List.mem_of_getElem? (i := 703) (by decide +kernel), List.mem_of_getElem? (i := 923) (by decide +kernel), List.mem_of_getElem? (i := 924) (by decide +kernel)⟩
theorem lw_p58 : lw_okq (⟨"DiskMachineModel", "sum", "(II)V"⟩, 30) := ⟨⟨by decide +kernel, by decide +kernel⟩, List.mem_of_getElem? (i := 703) (by decide +kernel), List.mem_of_getElem? (i := 927) (by decide +kernel), List.mem_of_getElem? (i := 928) (by decide +kernel)⟩
theorem lw_p59 : lw_okq (⟨"DiskMachineModel", "less", "(II)I"⟩, 30) := ⟨⟨by decide +kernel, by decide +kernel⟩, List.mem_of_getElem? (i := 703) (by decide +kernel), List.mem_of_getElem? (i := 931) (by decide +kernel), List.mem_of_getElem? (i := 932) (by decide +kernel)⟩
theorem lw_p60 : lw_okq (⟨"DiskMachineModel", "three", "(II)V"⟩, 30) := ⟨⟨by decide +kernel, by decide +kernel⟩, List.mem_of_getElem? (i := 703) (by decide +kernel), List.mem_of_getElem? (i := 935) (by decide +kernel), List.mem_of_getElem? (i := 936) (by decide +kernel)⟩
theorem lw_p61 : lw_okq (⟨"DiskMachineModel", "holds", "(I)Z"⟩, 30) := ⟨⟨by decide +kernel, by decide +kernel⟩, List.mem_of_getElem? (i := 703) (by decide +kernel), List.mem_of_getElem? (i := 939) (by decide +kernel), List.mem_of_getElem? (i := 940) (by decide +kernel)⟩
theorem lw_p62 : lw_okq (⟨"DiskMachineModel", "pop", "()I"⟩, 30) := ⟨⟨by decide +kernel, by decide +kernel⟩, List.mem_of_getElem? (i := 703) (by decide +kernel), List.mem_of_getElem? (i := 943) (by decide +kernel), List.mem_of_getElem? (i := 944) (by decide +kernel)⟩
theorem lw_p63 : lw_okq (⟨"DiskMachineModel", "single", "(I)V"⟩, 30) := ⟨⟨by decide +kernel, by decide +kernel⟩, List.mem_of_getElem? (i := 703) (by decide +kernel), List.mem_of_getElem? (i := 947) (by decide +kernel), List.mem_of_getElem? (i := 948) (by decide +kernel)⟩
def lw_privs_4 : List (MethodName × Nat) := [(⟨"DiskMachineModel", "setPair", "(II)V"⟩, 30), (⟨"DiskMachineModel", "nextWord", "()I"⟩, 30), (⟨"DiskMachineModel", "byAddress", "(I)V"⟩, 30), (⟨"DiskMachineModel", "getWord", "(I)I"⟩, 30), (⟨"DiskMachineModel", "reg", "(I)I"⟩, 30), (⟨"DiskMachineModel", "setReg", "(II)V"⟩, 30), (⟨"DiskMachineModel", "logic", "(I)V"⟩, 30), (⟨"DiskMachineModel", "turn", "(I)V"⟩, 30), (⟨"DiskMachineModel", "adjust", "()V"⟩, 30), (⟨"DiskMachineModel", "reckon", "(II)V"⟩, 30), (⟨"DiskMachineModel", "sum", "(II)V"⟩, 30), (⟨"DiskMachineModel", "less", "(II)I"⟩, 30), (⟨"DiskMachineModel", "three", "(II)V"⟩, 30), (⟨"DiskMachineModel", "holds", "(I)Z"⟩, 30), (⟨"DiskMachineModel", "pop", "()I"⟩, 30), (⟨"DiskMachineModel", "single", "(I)V"⟩, 30)]
theorem lw_r4 : ∀ q ∈ lw_privs_4, lw_okq q := List.forall_mem_cons.mpr ⟨lw_p48, List.forall_mem_cons.mpr ⟨lw_p49, List.forall_mem_cons.mpr ⟨lw_p50, List.forall_mem_cons.mpr ⟨lw_p51, List.forall_mem_cons.mpr ⟨lw_p52, List.forall_mem_cons.mpr ⟨lw_p53, List.forall_mem_cons.mpr ⟨lw_p54, List.forall_mem_cons.mpr ⟨lw_p55, List.forall_mem_cons.mpr ⟨lw_p56, List.forall_mem_cons.mpr ⟨lw_p57, List.forall_mem_cons.mpr ⟨lw_p58, List.forall_mem_cons.mpr ⟨lw_p59, List.forall_mem_cons.mpr ⟨lw_p60, List.forall_mem_cons.mpr ⟨lw_p61, List.forall_mem_cons.mpr ⟨lw_p62, List.forall_mem_cons.mpr ⟨lw_p63, fun _ h => absurd h List.not_mem_nil⟩⟩⟩⟩⟩⟩⟩⟩⟩⟩⟩⟩⟩⟩⟩⟩
theorem lw_p64 : lw_okq (⟨"DiskMachineModel", "jumpTo", "(ZZI)V"⟩, 30) := ⟨⟨by decide +kernel, by decide +kernel⟩, List.mem_of_getElem? (i := 703) (by decide +kernel), List.mem_of_getElem? (i := 951) (by decide +kernel), List.mem_of_getElem? (i := 952) (by decide +kernel)⟩
theorem lw_p65 : lw_okq (⟨"DiskMachineModel", "special", "(I)V"⟩, 30) := ⟨⟨by decide +kernel, by decide +kernel⟩, List.mem_of_getElem? (i := 703) (by decide +kernel), List.mem_of_getElem? (i := 955) (by decide +kernel), List.mem_of_getElem? (i := 956) (by decide +kernel)⟩
theorem lw_p66 : lw_okq (⟨"DiskMachineModel", "out", "(II)V"⟩, 30) := ⟨⟨by decide +kernel, by decide +kernel⟩, List.mem_of_getElem? (i := 703) (by decide +kernel), List.mem_of_getElem? (i := 959) (by decide +kernel), List.mem_of_getElem? (i := 960) (by decide +kernel)⟩
theorem lw_p67 : lw_okq (⟨"DiskMachineModel", "in", "(I)I"⟩, 30) := ⟨⟨by decide +kernel, by decide +kernel⟩, List.mem_of_getElem? (i := 703) (by decide +kernel), List.mem_of_getElem? (i := 964) (by decide +kernel), List.mem_of_getElem? (i := 965) (by decide +kernel)⟩
theorem lw_p68 : lw_okq (⟨"DiskMachineModel", "pass", "()V"⟩, 30) := ⟨⟨by decide +kernel, by decide +kernel⟩, List.mem_of_getElem? (i := 703) (by decide +kernel), List.mem_of_getElem? (i := 968) (by decide +kernel), List.mem_of_getElem? (i := 969) (by decide +kernel)⟩
theorem lw_p69 : lw_okq (⟨"DiskMachineModel", "moveOne", "()V"⟩, 30) := ⟨⟨by decide +kernel, by decide +kernel⟩, List.mem_of_getElem? (i := 703) (by decide +kernel), List.mem_of_getElem? (i := 972) (by decide +kernel), List.mem_of_getElem? (i := 973) (by decide +kernel)⟩
def lw_privs_5 : List (MethodName × Nat) := [(⟨"DiskMachineModel", "jumpTo", "(ZZI)V"⟩, 30), (⟨"DiskMachineModel", "special", "(I)V"⟩, 30), (⟨"DiskMachineModel", "out", "(II)V"⟩, 30), (⟨"DiskMachineModel", "in", "(I)I"⟩, 30), (⟨"DiskMachineModel", "pass", "()V"⟩, 30), (⟨"DiskMachineModel", "moveOne", "()V"⟩, 30)]
theorem lw_r5 : ∀ q ∈ lw_privs_5, lw_okq q := List.forall_mem_cons.mpr ⟨lw_p64, List.forall_mem_cons.mpr ⟨lw_p65, List.forall_mem_cons.mpr ⟨lw_p66, List.forall_mem_cons.mpr ⟨lw_p67, List.forall_mem_cons.mpr ⟨lw_p68, List.forall_mem_cons.mpr ⟨lw_p69, fun _ h => absurd h List.not_mem_nil⟩⟩⟩⟩⟩⟩
def lw_privs : List (MethodName × Nat) := lw_privs_1 ++ (lw_privs_2 ++ (lw_privs_3 ++ (lw_privs_4 ++ (lw_privs_5))))
def lw_tbl : List Cond := k2_sels lw_privs ++ tables_1
theorem lw_privs_ok : ∀ q ∈ lw_privs, lw_okq q := by
  show ∀ q ∈ lw_privs_1 ++ (lw_privs_2 ++ (lw_privs_3 ++ (lw_privs_4 ++ (lw_privs_5)))), lw_okq q
  exact List.forall_mem_append.mpr ⟨lw_r1, List.forall_mem_append.mpr ⟨lw_r2, List.forall_mem_append.mpr ⟨lw_r3, List.forall_mem_append.mpr ⟨lw_r4, lw_r5⟩⟩⟩⟩
end
section
/-! ===== BEGIN words of one list among another's, by their places ===== -/
theorem goodIn_r {big : List Cond} (ws : List Cond) (ps : List Nat) (hp : ws = ps.filterMap (fun i => big[i]?)) (h : ws.all goodWord = true) : GoodIn big ws := by
  intro w hw
  have h1 := List.all_eq_true.mp h w hw
  rw [hp] at hw
  obtain ⟨i, -, hi⟩ := List.mem_filterMap.mp hw
  have hm : w ∈ big := by first | exact List.mem_of_getElem? hi | exact List.getElem?_mem hi
  exact ⟨hm, good_of_word h1⟩
theorem goodIn_app {big a b : List Cond} (ha : GoodIn big a) (hb : GoodIn big b) : GoodIn big (a ++ b) := fun w h => (List.mem_append.mp h).elim (ha w) (hb w)
theorem goodIn_ca {big a b : List Cond} {c : Cond} (ha : GoodIn big (c :: a)) (hb : GoodIn big b) : GoodIn big (c :: (a ++ b)) := fun w h => (List.mem_cons.mp h).elim (fun e => ha w (List.mem_cons.mpr (Or.inl e))) (fun h => (List.mem_append.mp h).elim (fun h => ha w (List.mem_cons.mpr (Or.inr h))) (hb w))
theorem goodIn_sub {big ws : List Cond} (hm : ∀ w ∈ ws, w ∈ big) (h : ws.all goodWord = true) : GoodIn big ws := fun w hw => ⟨hm w hw, good_of_word (List.all_eq_true.mp h w hw)⟩
/-! ===== END ===== -/

/-! ===== BEGIN exceptions that leave a method, and their catching by the caller (launches without stack traces) ===== -/
section VXA
/-! The laws vx_back, vx_callV, vx_callS, vx_callSW, vx_throw0, vx_throwS follow proofs of the library, with one case more: JvmDerived/Free/Laws.lean (Back.of_free), Shelf42/LK1.lean (callV, callS), Shelf/KitTraced.lean (throwNew0V, throwNewS). -/
/-- where a method has thrown q: the class by its name, the cell, what was written, the world -/
def vx_T (XC : String → State → State → Prop) (st : State) (q : Addr) (t : State) (mc ms : Nat) (free : Addr → Prop) : Prop :=
  ∃ (E : String) (ce : Cell) (L : List Loc), XC E st t ∧ t.heap[q]? = some ce ∧ ce.vm = .none ∧ st.vm.findClass E = some ce.cls ∧ st.WarmedH t.vm ∧ st.sameButNew ({ t with vm := st.vm } : State) L mc ms ∧ ∀ z ∈ L, free z.base
def vx_Q (Qc : Array Value → State → Outcome → State → Prop) (XC : String → State → State → Prop) (mc ms : Nat) (free : Addr → Prop) : Array Value → State → Outcome → State → Prop := fun a st o t =>
  (Qc a st o t ∧ ∃ L, FrameEnd st o t L mc ms ∧ ∀ q ∈ L, free q.base) ∨ ∃ q, o = .threw q ∧ vx_T XC st q t mc ms free
/-- a callee that returns or throws -/
def vx_Met (l : Launch) (y : MethodName) (ws : List Cond) (rm : Room) (Pc : Array Value → State → Prop) (Qc : Array Value → State → Outcome → State → Prop) (XC : String → State → State → Prop) (mc ms : Nat) (free : Addr → Prop) : Prop :=
  MetFree l y (headSpec ws rm) Pc (fun _ _ _ _ _ => True) (vx_Q Qc XC mc ms free)
def vx_Post (XC : String → State → State → Prop) (mc ms : Nat) (free : Addr → Prop) : Pt → Array Value → Addr → Pt → Prop := fun A a q B =>
  ∃ (g : JFrame) (mk : MethodId) (t : State) (L : List Loc) (E : String) (ce : Cell), B.U.heap = t.heap ∧ B.U.vm = t.vm ∧ XC E (A.U.calling g mk a) t ∧ t.heap[q]? = some ce ∧ ce.vm = .none ∧ A.U.vm.findClass E = some ce.cls ∧ B.locs = A.locs ++ L ∧ (∀ z ∈ L, free z.base) ∧ B.cells = A.cells + mc ∧ B.slots = A.slots + ms
def vx_Back (l : Launch) (R : Room) (p : Program) (e : Env) (below : List Frame) (s : State) (sargs : Array Value) (y : MethodName) (len W9 : Nat)
    (Pre : Pt → Array Value → Prop) (Post : Pt → Array Value → Option Value → Pt → Prop) (PostX : Pt → Array Value → Addr → Pt → Prop) : Prop :=
  ∀ (m : MethodId) (meth : Method) (c : Code) (A : Pt) (g : JFrame) (ig : Instr) (mk : MethodId) (a : Array Value),
    Stand p l e R s m sargs below meth c A.U A.locs A.cells A.slots → g.method = m → g.locals.size = c.maxLocals → decode c.code g.pc = .ok (ig, len) →
    2 * g.monitorRoom + (g.stack.map fun v => v.category).sum ≤ W9 → A.U.methodNamed? y = some mk → Pre A a →
    (∃ (v : Option Value) (B : Pt), Stand p l e R s m sargs below meth c B.U B.locs B.cells B.slots ∧ Post A a v B ∧
      Steps p.tables e below (doInvoke e (A.U.setTop g) [] mk a).1 (B.U.setTop { g with pc := g.pc + len, stack := v.toList ++ g.stack })) ∨
    (∃ (q : Addr) (B : Pt), Stand p l e R s m sargs below meth c B.U B.locs B.cells B.slots ∧ PostX A a q B ∧
      Steps p.tables e below (doInvoke e (A.U.setTop g) [] mk a).1 ((B.U.setTop g).pushFrame (.throwing q)))
section Payer
variable {l : Launch} {R : Room} {p : Program} {e : Env} {below : List Frame} {s : State} {sargs : Array Value} {y : MethodName} {len W9 : Nat}
theorem vx_back {ws : List Cond} {rm : Room} {Pc : Array Value → State → Prop} {Qc : Array Value → State → Outcome → State → Prop} {XC : String → State → State → Prop} {mc ms : Nat} {free : Addr → Prop} {bytes : ByteArray} {maxL : Nat} {ret : Option FieldType}
    (hM : vx_Met l y ws rm Pc Qc XC mc ms free) (hblind : FrameBlind Pc) (hrc : rm.cells = mc) (hrs : rm.slots = ms)
    (hframes : rm.frames + 1 ≤ R.frames) (hlocals : W9 + (maxL + 11) + rm.locals ≤ R.locals)
    (hws : ∀ w ∈ ws, ∀ a' U, s.WarmedH U.vm → w.before a' U = true) (hcode : Cond.code y bytes maxL ret ∈ ws) (hinit : ∀ a' U, s.WarmedH U.vm → (Cond.initialized y.cls).before a' U = true) :
    vx_Back l R p e below s sargs y len W9 (PreOf R mc ms Pc) (PostOf Qc mc ms free) (vx_Post XC mc ms free) := by
  intro m meth c A g ig mk a X hg hsize hdg hW hn hp
  have h1 : (headSpec ws rm).pre.before a A.U = true := atoms_intro fun w hw => hws w hw _ _ X.warmed
  have h2 : (Cond.code y bytes maxL ret).before a A.U = true := hws _ hcode _ _ X.warmed
  have h3 : (Cond.initialized y.cls).before a A.U = true := hinit _ _ X.warmed
  have h4 : A.cells + (headSpec ws rm).room.cells ≤ R.cells := by rw [show (headSpec ws rm).room.cells = mc from hrc]; exact hp.1
  have h5 : A.slots + (headSpec ws rm).room.slots ≤ R.slots := by rw [show (headSpec ws rm).room.slots = ms from hrs]; exact hp.2.1
  have hPc : Pc a (A.U.calling g mk a) := hblind _ _ _ _ hp.2.2
  obtain ⟨U, Ls, c0, s0⟩ := A
  dsimp only [Pt.U, Pt.locs, Pt.cells, Pt.slots] at h1 h2 h3 h4 h5 X hn hPc ⊢
  obtain ⟨methY, cY, hmY, hcY, -, hlY, -, -, -, -⟩ := Cond.code_spec hn h2
  obtain ⟨kY, hkY, -⟩ := className_of_methodNamed hn
  have hinitY : kY.init = .initialized := Cond.initialized_spec (findClass_of_methodNamed hn) hkY h3
  have h : At U g.method c below := by rw [hg]; exact X.here
  have hlocals9 : W9 + (maxL + 11) + (headSpec ws rm).room.locals ≤ R.locals := hlocals
  have happ : (headSpec ws rm).appliesLoose y e.platform (U.calling g mk a) = true :=
    Spec.appliesLoose_calling (g := g) h hdg hn hkY hinitY
      (X.room_calling (g := g) (R' := (headSpec ws rm).room) hsize hmY hcY hframes (by rw [hlY]; omega) h4 h5) h1
  obtain ⟨mid, hmid⟩ := h.above
  have hfr : (U.setTop g).frames = (.java g :: mid) ++ below := by rw [State.frames_setTop' g h.top, hmid]; rfl
  obtain ⟨o, s₂, hsteps, -, hend, hq⟩ := Steps.callFree hM p X.admits X.cas X.clock (acts := []) hfr happ hPc trivial
  have hq' : vx_Q Qc XC mc ms free a (U.calling g mk a) o s₂ := hq
  rw [State.frames_setTop' g h.top] at hend
  obtain ⟨g₀, hg0⟩ := Option.isSome_iff_exists.mp h.top
  obtain ⟨r, hr⟩ := State.topJava?_eq_some.mp hg0
  have hr' : (({ U with heap := s₂.heap, slotsUsed := s₂.slotsUsed } : State).setVm s₂.vm).frames = .java g₀ :: r := hr
  rcases hq' with ⟨hqc, L, hfe, hL⟩ | ⟨q, rfl, E, ce, L, hx, hce, hcv, hcl, hW₂, hsm, hL⟩
  · obtain ⟨⟨v, rfl⟩, hW₂, e2, q2, q3, q4, q5, q6⟩ := id hfe
    have e3 : s₂ = ({ (U.calling g mk a).setFrames s₂.frames with heap := s₂.heap, slotsUsed := s₂.slotsUsed } : State).setVm s₂.vm := by
      have : s₂ = ({ s₂ with vm := (U.calling g mk a).vm } : State).setVm s₂.vm := rfl
      rw [e2] at this
      exact this
    obtain ⟨c₂, i₂, len₂, hc₂, hd₂, hf₂⟩ := hend
    have hW' : U.WarmedH s₂.vm := hW₂
    have hcc : c₂ = c := by
      have h1 : s₂.code? g.method = U.code? g.method := by
        rw [State.code?_eq, State.code?_eq, hW'.alike.method?]
      exact Option.some.inj (hc₂.symm.trans (h1.trans h.code))
    subst hcc
    have hlen : len₂ = len := by rw [hdg] at hd₂; cases hd₂; rfl
    subst hlen
    have hs₂ : s₂ = (({ U with heap := s₂.heap, slotsUsed := s₂.slotsUsed } : State).setVm s₂.vm).setTop { g with pc := g.pc + len₂, stack := v.toList ++ g.stack } := by
      refine e3.trans ?_
      rw [hf₂, State.calling_eq h.top, State.setFrames_setFrames, State.setTop_of_frames _ hr', hr]
      rfl
    have hsame : U.sameButNew ({ U with heap := s₂.heap, slotsUsed := s₂.slotsUsed } : State) L mc ms := by
      refine ⟨?_, q2, q3, q4, q5, q6⟩
      obtain ⟨t, ht, -⟩ := State.frames_cons hr
      show ({ U with heap := s₂.heap, slotsUsed := s₂.slotsUsed } : State) = { U.setFrames U.frames with heap := s₂.heap, slotsUsed := s₂.slotsUsed }
      rw [State.setFrames_self ht]
    subst hg
    refine Or.inl ⟨v, ⟨(({ U with heap := s₂.heap, slotsUsed := s₂.slotsUsed } : State).setVm s₂.vm), Ls ++ L, c0 + mc, s0 + ms⟩,
      ⟨X.admits, X.cas, X.clock, X.frames, X.room, X.hears, X.method, X.code, (X.here.setHeapUsed s₂.heap s₂.slotsUsed).setVm hW'.alike, X.tail, State.WarmedH.trans X.warmed hW', X.limits, X.bytes, X.same.trans (hsame.setVm s.vm)⟩,
      ⟨g, mk, s₂, L, rfl, rfl, hqc, rfl, hL, rfl, rfl⟩, ?_⟩
    show Steps p.tables e below _ ((({ U with heap := s₂.heap, slotsUsed := s₂.slotsUsed } : State).setVm s₂.vm).setTop { g with pc := g.pc + len₂, stack := v.toList ++ g.stack })
    rw [← hs₂]
    exact hsteps
  · obtain ⟨e2, q2, q3, q4, q5, q6⟩ := id hsm
    have e3 : s₂ = ({ (U.calling g mk a).setFrames s₂.frames with heap := s₂.heap, slotsUsed := s₂.slotsUsed } : State).setVm s₂.vm := by
      have : s₂ = ({ s₂ with vm := (U.calling g mk a).vm } : State).setVm s₂.vm := rfl
      rw [e2] at this
      exact this
    have hf₂ : s₂.frames = .throwing q :: .java g :: U.frames.tail := hend
    have hW' : U.WarmedH s₂.vm := hW₂
    have hs₂ : s₂ = ((({ U with heap := s₂.heap, slotsUsed := s₂.slotsUsed } : State).setVm s₂.vm).setTop g).pushFrame (.throwing q) := by
      refine e3.trans ?_
      rw [hf₂, State.calling_eq h.top, State.setFrames_setFrames, State.pushFrame, State.frames_setTop _ hr', State.setTop_of_frames _ hr', State.setFrames_setFrames, hr]
      rfl
    have hsame : U.sameButNew ({ U with heap := s₂.heap, slotsUsed := s₂.slotsUsed } : State) L mc ms := by
      refine ⟨?_, q2, q3, q4, q5, q6⟩
      obtain ⟨t, ht, -⟩ := State.frames_cons hr
      show ({ U with heap := s₂.heap, slotsUsed := s₂.slotsUsed } : State) = { U.setFrames U.frames with heap := s₂.heap, slotsUsed := s₂.slotsUsed }
      rw [State.setFrames_self ht]
    subst hg
    refine Or.inr ⟨q, ⟨(({ U with heap := s₂.heap, slotsUsed := s₂.slotsUsed } : State).setVm s₂.vm), Ls ++ L, c0 + mc, s0 + ms⟩,
      ⟨X.admits, X.cas, X.clock, X.frames, X.room, X.hears, X.method, X.code, (X.here.setHeapUsed s₂.heap s₂.slotsUsed).setVm hW'.alike, X.tail, State.WarmedH.trans X.warmed hW', X.limits, X.bytes, X.same.trans (hsame.setVm s.vm)⟩,
      ⟨g, mk, s₂, L, E, ce, rfl, rfl, hx, hce, hcv, hcl, rfl, hL, rfl, rfl⟩, ?_⟩
    show Steps p.tables e below _ (((({ U with heap := s₂.heap, slotsUsed := s₂.slotsUsed } : State).setVm s₂.vm).setTop g).pushFrame (.throwing q))
    rw [← hs₂]
    exact hsteps
end Payer
section Calls
variable {p : Program} {l : Launch} {e : Env} {R : Room} {s : State} {m : MethodId} {args : Array Value} {below : List Frame} {meth : Method} {c : Code} {T : State} {locs : List Loc} {cells slots : Nat}
theorem vx_callV (X : Stand p l e R s m args below meth c T locs cells slots) (hexec : p.tables.exec = Jvm.exec) {own C : String} {index : Nat} {y : MethodName} {bytes : ByteArray} {maxL : Nat} {ret : Option FieldType}
    (hown : s.vm.findClass own = some m.cls) (hlink : (Cond.methodLink own index y).before args s = true) (hinst : (Cond.instanceMethod y).before args s = true) (hsel : (Cond.selects C y y).before args s = true)
    (hcode : (Cond.code y bytes maxL ret).before args s = true) (hy : y.cls ≠ "java/lang/invoke/MethodHandle" ∧ y.cls ≠ "java/lang/invoke/VarHandle")
    {W9 : Nat} {Pre : Pt → Array Value → Prop} {Post : Pt → Array Value → Option Value → Pt → Prop} {PostX : Pt → Array Value → Addr → Pt → Prop} (hK : vx_Back l R p e below s args y 3 W9 Pre Post PostX)
    {b : Addr} {cellB : Cell} (hcell : T.heap[b]? = some cellB) (hobj : cellB.vm.isStatics = false) (hcls : s.vm.findClass C = some cellB.cls)
    {g : JFrame} (hg : g.method = m) (hsize : g.locals.size = c.maxLocals) {argsL rest : List Value} (hlen : ∀ sig, parseMethodDescriptor y.desc = some sig → argsL.length = sig.parameters.length)
    (hstack : g.stack = argsL.reverse ++ .ref b :: rest) (hW : 2 * g.monitorRoom + (rest.map fun v => v.category).sum ≤ W9) (hdg : decode c.code g.pc = .ok (.invokevirtual index, 3))
    (hpre : ∀ vm₁, s.WarmedH vm₁ → Pre ⟨T.setVm vm₁, locs, cells, slots⟩ (Value.ref b :: argsL).toArray) :
    (∃ (v : Option Value) (vm₁ : Vm) (B : Pt), s.WarmedH vm₁ ∧ Stand p l e R s m args below meth c B.U B.locs B.cells B.slots ∧ Post ⟨T.setVm vm₁, locs, cells, slots⟩ (Value.ref b :: argsL).toArray v B ∧
      ∀ target, Steps p.tables e below (B.U.setTop { g with pc := g.pc + 3, stack := v.toList ++ rest }) target → Steps p.tables e below (T.setTop g) target) ∨
    (∃ (q : Addr) (vm₁ : Vm) (B : Pt), s.WarmedH vm₁ ∧ Stand p l e R s m args below meth c B.U B.locs B.cells B.slots ∧ PostX ⟨T.setVm vm₁, locs, cells, slots⟩ (Value.ref b :: argsL).toArray q B ∧
      Steps p.tables e below (T.setTop g) ((B.U.setTop { g with stack := rest }).pushFrame (.throwing q))) := by
  obtain ⟨mk, methM, hnamed, hmethM, hstM, habM⟩ := Cond.instanceMethod_spec hinst
  obtain ⟨methM', cM, hmethM', -, -, -, -, -, -, hsigM⟩ := Cond.code_spec hnamed hcode
  cases hmethM.symm.trans hmethM'
  obtain ⟨c2, r2, m2, q1, q2, q3, q4, kP, hkP, hkPi⟩ := Cond.selects_spec hsel
  cases hcls.symm.trans q1
  cases (State.methodFound?_of_named hnamed hy).symm.trans q2
  cases hnamed.symm.trans q3
  have hselP : selectMethod e.platform s.vm cellB.cls mk = .method mk := by rw [Launch.admits_selectMethod X.admits]; exact q4
  obtain ⟨vm₁, X₁, hstep₁⟩ := X.invokevirtual hexec hown hlink hnamed hmethM hstM hkP hkPi hy (a := b) (cell := cellB) hcell
    (fun z h => by rw [h] at hobj; cases hobj) hselP hmethM habM hkP hkPi (g := g) hg (argsL := argsL) (rest := rest) (hlen _ hsigM) hstack hdg
  rcases hK m meth c ⟨T.setVm vm₁, locs, cells, slots⟩ { g with stack := rest } (.invokevirtual index) mk (Value.ref b :: argsL).toArray X₁ hg hsize hdg hW (X₁.named hnamed) (hpre vm₁ X₁.warmed) with ⟨v, B, X', hpost, hsteps⟩ | ⟨q, B, X', hpost, hsteps⟩
  · exact Or.inl ⟨v, vm₁, B, X₁.warmed, X', hpost, fun target h => hstep₁ _ fun acts => by rw [doInvoke_state]; exact hsteps.trans h⟩
  · exact Or.inr ⟨q, vm₁, B, X₁.warmed, X', hpost, hstep₁ _ fun acts => by rw [doInvoke_state]; exact hsteps⟩
theorem vx_callS (X : Stand p l e R s m args below meth c T locs cells slots) (hexec : p.tables.exec = Jvm.exec) {own : String} {index : Nat} {y : MethodName} {bytes : ByteArray} {maxL : Nat} {ret : Option FieldType}
    (hown : s.vm.findClass own = some m.cls) (hlink : (Cond.methodLink own index y).before args s = true) (hstat : (Cond.static y).before args s = true) (hinit : (Cond.initialized y.cls).before args s = true)
    (hcode : (Cond.code y bytes maxL ret).before args s = true) (hy : y.cls ≠ "java/lang/invoke/MethodHandle" ∧ y.cls ≠ "java/lang/invoke/VarHandle")
    {W9 : Nat} {Pre : Pt → Array Value → Prop} {Post : Pt → Array Value → Option Value → Pt → Prop} {PostX : Pt → Array Value → Addr → Pt → Prop} (hK : vx_Back l R p e below s args y 3 W9 Pre Post PostX)
    {g : JFrame} (hg : g.method = m) (hsize : g.locals.size = c.maxLocals) {argsL rest : List Value} (hlen : ∀ sig, parseMethodDescriptor y.desc = some sig → argsL.length = sig.parameters.length)
    (hstack : g.stack = argsL.reverse ++ rest) (hW : 2 * g.monitorRoom + (rest.map fun v => v.category).sum ≤ W9) (hdg : decode c.code g.pc = .ok (.invokestatic index, 3))
    (hpre : ∀ vm₁, s.WarmedH vm₁ → Pre ⟨T.setVm vm₁, locs, cells, slots⟩ argsL.toArray) :
    (∃ (v : Option Value) (vm₁ : Vm) (B : Pt), s.WarmedH vm₁ ∧ Stand p l e R s m args below meth c B.U B.locs B.cells B.slots ∧ Post ⟨T.setVm vm₁, locs, cells, slots⟩ argsL.toArray v B ∧
      ∀ target, Steps p.tables e below (B.U.setTop { g with pc := g.pc + 3, stack := v.toList ++ rest }) target → Steps p.tables e below (T.setTop g) target) ∨
    (∃ (q : Addr) (vm₁ : Vm) (B : Pt), s.WarmedH vm₁ ∧ Stand p l e R s m args below meth c B.U B.locs B.cells B.slots ∧ PostX ⟨T.setVm vm₁, locs, cells, slots⟩ argsL.toArray q B ∧
      Steps p.tables e below (T.setTop g) ((B.U.setTop { g with stack := rest }).pushFrame (.throwing q))) := by
  obtain ⟨mk, hnamed⟩ := Cond.code_named hcode
  obtain ⟨methM, cM, hmethM, -, -, -, -, -, -, hsigM⟩ := Cond.code_spec hnamed hcode
  have hstatic : methM.isStatic = true := Cond.static_spec hnamed hmethM hstat
  obtain ⟨kP, hkP, -⟩ := className_of_methodNamed hnamed
  have hinitP : kP.init = .initialized := Cond.initialized_spec (findClass_of_methodNamed hnamed) hkP hinit
  obtain ⟨vm₁, X₁, hstep₁⟩ := X.invokestatic hexec hown hlink hnamed hmethM hstatic hkP hinitP hy (g := g) hg (argsL := argsL) (rest := rest) (hlen _ hsigM) hstack hdg
  rcases hK m meth c ⟨T.setVm vm₁, locs, cells, slots⟩ { g with stack := rest } (.invokestatic index) mk argsL.toArray X₁ hg hsize hdg hW (X₁.named hnamed) (hpre vm₁ X₁.warmed) with ⟨v, B, X', hpost, hsteps⟩ | ⟨q, B, X', hpost, hsteps⟩
  · exact Or.inl ⟨v, vm₁, B, X₁.warmed, X', hpost, fun target h => hstep₁ _ fun acts => by rw [doInvoke_state]; exact hsteps.trans h⟩
  · exact Or.inr ⟨q, vm₁, B, X₁.warmed, X', hpost, hstep₁ _ fun acts => by rw [doInvoke_state]; exact hsteps⟩
end Calls
theorem vx_cls {s : State} {T : State} {vm₁ : Vm} {E : String} {k : ClassId} (hW : s.WarmedH vm₁) (h : (T.setVm vm₁).vm.findClass E = some k) : s.vm.findClass E = some k := by
  have h1 : vm₁.findClass E = some k := h
  rw [hW.alike.findClass] at h1
  exact h1
/-- the method's frame g, with q thrown over it -/
def vx_W (p : Program) (l : Launch) (e : Env) (R : Room) (s : State) (m : MethodId) (args : Array Value) (below : List Frame) (meth : Method) (c : Code) (H : Heap) (locs : List Loc) (cells slots : Nat) (Q : State → Prop) (g : JFrame) (q : Addr) : Prop :=
  ∀ T : State, T.heap = H → Stand p l e R s m args below meth c T locs cells slots → ∃ t, Steps p.tables e below ((T.setTop g).pushFrame (.throwing q)) t ∧ Q t
def vx_Run (p : Program) (l : Launch) (e : Env) (R : Room) (s : State) (m : MethodId) (args : Array Value) (below : List Frame) (meth : Method) (c : Code) (H : Heap) (locs : List Loc) (cells slots mc ms : Nat) (g : JFrame) (rest : List Value) (Qa : State → Outcome → State → Prop) (XC : String → State → State → Prop) (free : Addr → Prop) : Prop :=
  ∀ T : State, T.heap = H → Stand p l e R s m args below meth c T locs cells slots →
    (∃ (v : Option Value) (st₀ t T' : State) (L : List Loc), st₀.heap = H ∧ Stand p l e R s m args below meth c T' (locs ++ L) (cells + mc) (slots + ms) ∧ (∀ q ∈ L, free q.base) ∧ T'.heap = t.heap ∧ T'.vm = t.vm ∧ Qa st₀ (.returned v) t ∧
      Goes p e below T g T' { g with pc := g.pc + 3, stack := v.toList ++ rest }) ∨
    (∃ (q : Addr) (st₀ t T' : State) (L : List Loc) (E : String) (ce : Cell), st₀.heap = H ∧ Stand p l e R s m args below meth c T' (locs ++ L) (cells + mc) (slots + ms) ∧ (∀ z ∈ L, free z.base) ∧ T'.heap = t.heap ∧ T'.vm = t.vm ∧ XC E st₀ t ∧ t.heap[q]? = some ce ∧ ce.vm = .none ∧ s.vm.findClass E = some ce.cls ∧
      Steps p.tables e below (T.setTop g) ((T'.setTop { g with stack := rest }).pushFrame (.throwing q)))
def vx_X {S : Type} (px : S → Prop) (B : String → S → State → Prop) (A : Nat → Prop) : String → State → State → Prop := fun E st t => ∃ u : S, px u ∧ B E u t ∧ va_F A st t
section Runs
variable {p : Program} {l : Launch} {e : Env} {R : Room} {s : State} {m : MethodId} {args : Array Value} {below : List Frame} {meth : Method} {c : Code} {H : Heap} {locs : List Loc} {cells slots : Nat}
variable {y : MethodName} {bytes cc : ByteArray} {maxL nL mc ms n index : Nat} {ret : Option FieldType} {ws : List Cond} {rm : Room} {Pc : Array Value → State → Prop} {Qc : Array Value → State → Outcome → State → Prop} {XC : String → State → State → Prop} {free : Addr → Prop} {Ts : List Cond} {own C : String} {b : Addr} {As rest : List Value} {g : JFrame}
theorem vx_callBack (cb : CallB R s args own index y bytes maxL ret ws rm mc ms n) (hM : vx_Met l y ws rm Pc Qc XC mc ms free) (hbl : FrameBlind Pc) : vx_Back l R p e below s args y 3 8 (PreOf R mc ms Pc) (PostOf Qc mc ms free) (vx_Post XC mc ms free) := by
  obtain ⟨hrc, hrs, hfr, hlo, hws, hcw, -, hini, -⟩ := cb
  exact vx_back (bytes := bytes) (maxL := maxL) (ret := ret) hM hbl hrc hrs hfr hlo hws hcw (fun a' U hW => word_at hW (Or.inl (by first | rfl | simp [Cond.onTables, Cond.keeps, Cond.steady])) hini)
theorem vx_runV (S : CallFix p m c cc nL s args Ts own) (hM : vx_Met l y ws rm Pc Qc XC mc ms free) (cw : CallW R s args own C index y bytes maxL ret ws rm mc ms n) (hp : PreV s H C b Pc As)
    (hg : g.method = m) (hn : As.length = n) (hsize : g.locals.size = nL) (hstack : g.stack = As.reverse ++ .ref b :: rest) (hW : 2 * g.monitorRoom + (rest.map fun v => v.category).sum ≤ 8) (hdg : decode cc g.pc = .ok (.invokevirtual index, 3)) (hf : cells + mc ≤ R.cells ∧ slots + ms ≤ R.slots) :
    vx_Run p l e R s m args below meth c H locs cells slots mc ms g rest (Qc (Value.ref b :: As).toArray) XC free := by
  have hK : vx_Back l R p e below s args y 3 8 (PreOf R mc ms Pc) (PostOf Qc mc ms free) (vx_Post XC mc ms free) := vx_callBack cw.1 hM hp.1
  obtain ⟨⟨-, -, -, -, -, -, hcode, -, hy, hlen, hl⟩, hin, hse⟩ := cw
  obtain ⟨hx, hb, hml, ho, -⟩ := S
  obtain ⟨-, ⟨cellB, hcB, hoB, hclB⟩, hPc⟩ := hp
  intro T hT X
  rcases vx_callV X hx (C := C) (bytes := bytes) (maxL := maxL) (ret := ret) ho hl hin hse hcode hy hK (by rw [hT]; exact hcB) hoB hclB hg (hsize.trans hml.symm) (argsL := As) (rest := rest) (fun sig h => hn.trans (hlen sig h)) hstack hW (by rw [hb]; exact hdg)
    (fun vm₁ hW₁ => ⟨hf.1, hf.2, hPc (T.setVm vm₁) hT hW₁⟩) with ⟨v, vm₁, ⟨U', l2, c2, s2⟩, hW₁, X', ⟨g', mk, t, L, e1, e2, hq, h1, hL, h2, h3⟩, st⟩ | ⟨q, vm₁, ⟨U', l2, c2, s2⟩, hW₁, X', ⟨g', mk, t, L, E, ce, e1, e2, hq, hce, hcv, hcl, h1, hL, h2, h3⟩, st⟩
  · dsimp only [Pt.U, Pt.locs, Pt.cells, Pt.slots] at X' e1 e2 h1 h2 h3 st
    subst h1; subst h2; subst h3
    exact Or.inl ⟨v, (T.setVm vm₁).calling g' mk (Value.ref b :: As).toArray, t, U', L, hT, X', hL, e1, e2, hq, st⟩
  · dsimp only [Pt.U, Pt.locs, Pt.cells, Pt.slots] at X' e1 e2 h1 h2 h3 st hcl
    subst h1; subst h2; subst h3
    exact Or.inr ⟨q, (T.setVm vm₁).calling g' mk (Value.ref b :: As).toArray, t, U', L, E, ce, hT, X', hL, e1, e2, hq, hce, hcv, vx_cls hW₁ hcl, st⟩
theorem vx_runS (S : CallFix p m c cc nL s args Ts own) (hM : vx_Met l y ws rm Pc Qc XC mc ms free) (cw : CallB R s args own index y bytes maxL ret ws rm mc ms n ∧ (Cond.static y).before args s = true) (hp : PreS s H Pc As)
    (hg : g.method = m) (hn : As.length = n) (hsize : g.locals.size = nL) (hstack : g.stack = As.reverse ++ rest) (hW : 2 * g.monitorRoom + (rest.map fun v => v.category).sum ≤ 8) (hdg : decode cc g.pc = .ok (.invokestatic index, 3)) (hf : cells + mc ≤ R.cells ∧ slots + ms ≤ R.slots) :
    vx_Run p l e R s m args below meth c H locs cells slots mc ms g rest (Qc As.toArray) XC free := by
  have hK : vx_Back l R p e below s args y 3 8 (PreOf R mc ms Pc) (PostOf Qc mc ms free) (vx_Post XC mc ms free) := vx_callBack cw.1 hM hp.1
  obtain ⟨⟨-, -, -, -, -, -, hcode, hini, hy, hlen, hl⟩, hstt⟩ := cw
  obtain ⟨hx, hb, hml, ho, -⟩ := S
  intro T hT X
  rcases vx_callS X hx (bytes := bytes) (maxL := maxL) (ret := ret) ho hl hstt hini hcode hy hK hg (hsize.trans hml.symm) (argsL := As) (rest := rest) (fun sig h => hn.trans (hlen sig h)) hstack hW (by rw [hb]; exact hdg)
    (fun vm₁ hW₁ => ⟨hf.1, hf.2, hp.2 (T.setVm vm₁) hT hW₁⟩) with ⟨v, vm₁, ⟨U', l2, c2, s2⟩, hW₁, X', ⟨g', mk, t, L, e1, e2, hq, h1, hL, h2, h3⟩, st⟩ | ⟨q, vm₁, ⟨U', l2, c2, s2⟩, hW₁, X', ⟨g', mk, t, L, E, ce, e1, e2, hq, hce, hcv, hcl, h1, hL, h2, h3⟩, st⟩
  · dsimp only [Pt.U, Pt.locs, Pt.cells, Pt.slots] at X' e1 e2 h1 h2 h3 st
    subst h1; subst h2; subst h3
    exact Or.inl ⟨v, (T.setVm vm₁).calling g' mk As.toArray, t, U', L, hT, X', hL, e1, e2, hq, st⟩
  · dsimp only [Pt.U, Pt.locs, Pt.cells, Pt.slots] at X' e1 e2 h1 h2 h3 st hcl
    subst h1; subst h2; subst h3
    exact Or.inr ⟨q, (T.setVm vm₁).calling g' mk As.toArray, t, U', L, E, ce, hT, X', hL, e1, e2, hq, hce, hcv, vx_cls hW₁ hcl, st⟩
end Runs
section Rows
variable {p : Program} {l : Launch} {e : Env} {R : Room} {s : State} {m : MethodId} {args : Array Value} {below : List Frame} {meth : Method} {c : Code} {H : Heap} {locs : List Loc} {cells slots : Nat} {Q : State → Prop}
variable {mc ms : Nat} {free : Addr → Prop} {A0 A1 : Nat → Prop} {H0 : Heap} {a : Array Value} {pc : Nat} {ls : Array Slot} {st0 rest : List Value}
theorem vx_keep {st₀ t T' : State} {L : List Loc} (h0 : st₀.heap = H) (e1 : T'.heap = t.heap) (hS : va_S A0 H0 H locs) (hA : ∀ q, q < H.size → A1 q → A0 q) (hf : ∀ q, free q → A0 q) (hL : ∀ q ∈ L, free q.base) (hF : va_F A1 st₀ t) :
    H.size ≤ T'.heap.size ∧ (∀ q : Nat, q < H.size → ¬ A1 q → T'.heap[q]? = H[q]?) ∧ va_S A0 H0 T'.heap (locs ++ L) := by
  obtain ⟨hz, hk⟩ := hF
  rw [h0] at hz hk
  exact ⟨by rw [e1]; exact hz, fun q h1 h2 => by rw [e1]; exact hk q h1 h2,
    ⟨Nat.le_trans hS.1 (by rw [e1]; exact hz), fun q h1 h2 => by rw [e1, hk q (Nat.lt_of_lt_of_le h1 hS.1) (fun z => h2 (hA q (Nat.lt_of_lt_of_le h1 hS.1) z))]; exact hS.2.1 q h1 h2, fun q hq => by
      rcases List.mem_append.mp hq with h | h
      · exact hS.2.2 q h
      · exact hf _ (hL q h)⟩⟩
theorem vx_calli {S SX : Type} {post : Int32 → S → Prop} {px : SX → Prop} {B : S → State → Prop} {BX : String → SX → State → Prop} {AX : Nat → Prop} (hr : vx_Run p l e R s m args below meth c H locs cells slots mc ms (F0 m pc ls st0) rest (va_Qi post B A1 a) (vx_X px BX AX) free) (hS : va_S A0 H0 H locs) (hA : ∀ q, q < H.size → A1 q → A0 q) (hf : ∀ q, free q → A0 q) (hAX : ∀ q, q < H.size → AX q → A0 q)
    (kx : ∀ (E : String) (ce : Cell) (q9 : Addr) (u : SX) (t : State) (H1 : Heap) (locs1 : List Loc), t.heap = H1 → s.vm.Alike t.vm → px u → BX E u t → H.size ≤ H1.size → (∀ q : Nat, q < H.size → ¬ AX q → H1[q]? = H[q]?) → va_S A0 H0 H1 locs1 → H1[q9]? = some ce → ce.vm = .none → s.vm.findClass E = some ce.cls → vx_W p l e R s m args below meth c H1 locs1 (cells + mc) (slots + ms) Q (F0 m pc ls rest) q9)
    (kk : ∀ (r : Int32) (u : S) (t : State) (H1 : Heap) (locs1 : List Loc), t.heap = H1 → s.vm.Alike t.vm → post r u → B u t → H.size ≤ H1.size → (∀ q : Nat, q < H.size → ¬ A1 q → H1[q]? = H[q]?) → va_S A0 H0 H1 locs1 → W p l e R s m args below meth c H1 locs1 (cells + mc) (slots + ms) Q (F0 m (pc + 3) ls (.int r :: rest))) : W p l e R s m args below meth c H locs cells slots Q (F0 m pc ls st0) := by
  intro T hT X
  rcases hr T hT X with ⟨v, st₀, t, T', L, h0, X', hL, e1, e2, ⟨⟨r, u, hv, hp, hb⟩, hF⟩, st⟩ | ⟨q, st₀, t, T', L, E, ce, h0, X', hL, e1, e2, ⟨u, hp, hb, hF⟩, hce, hcv, hcl, st⟩
  · cases hv
    obtain ⟨k1, k2, k3⟩ := vx_keep h0 e1 hS hA hf hL hF
    obtain ⟨t2, a1, b1⟩ := kk r u t T'.heap (locs ++ L) e1.symm (by rw [← e2]; exact X'.warmed.alike) hp hb k1 k2 k3 T' rfl X'
    exact ⟨t2, st t2 a1, b1⟩
  · obtain ⟨k1, k2, k3⟩ := vx_keep h0 e1 hS hAX hf hL hF
    obtain ⟨t2, a1, b1⟩ := kx E ce q u t T'.heap (locs ++ L) e1.symm (by rw [← e2]; exact X'.warmed.alike) hp hb k1 k2 k3 (by rw [e1]; exact hce) hcv hcl T' rfl X'
    exact ⟨t2, st.trans a1, b1⟩
theorem vx_calll {S SX : Type} {post : Int64 → S → Prop} {px : SX → Prop} {B : S → State → Prop} {BX : String → SX → State → Prop} {AX : Nat → Prop} (hr : vx_Run p l e R s m args below meth c H locs cells slots mc ms (F0 m pc ls st0) rest (va_Ql post B A1 a) (vx_X px BX AX) free) (hS : va_S A0 H0 H locs) (hA : ∀ q, q < H.size → A1 q → A0 q) (hf : ∀ q, free q → A0 q) (hAX : ∀ q, q < H.size → AX q → A0 q)
    (kx : ∀ (E : String) (ce : Cell) (q9 : Addr) (u : SX) (t : State) (H1 : Heap) (locs1 : List Loc), t.heap = H1 → s.vm.Alike t.vm → px u → BX E u t → H.size ≤ H1.size → (∀ q : Nat, q < H.size → ¬ AX q → H1[q]? = H[q]?) → va_S A0 H0 H1 locs1 → H1[q9]? = some ce → ce.vm = .none → s.vm.findClass E = some ce.cls → vx_W p l e R s m args below meth c H1 locs1 (cells + mc) (slots + ms) Q (F0 m pc ls rest) q9)
    (kk : ∀ (r : Int64) (u : S) (t : State) (H1 : Heap) (locs1 : List Loc), t.heap = H1 → s.vm.Alike t.vm → post r u → B u t → H.size ≤ H1.size → (∀ q : Nat, q < H.size → ¬ A1 q → H1[q]? = H[q]?) → va_S A0 H0 H1 locs1 → W p l e R s m args below meth c H1 locs1 (cells + mc) (slots + ms) Q (F0 m (pc + 3) ls (.long r :: rest))) : W p l e R s m args below meth c H locs cells slots Q (F0 m pc ls st0) := by
  intro T hT X
  rcases hr T hT X with ⟨v, st₀, t, T', L, h0, X', hL, e1, e2, ⟨⟨r, u, hv, hp, hb⟩, hF⟩, st⟩ | ⟨q, st₀, t, T', L, E, ce, h0, X', hL, e1, e2, ⟨u, hp, hb, hF⟩, hce, hcv, hcl, st⟩
  · cases hv
    obtain ⟨k1, k2, k3⟩ := vx_keep h0 e1 hS hA hf hL hF
    obtain ⟨t2, a1, b1⟩ := kk r u t T'.heap (locs ++ L) e1.symm (by rw [← e2]; exact X'.warmed.alike) hp hb k1 k2 k3 T' rfl X'
    exact ⟨t2, st t2 a1, b1⟩
  · obtain ⟨k1, k2, k3⟩ := vx_keep h0 e1 hS hAX hf hL hF
    obtain ⟨t2, a1, b1⟩ := kx E ce q u t T'.heap (locs ++ L) e1.symm (by rw [← e2]; exact X'.warmed.alike) hp hb k1 k2 k3 (by rw [e1]; exact hce) hcv hcl T' rfl X'
    exact ⟨t2, st.trans a1, b1⟩
theorem vx_callf {S SX : Type} {post : UInt32 → S → Prop} {px : SX → Prop} {B : S → State → Prop} {BX : String → SX → State → Prop} {AX : Nat → Prop} (hr : vx_Run p l e R s m args below meth c H locs cells slots mc ms (F0 m pc ls st0) rest (va_Qf post B A1 a) (vx_X px BX AX) free) (hS : va_S A0 H0 H locs) (hA : ∀ q, q < H.size → A1 q → A0 q) (hf : ∀ q, free q → A0 q) (hAX : ∀ q, q < H.size → AX q → A0 q)
    (kx : ∀ (E : String) (ce : Cell) (q9 : Addr) (u : SX) (t : State) (H1 : Heap) (locs1 : List Loc), t.heap = H1 → s.vm.Alike t.vm → px u → BX E u t → H.size ≤ H1.size → (∀ q : Nat, q < H.size → ¬ AX q → H1[q]? = H[q]?) → va_S A0 H0 H1 locs1 → H1[q9]? = some ce → ce.vm = .none → s.vm.findClass E = some ce.cls → vx_W p l e R s m args below meth c H1 locs1 (cells + mc) (slots + ms) Q (F0 m pc ls rest) q9)
    (kk : ∀ (r : UInt32) (u : S) (t : State) (H1 : Heap) (locs1 : List Loc), t.heap = H1 → s.vm.Alike t.vm → post r u → B u t → H.size ≤ H1.size → (∀ q : Nat, q < H.size → ¬ A1 q → H1[q]? = H[q]?) → va_S A0 H0 H1 locs1 → W p l e R s m args below meth c H1 locs1 (cells + mc) (slots + ms) Q (F0 m (pc + 3) ls (.float r :: rest))) : W p l e R s m args below meth c H locs cells slots Q (F0 m pc ls st0) := by
  intro T hT X
  rcases hr T hT X with ⟨v, st₀, t, T', L, h0, X', hL, e1, e2, ⟨⟨r, u, hv, hp, hb⟩, hF⟩, st⟩ | ⟨q, st₀, t, T', L, E, ce, h0, X', hL, e1, e2, ⟨u, hp, hb, hF⟩, hce, hcv, hcl, st⟩
  · cases hv
    obtain ⟨k1, k2, k3⟩ := vx_keep h0 e1 hS hA hf hL hF
    obtain ⟨t2, a1, b1⟩ := kk r u t T'.heap (locs ++ L) e1.symm (by rw [← e2]; exact X'.warmed.alike) hp hb k1 k2 k3 T' rfl X'
    exact ⟨t2, st t2 a1, b1⟩
  · obtain ⟨k1, k2, k3⟩ := vx_keep h0 e1 hS hAX hf hL hF
    obtain ⟨t2, a1, b1⟩ := kx E ce q u t T'.heap (locs ++ L) e1.symm (by rw [← e2]; exact X'.warmed.alike) hp hb k1 k2 k3 (by rw [e1]; exact hce) hcv hcl T' rfl X'
    exact ⟨t2, st.trans a1, b1⟩
theorem vx_calld {S SX : Type} {post : UInt64 → S → Prop} {px : SX → Prop} {B : S → State → Prop} {BX : String → SX → State → Prop} {AX : Nat → Prop} (hr : vx_Run p l e R s m args below meth c H locs cells slots mc ms (F0 m pc ls st0) rest (va_Qd post B A1 a) (vx_X px BX AX) free) (hS : va_S A0 H0 H locs) (hA : ∀ q, q < H.size → A1 q → A0 q) (hf : ∀ q, free q → A0 q) (hAX : ∀ q, q < H.size → AX q → A0 q)
    (kx : ∀ (E : String) (ce : Cell) (q9 : Addr) (u : SX) (t : State) (H1 : Heap) (locs1 : List Loc), t.heap = H1 → s.vm.Alike t.vm → px u → BX E u t → H.size ≤ H1.size → (∀ q : Nat, q < H.size → ¬ AX q → H1[q]? = H[q]?) → va_S A0 H0 H1 locs1 → H1[q9]? = some ce → ce.vm = .none → s.vm.findClass E = some ce.cls → vx_W p l e R s m args below meth c H1 locs1 (cells + mc) (slots + ms) Q (F0 m pc ls rest) q9)
    (kk : ∀ (r : UInt64) (u : S) (t : State) (H1 : Heap) (locs1 : List Loc), t.heap = H1 → s.vm.Alike t.vm → post r u → B u t → H.size ≤ H1.size → (∀ q : Nat, q < H.size → ¬ A1 q → H1[q]? = H[q]?) → va_S A0 H0 H1 locs1 → W p l e R s m args below meth c H1 locs1 (cells + mc) (slots + ms) Q (F0 m (pc + 3) ls (.double r :: rest))) : W p l e R s m args below meth c H locs cells slots Q (F0 m pc ls st0) := by
  intro T hT X
  rcases hr T hT X with ⟨v, st₀, t, T', L, h0, X', hL, e1, e2, ⟨⟨r, u, hv, hp, hb⟩, hF⟩, st⟩ | ⟨q, st₀, t, T', L, E, ce, h0, X', hL, e1, e2, ⟨u, hp, hb, hF⟩, hce, hcv, hcl, st⟩
  · cases hv
    obtain ⟨k1, k2, k3⟩ := vx_keep h0 e1 hS hA hf hL hF
    obtain ⟨t2, a1, b1⟩ := kk r u t T'.heap (locs ++ L) e1.symm (by rw [← e2]; exact X'.warmed.alike) hp hb k1 k2 k3 T' rfl X'
    exact ⟨t2, st t2 a1, b1⟩
  · obtain ⟨k1, k2, k3⟩ := vx_keep h0 e1 hS hAX hf hL hF
    obtain ⟨t2, a1, b1⟩ := kx E ce q u t T'.heap (locs ++ L) e1.symm (by rw [← e2]; exact X'.warmed.alike) hp hb k1 k2 k3 (by rw [e1]; exact hce) hcv hcl T' rfl X'
    exact ⟨t2, st.trans a1, b1⟩
theorem vx_callv {S SX : Type} {post : S → Prop} {px : SX → Prop} {B : S → State → Prop} {BX : String → SX → State → Prop} {AX : Nat → Prop} (hr : vx_Run p l e R s m args below meth c H locs cells slots mc ms (F0 m pc ls st0) rest (va_Qv post B A1 a) (vx_X px BX AX) free) (hS : va_S A0 H0 H locs) (hA : ∀ q, q < H.size → A1 q → A0 q) (hf : ∀ q, free q → A0 q) (hAX : ∀ q, q < H.size → AX q → A0 q)
    (kx : ∀ (E : String) (ce : Cell) (q9 : Addr) (u : SX) (t : State) (H1 : Heap) (locs1 : List Loc), t.heap = H1 → s.vm.Alike t.vm → px u → BX E u t → H.size ≤ H1.size → (∀ q : Nat, q < H.size → ¬ AX q → H1[q]? = H[q]?) → va_S A0 H0 H1 locs1 → H1[q9]? = some ce → ce.vm = .none → s.vm.findClass E = some ce.cls → vx_W p l e R s m args below meth c H1 locs1 (cells + mc) (slots + ms) Q (F0 m pc ls rest) q9)
    (kk : ∀ (u : S) (t : State) (H1 : Heap) (locs1 : List Loc), t.heap = H1 → s.vm.Alike t.vm → post u → B u t → H.size ≤ H1.size → (∀ q : Nat, q < H.size → ¬ A1 q → H1[q]? = H[q]?) → va_S A0 H0 H1 locs1 → W p l e R s m args below meth c H1 locs1 (cells + mc) (slots + ms) Q (F0 m (pc + 3) ls (rest))) : W p l e R s m args below meth c H locs cells slots Q (F0 m pc ls st0) := by
  intro T hT X
  rcases hr T hT X with ⟨v, st₀, t, T', L, h0, X', hL, e1, e2, ⟨⟨u, hv, hp, hb⟩, hF⟩, st⟩ | ⟨q, st₀, t, T', L, E, ce, h0, X', hL, e1, e2, ⟨u, hp, hb, hF⟩, hce, hcv, hcl, st⟩
  · cases hv
    obtain ⟨k1, k2, k3⟩ := vx_keep h0 e1 hS hA hf hL hF
    obtain ⟨t2, a1, b1⟩ := kk u t T'.heap (locs ++ L) e1.symm (by rw [← e2]; exact X'.warmed.alike) hp hb k1 k2 k3 T' rfl X'
    exact ⟨t2, st t2 a1, b1⟩
  · obtain ⟨k1, k2, k3⟩ := vx_keep h0 e1 hS hAX hf hL hF
    obtain ⟨t2, a1, b1⟩ := kx E ce q u t T'.heap (locs ++ L) e1.symm (by rw [← e2]; exact X'.warmed.alike) hp hb k1 k2 k3 (by rw [e1]; exact hce) hcv hcl T' rfl X'
    exact ⟨t2, st.trans a1, b1⟩
end Rows
section Ends
variable {p : Program} {l : Launch} {e : Env} {R : Room} {s : State} {m : MethodId} {args : Array Value} {below : List Frame} {meth : Method} {c : Code} {H : Heap} {locs : List Loc} {cells slots : Nat} {Q : State → Prop}
variable {mc ms : Nat} {free : Addr → Prop} {A0 A1 : Nat → Prop} {H0 : Heap} {a : Array Value} {ls : Array Slot} {st0 rest : List Value}
variable {Qc : Array Value → State → Outcome → State → Prop} {XC : String → State → State → Prop}
/-- what a body that may throw owes at its end -/
def vx_MQ (below : List Frame) (Qc : Array Value → State → Outcome → State → Prop) (XC : String → State → State → Prop) (a : Array Value) (s : State) (mc ms : Nat) (free : Addr → Prop) : State → Prop := fun t =>
  ∃ o, t.status = .running ∧ Ended t below o ∧ vx_Q Qc XC mc ms free a s o t
theorem vx_ret {g : JFrame} {mc ms : Nat} (k : W p l e R s m args below meth c H locs cells slots (MQ below Qc args s mc ms free) g) : W p l e R s m args below meth c H locs cells slots (vx_MQ below Qc XC args s mc ms free) g := by
  intro T hT X
  obtain ⟨t, a1, o, b1, b2, b3, b4⟩ := k T hT X
  exact ⟨t, a1, o, b1, b2, Or.inl ⟨b3, b4⟩⟩
/-- not caught here: it goes on to the caller -/
theorem vx_widen {g : JFrame} {q : Addr} {k n : Nat} (h1 : cells ≤ k) (h2 : slots ≤ n) (kk : vx_W p l e R s m args below meth c H locs k n Q g q) : vx_W p l e R s m args below meth c H locs cells slots Q g q := fun T hT X => kk T hT (stand_widen X h1 h2)
theorem vx_out {pc : Nat} {E : String} {ce : Cell} {q : Addr} {mc ms : Nat} (hout : ∀ x ∈ c.exceptionTable.toList, covers x pc = false) (hlocks : meth.locks = false) (hcell : H[q]? = some ce) (hv : ce.vm = .none) (hcl : s.vm.findClass E = some ce.cls)
    (hx : ∀ t : State, t.heap = H → s.vm.Alike t.vm → XC E s t) (hf : ∀ z ∈ locs, free z.base) (hc : cells ≤ mc) (hs : slots ≤ ms) :
    vx_W p l e R s m args below meth c H locs cells slots (vx_MQ below Qc XC args s mc ms free) (F0 m pc ls rest) q := by
  intro T hT X
  obtain ⟨st1, hrun, hend, hW, hsm⟩ := X.leaveThrown q (g := F0 m pc ls rest) rfl rfl rfl hout hlocks
  have hcell9 : (T.setFrames (.throwing q :: below)).heap[q]? = some ce := by
    show T.heap[q]? = some ce
    rw [hT]; exact hcell
  exact ⟨_, st1, .threw q, hrun, hend, Or.inr ⟨q, rfl, E, ce, locs, hx _ hT hW.alike, hcell9, hv, hcl, hW, hsm.mono hc hs, hf⟩⟩
theorem vx_frame {U : State} {k n : Nat} (h : s.sameButNew ({ U with vm := s.vm } : State) locs k n) : s.heap.size ≤ U.heap.size ∧ ∀ q : Nat, q < s.heap.size → (∀ z ∈ locs, z.base ≠ q) → U.heap[q]? = s.heap[q]? := by
  obtain ⟨-, h2, -, -, -, h6⟩ := h
  refine ⟨h2, fun q hq hz => ?_⟩
  obtain ⟨c9, e1, e2, e3, e4⟩ := h6 q _ (Array.getElem?_eq_getElem hq)
  have hs : c9.slots = (s.heap[q]).slots := Array.ext_getElem? fun i => e4 i fun hm => hz _ hm rfl
  have h9 : c9 = s.heap[q] := by
    rw [hs] at e2
    exact e2
  have e5 : U.heap[q]? = some c9 := e1
  rw [e5, h9, Array.getElem?_eq_getElem hq]
/-- the words of a throw but the four that speak of the heap -/
def vx_no (w : Cond) : Bool := decide (w ≠ .isRef (.static Bundle.tN "UNASSIGNED_STACK" Bundle.steD)) && decide (w ≠ .isRef (.static Bundle.tN "SUPPRESSED_SENTINEL" Bundle.listD)) && decide (w ≠ .laysStatic Bundle.tN "UNASSIGNED_STACK" Bundle.steD) && decide (w ≠ .laysStatic Bundle.tN "SUPPRESSED_SENTINEL" Bundle.listD)
def vx_at0 (own : String) (ic : Nat) (X : String) (names : List String) : List Cond := (Bundle.ownAtoms0 own ic X names).filter vx_no
def vx_atS (own : String) (ic : Nat) (X : String) (names : List String) : List Cond := (Bundle.ownAtoms own ic X names).filter vx_no
/-- a word that the tables alone decide, or a good one -/
def vx_ot (w : Cond) : Bool := w.onTables || goodWord w
theorem vx_ot_at {args a' : Array Value} {s U : State} {w : Cond} (hW : s.WarmedH U.vm) (hvm : s.vm = U.vm) (hg : vx_ot w = true) (h : w.before args s = true) : w.before a' U = true := by
  simp only [vx_ot, Bool.or_eq_true] at hg
  rcases hg with hg | hg
  · exact va_tabs hg hvm h
  · exact word_at hW (good_of_word hg) h
/-- a list's words: the good ones out of the method's own list, the others by premises of their own -/
theorem vx_hat {args : Array Value} {s : State} {L B : List Cond} (h1 : ∀ w ∈ L.filter goodWord, w.before args s = true) (h2 : ∀ w ∈ L.filter (fun w => !goodWord w), w ∈ B) (h3 : ∀ w ∈ B, w.before args s = true) : ∀ w ∈ L, w.before args s = true := by
  intro w hw
  by_cases g : goodWord w = true
  · exact h1 w (List.mem_filter.mpr ⟨hw, g⟩)
  · refine h3 w (h2 w (List.mem_filter.mpr ⟨hw, ?_⟩))
    show (!goodWord w) = true
    cases hgw : goodWord w
    · rfl
    · exact absurd hgw g
theorem vx_c {args : Array Value} {s : State} {w : Cond} {B : List Cond} (h : w.before args s = true) (t : ∀ w ∈ B, w.before args s = true) : ∀ w' ∈ w :: B, w'.before args s = true := fun w' h' => (List.mem_cons.mp h').elim (fun e => by rw [e]; exact h) (t w')
theorem vx_n {args : Array Value} {s : State} : ∀ w ∈ ([] : List Cond), w.before args s = true := fun _ h => nomatch h
theorem vx_own {args : Array Value} {s : State} {L : List Cond} (h1 : ∀ w ∈ L.filter vx_no, w.before args s = true)
    (hU : (Cond.isRef (.static Bundle.tN "UNASSIGNED_STACK" Bundle.steD)).before args s = true) (hN : (Cond.isRef (.static Bundle.tN "SUPPRESSED_SENTINEL" Bundle.listD)).before args s = true)
    (lU : (Cond.laysStatic Bundle.tN "UNASSIGNED_STACK" Bundle.steD).before args s = true) (lN : (Cond.laysStatic Bundle.tN "SUPPRESSED_SENTINEL" Bundle.listD).before args s = true) : ∀ w ∈ L, w.before args s = true := by
  intro w hw
  by_cases e1 : w = .isRef (.static Bundle.tN "UNASSIGNED_STACK" Bundle.steD)
  · rw [e1]; exact hU
  · by_cases e2 : w = .isRef (.static Bundle.tN "SUPPRESSED_SENTINEL" Bundle.listD)
    · rw [e2]; exact hN
    · by_cases e3 : w = .laysStatic Bundle.tN "UNASSIGNED_STACK" Bundle.steD
      · rw [e3]; exact lU
      · by_cases e4 : w = .laysStatic Bundle.tN "SUPPRESSED_SENTINEL" Bundle.listD
        · rw [e4]; exact lN
        · exact h1 w (List.mem_filter.mpr ⟨hw, by unfold vx_no; rw [decide_eq_true e1, decide_eq_true e2, decide_eq_true e3, decide_eq_true e4]; rfl⟩)
/-- where a static field lies, its class's statics cell in H -/
def vx_L (C n d : String) (A : Nat → Prop) (U : State) (H : Heap) : Prop := ∃ (c : ClassId) (k : Class) (i : Nat) (f : Field) (a : Nat) (cell : Cell), U.vm.findClass C = some c ∧ U.fieldFound? C n d = some (c, k, i, f) ∧ f.isStatic = true ∧ k.statics = some a ∧ H[a]? = some cell ∧ cell.vm.isStatics = true ∧ cell.cls = c ∧ f.slot < cell.slots.size ∧ k.staticTypes[f.slot]? = some f.type ∧ ¬ A a
theorem vx_L.moved {C n d : String} {A : Nat → Prop} {u U : State} {H : Heap} (hvm : u.vm.Alike U.vm) (h : vx_L C n d A u H) : vx_L C n d A U H := by
  obtain ⟨c, k, i, f, a, cell, h1, h2, h3, h4, h5, h6, h7, h8, h9, h10⟩ := h
  obtain ⟨k', hi', he⟩ := State.fieldFound?_setVm hvm h2
  exact ⟨c, k', i, f, a, cell, by rw [hvm.findClass]; exact h1, hi', h3, by rw [he]; exact h4, h5, h6, h7, h8, by rw [he]; exact h9, h10⟩
theorem vx_L.kept {C n d : String} {A : Nat → Prop} {U : State} {H H1 : Heap} (h : vx_L C n d A U H) (hq : ∀ a : Nat, a < H.size → ¬ A a → H1[a]? = H[a]?) : vx_L C n d A U H1 := by
  obtain ⟨c, k, i, f, a, cell, h1, h2, h3, h4, h5, h6, h7, h8, h9, h10⟩ := h
  exact ⟨c, k, i, f, a, cell, h1, h2, h3, h4, by rw [hq a (Array.getElem?_eq_some_iff.mp h5).1 h10]; exact h5, h6, h7, h8, h9, h10⟩
theorem vx_L.narrow {C n d : String} {A B : Nat → Prop} {U : State} {H : Heap} (h : vx_L C n d A U H) (hAB : ∀ q, B q → A q) : vx_L C n d B U H := by
  obtain ⟨c, k, i, f, a, cell, h1, h2, h3, h4, h5, h6, h7, h8, h9, h10⟩ := h
  exact ⟨c, k, i, f, a, cell, h1, h2, h3, h4, h5, h6, h7, h8, h9, fun z => h10 (hAB _ z)⟩
theorem vx_L.word {C n d : String} {A : Nat → Prop} {s : State} {args : Array Value} (h : vx_L C n d A s s.heap) : (Cond.laysStatic C n d).before args s = true := by
  obtain ⟨c, k, i, f, a, cell, h1, h2, h3, h4, h5, h6, h7, h8, h9, -⟩ := h
  show (Cond.laysStatic C n d).holds args s none s [] = true
  exact Cond.laysStatic_of h1 h2 h3 h4 h5 h6 h7 h8 h9
/-- .. and what it holds: null or some reference -/
def vx_Zq (C n d : String) (A : Nat → Prop) (U : State) (H : Heap) : Prop := va_Zq C n d A U H ∧ vx_L C n d A U H
theorem vx_Zq.moved {C n d : String} {A : Nat → Prop} {u U : State} {H : Heap} (hvm : u.vm.Alike U.vm) (h : vx_Zq C n d A u H) : vx_Zq C n d A U H := ⟨va_Zq.moved hvm h.1, vx_L.moved hvm h.2⟩
theorem vx_Zq.kept {C n d : String} {A : Nat → Prop} {U : State} {H H1 : Heap} (h : vx_Zq C n d A U H) (hq : ∀ a : Nat, a < H.size → ¬ A a → H1[a]? = H[a]?) : vx_Zq C n d A U H1 := ⟨va_Zq.kept h.1 hq, vx_L.kept h.2 hq⟩
theorem vx_Zq.narrow {C n d : String} {A B : Nat → Prop} {U : State} {H : Heap} (h : vx_Zq C n d A U H) (hAB : ∀ q, B q → A q) : vx_Zq C n d B U H := ⟨va_Zq.narrow h.1 hAB, vx_L.narrow h.2 hAB⟩
theorem vx_Zqof {args : Array Value} {s : State} {C n d : String} {A : Nat → Prop} (hl : (Cond.laysStatic C n d).before args s = true) (hini : (Cond.initialized C).before args s = true) (h : (Cond.isRef (.static C n d)).before args s = true) (hA : ∀ a : Nat, a < s.heap.size → ¬ A a) : vx_Zq C n d A s s.heap := by
  refine ⟨va_Zqof hl hini h hA, ?_⟩
  obtain ⟨c, k, i, f, a, cell, h1, h2, h3, h4, h5, h6, h7, h8, h9⟩ := Cond.laysStatic_spec hl
  exact ⟨c, k, i, f, a, cell, h1, h2, h3, h4, h5, h6, h7, h8, h9, hA a (Array.getElem?_eq_some_iff.mp h5).1⟩
theorem vx_isRef {C n d : String} {v : Value} {A : Nat → Prop} {s : State} {args : Array Value} (h : va_Z C n d v A s s.heap) (hv : v.isRef = true) : (Cond.isRef (.static C n d)).before args s = true := by
  obtain ⟨cf, kf, fi, f, a, cell, h1, h2, h3, h4, h5, h6, h7, -⟩ := h
  have he : (Term.static C n d).eval args s none [] s = some v := by
    simp [Term.eval, State.fieldNamed?, h1, h2, h4, h5, h6, h7]
  simp only [Cond.before, Cond.holds, Cond.value, he]
  cases v <;> simp_all [Value.isRef]
theorem vx_isRefq {C n d : String} {A : Nat → Prop} {s : State} {args : Array Value} (h : va_Zq C n d A s s.heap) : (Cond.isRef (.static C n d)).before args s = true := by
  rcases h with h | ⟨t, h⟩
  · exact vx_isRef h rfl
  · exact vx_isRef h rfl
/-- the same frame, seen from here: as if the method were called anew in this heap -/
theorem vx_rebase {T : State} (X : Stand p l e R s m args below meth c T locs cells slots) {R' : Room} (hf : R'.frames ≤ R.frames) (hl : R'.locals ≤ R.locals) (hc : cells + R'.cells ≤ R.cells) (hs : slots + R'.slots ≤ R.slots) :
    Stand p l e R' ((T.setVm s.vm).setFrames (.invoking m args :: below)) m args below meth c T [] 0 0 := by
  have htop : (T.setVm s.vm).topJava?.isSome := X.here.top
  have hF : ((T.setVm s.vm).setFrames (.invoking m args :: below)).frames = .invoking m args :: below := State.frames_setFrames _ (State.cur_lt_of_top htop)
  obtain ⟨g₀, hg0⟩ := Option.isSome_iff_exists.mp htop
  obtain ⟨r, hr⟩ := State.topJava?_eq_some.mp hg0
  have hl9 : e.platform.stackLimits (T.setVm s.vm).me = e.platform.stackLimits s.me := X.limits
  have hb9 : (T.setVm s.vm).me.stackBytes = s.me.stackBytes := X.bytes
  refine ⟨X.admits, X.cas, X.clock, hF, ?_, X.hears, X.method, X.code, X.here, X.tail, X.warmed, ?_, ?_, ?_⟩
  · have h := X.room
    have hU : ((T.setVm s.vm).setFrames (.invoking m args :: below)).localsInUse = s.localsInUse := by
      rw [State.localsInUse_invoking hF (meth := meth) (c := c) X.method X.code, State.localsInUse_invoking X.frames X.method X.code]
    simp only [State.hasRoom, Bool.and_eq_true, decide_eq_true_eq] at h ⊢
    obtain ⟨⟨⟨⟨h1, h2, h3, h4, h5, h6⟩, h7⟩, h8⟩, h9⟩ := h
    rw [X.frames, List.length_cons] at h2 h3
    have q1 := X.heapSize
    have q2 := X.used
    simp only [hF, hU, List.length_cons, State.stackLimits_setFrames, State.stackBytes_setFrames, hl9, hb9]
    refine ⟨⟨⟨⟨by omega, by omega, by omega, by omega, by omega, h6⟩, ?_⟩, ?_⟩, X.book⟩
    · show T.heap.size + R'.cells ≤ e.platform.maxCells
      omega
    · show T.slotsUsed + R'.slots ≤ e.platform.maxSlots
      omega
  · rw [State.stackLimits_setFrames]; rfl
  · rw [State.stackBytes_setFrames]; rfl
  · refine ⟨?_, Nat.le_refl _, Nat.le_refl _, ?_, ?_, fun a c9 h9 => ⟨c9, h9, rfl, rfl, fun _ _ => rfl⟩⟩
    · obtain ⟨t, ht, -⟩ := State.frames_cons hr
      show T.setVm s.vm = { ((T.setVm s.vm).setFrames (.invoking m args :: below)).setFrames (T.setVm s.vm).frames with heap := T.heap, slotsUsed := T.slotsUsed }
      rw [State.setFrames_setFrames, State.setFrames_self ht]
      rfl
    · show T.slotsUsed = T.slotsUsed + ((T.heap.toList.drop T.heap.size).map (·.slots.size)).sum
      rw [List.drop_eq_nil_of_le (Nat.le_of_eq Array.length_toList)]
      rfl
    · show ((T.heap.toList.drop T.heap.size).map (·.slots.size)).sum ≤ 0
      rw [List.drop_eq_nil_of_le (Nat.le_of_eq Array.length_toList)]
      exact Nat.le_refl _
/-- 'throw new E()': new; dup; invokespecial; athrow -/
theorem vx_throw0 {cc : ByteArray} {pc : Nat} (hexec : p.tables.exec = Jvm.exec) (hb : c.code = cc) (hl : l.stackTraces = false) {own cls : String} {names : List String} {ik ic mc ms : Nat} {A : Nat → Prop}
    (hown : s.vm.findClass own = some m.cls) (hcls : Bundle.fit cls = true) (hnames : ∀ n ∈ names, Bundle.fit n = true)
    (hk : (Cond.classLink own ik cls).before args s = true) (hini : (Cond.initialized cls).before args s = true) (hat : ∀ w ∈ vx_at0 own ic cls names, w.before args s = true)
    (hgood : ∀ w ∈ Cond.classLink own ik cls :: Cond.initialized cls :: vx_at0 own ic cls names, vx_ot w = true)
    (hU : vx_Zq Bundle.tN "UNASSIGNED_STACK" Bundle.steD A s s.heap) (hN : vx_Zq Bundle.tN "SUPPRESSED_SENTINEL" Bundle.listD A s s.heap) (hS : va_S A s.heap H locs) (hsize : ls.size = c.maxLocals)
    (d0 : decode cc pc = .ok (.new ik, 3)) (d3 : decode cc (pc + 3) = .ok (.dup, 1)) (d4 : decode cc (pc + 4) = .ok (.invokespecial ic, 3)) (d7 : decode cc (pc + 7) = .ok (.athrow, 1))
    (hout : ∀ x ∈ c.exceptionTable.toList, covers x (pc + 7) = false)
    (hRframes : names.length + 3 < R.frames) (hRlocals : (rest.map fun v => v.category).sum + (13 * (names.length + 1) + 42) ≤ R.locals) (hRcells : cells + 1 ≤ R.cells) (hRslots : slots + 6 ≤ R.slots) (hlocks : meth.locks = false)
    (hx : ∀ t : State, s.vm.Alike t.vm → H.size ≤ t.heap.size → (∀ q : Nat, q < H.size → t.heap[q]? = H[q]?) → XC cls s t)
    (hf : ∀ z ∈ locs, free z.base) (hc : cells + 1 ≤ mc) (hs : slots + 6 ≤ ms) :
    W p l e R s m args below meth c H locs cells slots (vx_MQ below Qc XC args s mc ms free) (F0 m pc ls rest) := by
  intro T hT X
  have htr : e.platform.stackTraces = false := (show e.platform.stackTraces = l.stackTraces by rw [X.admits.platform]).trans hl
  have Y := vx_rebase X (R' := { frames := R.frames, locals := R.locals, cells := 1, slots := 6 }) (Nat.le_refl _) (Nat.le_refl _) hRcells hRslots
  obtain ⟨s', hA⟩ : ∃ z, z = (T.setVm s.vm).setFrames (.invoking m args :: below) := ⟨_, rfl⟩
  rw [← hA] at Y
  have hvm : s'.vm = s.vm := by rw [hA]; rfl
  have hhp : s'.heap = H := by rw [hA]; exact hT
  have hW0 : s.WarmedH s'.vm := by rw [hvm]; exact State.WarmedH.refl s
  have hat' : ∀ w ∈ vx_at0 own ic cls names, w.before args s' = true := fun w hw => vx_ot_at hW0 hvm.symm (hgood w (List.mem_cons_of_mem _ (List.mem_cons_of_mem _ hw))) (hat w hw)
  have hk' : (Cond.classLink own ik cls).before args s' = true := vx_ot_at hW0 hvm.symm (hgood _ List.mem_cons_self) hk
  have hini' : (Cond.initialized cls).before args s' = true := vx_ot_at hW0 hvm.symm (hgood _ (List.mem_cons_of_mem _ List.mem_cons_self)) hini
  have hU' : vx_Zq Bundle.tN "UNASSIGNED_STACK" Bundle.steD A s' s'.heap := by rw [hhp]; exact vx_Zq.moved hW0.alike (hU.kept hS.2.1)
  have hN' : vx_Zq Bundle.tN "SUPPRESSED_SENTINEL" Bundle.listD A s' s'.heap := by rw [hhp]; exact vx_Zq.moved hW0.alike (hN.kept hS.2.1)
  have h : ∀ w ∈ Bundle.ownAtoms0 own ic cls names, w.before args s' = true := vx_own hat' (vx_isRefq hU'.1) (vx_isRefq hN'.1) hU'.2.word hN'.2.word
  have hown' : s'.vm.findClass own = some m.cls := by rw [hvm]; exact hown
  have hins : (Cond.instantiable cls 6).before args s' = true := h _ (by simp [Bundle.ownAtoms0])
  obtain ⟨vm₁, cX, kX, hfX, hkX, -, -, X₁, st1⟩ := Y.newCold hexec (own := own) (C := cls) (index := ik) (n := 6) hown' hk' hins hini'
    (g := F0 m pc ls rest) rfl (by rw [hb]; exact d0) (Nat.le_refl _) (Nat.le_refl _)
  generalize hT1 : (T.setVm vm₁).pushCell { cls := cX, slots := kX.instanceTypes.map defaultValue, vm := .none } = T1 at X₁ st1
  have hcat : (Value.ref T.heap.size).category = 1 := rfl
  have hcellA : T1.heap[T.heap.size]? = some (freshCell cX kX) := by rw [← hT1]; exact State.heap_pushCell_size _ _
  have d3' : decode c.code (pc + 3) = .ok (.dup, 1) := by rw [hb]; exact d3
  obtain ⟨U, hsteps, hrun, hend, hW, hsame, ce, hce, hO⟩ := X₁.ctorThrow0 hexec htr (own := own) (cls := cls) (names := names) (ic := ic) hown' hcls hnames h (fun x hx => nomatch hx) hfX hkX hcellA (by rw [hhp, hT]; exact Nat.le_refl _)
    (g := { method := m, pc := pc + 4, locals := ls, stack := .ref T.heap.size :: .ref T.heap.size :: rest, locked := none }) rfl hsize rfl rfl (rest := rest) rfl
    (by rw [hb]; exact d4) (by rw [hb]; exact d7) hout hRframes (by simp only [List.map_cons, List.sum_cons, hcat]; omega) hlocks
  obtain ⟨f1, f2⟩ := vx_frame hsame
  rw [hhp] at f1 f2
  have hWs : s.WarmedH U.vm := State.WarmedH.trans hW0 hW
  have hcl : s.vm.findClass cls = some ce.cls := by
    have h9 := hO.cls
    rw [hvm] at h9
    exact h9
  have hall : s.sameButNew ({ U with vm := s.vm } : State) locs mc ms := by
    subst hA
    obtain ⟨e1, e2⟩ := hsame
    rw [State.setFrames_setFrames] at e1
    have h2 : (T.setVm s.vm).sameButNew ({ U with vm := s.vm } : State) [] (0 + 1) (0 + 6) := ⟨e1, e2⟩
    have h3 := X.same.trans h2
    rw [List.append_nil] at h3
    exact h3.mono hc hs
  refine ⟨U, ?_, .threw T.heap.size, hrun, hend, Or.inr ⟨T.heap.size, rfl, cls, ce, locs, hx U hWs.alike f1 (fun q hq => f2 q hq (fun z hz => nomatch hz)), hce, hO.vm, hcl, hWs, hall, hf⟩⟩
  refine st1 _ ?_
  show Steps p.tables e below (T1.setTop { method := m, pc := pc + 3, locals := ls, stack := .ref T.heap.size :: rest, locked := none }) _
  jvm_step X₁.here [X₁.here.top, hexec, d3', Value.category]
  exact hsteps
/-- 'throw new E("text")': new; dup; ldc; invokespecial; athrow -/
theorem vx_throwS {cc : ByteArray} {pc : Nat} (hexec : p.tables.exec = Jvm.exec) (hb : c.code = cc) (hl : l.stackTraces = false) {own cls text : String} {names : List String} {ik is ic mc ms sa : Nat} {A : Nat → Prop}
    (hown : s.vm.findClass own = some m.cls) (hcls : Bundle.fit cls = true) (hnames : ∀ n ∈ names, Bundle.fit n = true)
    (hk : (Cond.classLink own ik cls).before args s = true) (hini : (Cond.initialized cls).before args s = true) (hstr : vk_R own is text sa s) (hat : ∀ w ∈ vx_atS own ic cls names, w.before args s = true)
    (hgood : ∀ w ∈ Cond.classLink own ik cls :: Cond.initialized cls :: vx_atS own ic cls names, vx_ot w = true)
    (hU : vx_Zq Bundle.tN "UNASSIGNED_STACK" Bundle.steD A s s.heap) (hN : vx_Zq Bundle.tN "SUPPRESSED_SENTINEL" Bundle.listD A s s.heap) (hS : va_S A s.heap H locs) (hsize : ls.size = c.maxLocals)
    (d0 : decode cc pc = .ok (.new ik, 3)) (d3 : decode cc (pc + 3) = .ok (.dup, 1)) (d4 : decode cc (pc + 4) = .ok (.ldc is, 2)) (d6 : decode cc (pc + 6) = .ok (.invokespecial ic, 3)) (d9 : decode cc (pc + 9) = .ok (.athrow, 1))
    (hout : ∀ x ∈ c.exceptionTable.toList, covers x (pc + 9) = false)
    (hRframes : names.length + 3 < R.frames) (hRlocals : (rest.map fun v => v.category).sum + (13 * (names.length + 1) + 43) ≤ R.locals) (hRcells : cells + 1 ≤ R.cells) (hRslots : slots + 6 ≤ R.slots) (hlocks : meth.locks = false)
    (hx : ∀ t : State, s.vm.Alike t.vm → H.size ≤ t.heap.size → (∀ q : Nat, q < H.size → t.heap[q]? = H[q]?) → XC cls s t)
    (hf : ∀ z ∈ locs, free z.base) (hc : cells + 1 ≤ mc) (hs : slots + 6 ≤ ms) :
    W p l e R s m args below meth c H locs cells slots (vx_MQ below Qc XC args s mc ms free) (F0 m pc ls rest) := by
  intro T hT X
  have htr : e.platform.stackTraces = false := (show e.platform.stackTraces = l.stackTraces by rw [X.admits.platform]).trans hl
  have Y := vx_rebase X (R' := { frames := R.frames, locals := R.locals, cells := 1, slots := 6 }) (Nat.le_refl _) (Nat.le_refl _) hRcells hRslots
  obtain ⟨s', hA⟩ : ∃ z, z = (T.setVm s.vm).setFrames (.invoking m args :: below) := ⟨_, rfl⟩
  rw [← hA] at Y
  have hvm : s'.vm = s.vm := by rw [hA]; rfl
  have hhp : s'.heap = H := by rw [hA]; exact hT
  have hW0 : s.WarmedH s'.vm := by rw [hvm]; exact State.WarmedH.refl s
  have hat' : ∀ w ∈ vx_atS own ic cls names, w.before args s' = true := fun w hw => vx_ot_at hW0 hvm.symm (hgood w (List.mem_cons_of_mem _ (List.mem_cons_of_mem _ hw))) (hat w hw)
  have hk' : (Cond.classLink own ik cls).before args s' = true := vx_ot_at hW0 hvm.symm (hgood _ List.mem_cons_self) hk
  have hini' : (Cond.initialized cls).before args s' = true := vx_ot_at hW0 hvm.symm (hgood _ (List.mem_cons_of_mem _ List.mem_cons_self)) hini
  have hU' : vx_Zq Bundle.tN "UNASSIGNED_STACK" Bundle.steD A s' s'.heap := by rw [hhp]; exact vx_Zq.moved hW0.alike (hU.kept hS.2.1)
  have hN' : vx_Zq Bundle.tN "SUPPRESSED_SENTINEL" Bundle.listD A s' s'.heap := by rw [hhp]; exact vx_Zq.moved hW0.alike (hN.kept hS.2.1)
  have h : ∀ w ∈ Bundle.ownAtoms own ic cls names, w.before args s' = true := vx_own hat' (vx_isRefq hU'.1) (vx_isRefq hN'.1) hU'.2.word hN'.2.word
  have hown' : s'.vm.findClass own = some m.cls := by rw [hvm]; exact hown
  have hins : (Cond.instantiable cls 6).before args s' = true := h _ (by simp [Bundle.ownAtoms])
  obtain ⟨vm₁, cX, kX, hfX, hkX, -, -, X₁, st1⟩ := Y.newCold hexec (own := own) (C := cls) (index := ik) (n := 6) hown' hk' hins hini'
    (g := F0 m pc ls rest) rfl (by rw [hb]; exact d0) (Nat.le_refl _) (Nat.le_refl _)
  generalize hT1 : (T.setVm vm₁).pushCell { cls := cX, slots := kX.instanceTypes.map defaultValue, vm := .none } = T1 at X₁ st1
  have hcat : (Value.ref T.heap.size).category = 1 := rfl
  have hcellA : T1.heap[T.heap.size]? = some (freshCell cX kX) := by rw [← hT1]; exact State.heap_pushCell_size _ _
  have d3' : decode c.code (pc + 3) = .ok (.dup, 1) := by rw [hb]; exact d3
  have d4' : decode c.code (pc + 4) = .ok (.ldc is, 2) := by rw [hb]; exact d4
  have hstr' : vk_R own is text sa s' := vk_R.warm hW0 hstr
  obtain ⟨U, hsteps, hrun, hend, hW, hsame, ce, hce, hO⟩ := X₁.ctorThrowS hexec htr (own := own) (cls := cls) (names := names) (ic := ic) hown' hcls hnames h (fun x hx => nomatch hx) hfX hkX hcellA (by rw [hhp, hT]; exact Nat.le_refl _) (msg := .ref sa) rfl
    (g := { method := m, pc := pc + 6, locals := ls, stack := .ref sa :: .ref T.heap.size :: .ref T.heap.size :: rest, locked := none }) rfl hsize rfl rfl (rest := rest) rfl
    (by rw [hb]; exact d6) (by rw [hb]; exact d9) hout hRframes (by simp only [List.map_cons, List.sum_cons, hcat]; omega) hlocks
  obtain ⟨f1, f2⟩ := vx_frame hsame
  rw [hhp] at f1 f2
  have hWs : s.WarmedH U.vm := State.WarmedH.trans hW0 hW
  have hcl : s.vm.findClass cls = some ce.cls := by
    have h9 := hO.cls
    rw [hvm] at h9
    exact h9
  have hall : s.sameButNew ({ U with vm := s.vm } : State) locs mc ms := by
    subst hA
    obtain ⟨e1, e2⟩ := hsame
    rw [State.setFrames_setFrames] at e1
    have h2 : (T.setVm s.vm).sameButNew ({ U with vm := s.vm } : State) [] (0 + 1) (0 + 6) := ⟨e1, e2⟩
    have h3 := X.same.trans h2
    rw [List.append_nil] at h3
    exact h3.mono hc hs
  refine ⟨U, ?_, .threw T.heap.size, hrun, hend, Or.inr ⟨T.heap.size, rfl, cls, ce, locs, hx U hWs.alike f1 (fun q hq => f2 q hq (fun z hz => nomatch hz)), hce, hO.vm, hcl, hWs, hall, hf⟩⟩
  refine st1 _ ?_
  show Steps p.tables e below (T1.setTop { method := m, pc := pc + 3, locals := ls, stack := .ref T.heap.size :: rest, locked := none }) _
  jvm_step X₁.here [X₁.here.top, hexec, d3', Value.category]
  exact X₁.ldcString hexec (own := own) (text := text) (index := is) (a := sa) hown' hstr'.1 hstr'.2
    (g := { method := m, pc := pc + 4, locals := ls, stack := .ref T.heap.size :: .ref T.heap.size :: rest, locked := none }) rfl d4' _ hsteps
/-- 'throw new E("text")', the text by a wide index -/
theorem vx_throwSW {cc : ByteArray} {pc : Nat} (hexec : p.tables.exec = Jvm.exec) (hb : c.code = cc) (hl : l.stackTraces = false) {own cls text : String} {names : List String} {ik is ic mc ms sa : Nat} {A : Nat → Prop}
    (hown : s.vm.findClass own = some m.cls) (hcls : Bundle.fit cls = true) (hnames : ∀ n ∈ names, Bundle.fit n = true)
    (hk : (Cond.classLink own ik cls).before args s = true) (hini : (Cond.initialized cls).before args s = true) (hstr : vk_R own is text sa s) (hat : ∀ w ∈ vx_atS own ic cls names, w.before args s = true)
    (hgood : ∀ w ∈ Cond.classLink own ik cls :: Cond.initialized cls :: vx_atS own ic cls names, vx_ot w = true)
    (hU : vx_Zq Bundle.tN "UNASSIGNED_STACK" Bundle.steD A s s.heap) (hN : vx_Zq Bundle.tN "SUPPRESSED_SENTINEL" Bundle.listD A s s.heap) (hS : va_S A s.heap H locs) (hsize : ls.size = c.maxLocals)
    (d0 : decode cc pc = .ok (.new ik, 3)) (d3 : decode cc (pc + 3) = .ok (.dup, 1)) (d4 : decode cc (pc + 4) = .ok (.ldc_w is, 3)) (d7 : decode cc (pc + 7) = .ok (.invokespecial ic, 3)) (d10 : decode cc (pc + 10) = .ok (.athrow, 1))
    (hout : ∀ x ∈ c.exceptionTable.toList, covers x (pc + 10) = false)
    (hRframes : names.length + 3 < R.frames) (hRlocals : (rest.map fun v => v.category).sum + (13 * (names.length + 1) + 43) ≤ R.locals) (hRcells : cells + 1 ≤ R.cells) (hRslots : slots + 6 ≤ R.slots) (hlocks : meth.locks = false)
    (hx : ∀ t : State, s.vm.Alike t.vm → H.size ≤ t.heap.size → (∀ q : Nat, q < H.size → t.heap[q]? = H[q]?) → XC cls s t)
    (hf : ∀ z ∈ locs, free z.base) (hc : cells + 1 ≤ mc) (hs : slots + 6 ≤ ms) :
    W p l e R s m args below meth c H locs cells slots (vx_MQ below Qc XC args s mc ms free) (F0 m pc ls rest) := by
  intro T hT X
  have htr : e.platform.stackTraces = false := (show e.platform.stackTraces = l.stackTraces by rw [X.admits.platform]).trans hl
  have Y := vx_rebase X (R' := { frames := R.frames, locals := R.locals, cells := 1, slots := 6 }) (Nat.le_refl _) (Nat.le_refl _) hRcells hRslots
  obtain ⟨s', hA⟩ : ∃ z, z = (T.setVm s.vm).setFrames (.invoking m args :: below) := ⟨_, rfl⟩
  rw [← hA] at Y
  have hvm : s'.vm = s.vm := by rw [hA]; rfl
  have hhp : s'.heap = H := by rw [hA]; exact hT
  have hW0 : s.WarmedH s'.vm := by rw [hvm]; exact State.WarmedH.refl s
  have hat' : ∀ w ∈ vx_atS own ic cls names, w.before args s' = true := fun w hw => vx_ot_at hW0 hvm.symm (hgood w (List.mem_cons_of_mem _ (List.mem_cons_of_mem _ hw))) (hat w hw)
  have hk' : (Cond.classLink own ik cls).before args s' = true := vx_ot_at hW0 hvm.symm (hgood _ List.mem_cons_self) hk
  have hini' : (Cond.initialized cls).before args s' = true := vx_ot_at hW0 hvm.symm (hgood _ (List.mem_cons_of_mem _ List.mem_cons_self)) hini
  have hU' : vx_Zq Bundle.tN "UNASSIGNED_STACK" Bundle.steD A s' s'.heap := by rw [hhp]; exact vx_Zq.moved hW0.alike (hU.kept hS.2.1)
  have hN' : vx_Zq Bundle.tN "SUPPRESSED_SENTINEL" Bundle.listD A s' s'.heap := by rw [hhp]; exact vx_Zq.moved hW0.alike (hN.kept hS.2.1)
  have h : ∀ w ∈ Bundle.ownAtoms own ic cls names, w.before args s' = true := vx_own hat' (vx_isRefq hU'.1) (vx_isRefq hN'.1) hU'.2.word hN'.2.word
  have hown' : s'.vm.findClass own = some m.cls := by rw [hvm]; exact hown
  have hins : (Cond.instantiable cls 6).before args s' = true := h _ (by simp [Bundle.ownAtoms])
  obtain ⟨vm₁, cX, kX, hfX, hkX, -, -, X₁, st1⟩ := Y.newCold hexec (own := own) (C := cls) (index := ik) (n := 6) hown' hk' hins hini'
    (g := F0 m pc ls rest) rfl (by rw [hb]; exact d0) (Nat.le_refl _) (Nat.le_refl _)
  generalize hT1 : (T.setVm vm₁).pushCell { cls := cX, slots := kX.instanceTypes.map defaultValue, vm := .none } = T1 at X₁ st1
  have hcat : (Value.ref T.heap.size).category = 1 := rfl
  have hcellA : T1.heap[T.heap.size]? = some (freshCell cX kX) := by rw [← hT1]; exact State.heap_pushCell_size _ _
  have d3' : decode c.code (pc + 3) = .ok (.dup, 1) := by rw [hb]; exact d3
  have d4' : decode c.code (pc + 4) = .ok (.ldc_w is, 3) := by rw [hb]; exact d4
  have hstr' : vk_R own is text sa s' := vk_R.warm hW0 hstr
  obtain ⟨U, hsteps, hrun, hend, hW, hsame, ce, hce, hO⟩ := X₁.ctorThrowS hexec htr (own := own) (cls := cls) (names := names) (ic := ic) hown' hcls hnames h (fun x hx => nomatch hx) hfX hkX hcellA (by rw [hhp, hT]; exact Nat.le_refl _) (msg := .ref sa) rfl
    (g := { method := m, pc := pc + 7, locals := ls, stack := .ref sa :: .ref T.heap.size :: .ref T.heap.size :: rest, locked := none }) rfl hsize rfl rfl (rest := rest) rfl
    (by rw [hb]; exact d7) (by rw [hb]; exact d10) hout hRframes (by simp only [List.map_cons, List.sum_cons, hcat]; omega) hlocks
  obtain ⟨f1, f2⟩ := vx_frame hsame
  rw [hhp] at f1 f2
  have hWs : s.WarmedH U.vm := State.WarmedH.trans hW0 hW
  have hcl : s.vm.findClass cls = some ce.cls := by
    have h9 := hO.cls
    rw [hvm] at h9
    exact h9
  have hall : s.sameButNew ({ U with vm := s.vm } : State) locs mc ms := by
    subst hA
    obtain ⟨e1, e2⟩ := hsame
    rw [State.setFrames_setFrames] at e1
    have h2 : (T.setVm s.vm).sameButNew ({ U with vm := s.vm } : State) [] (0 + 1) (0 + 6) := ⟨e1, e2⟩
    have h3 := X.same.trans h2
    rw [List.append_nil] at h3
    exact h3.mono hc hs
  refine ⟨U, ?_, .threw T.heap.size, hrun, hend, Or.inr ⟨T.heap.size, rfl, cls, ce, locs, hx U hWs.alike f1 (fun q hq => f2 q hq (fun z hz => nomatch hz)), hce, hO.vm, hcl, hWs, hall, hf⟩⟩
  refine st1 _ ?_
  show Steps p.tables e below (T1.setTop { method := m, pc := pc + 3, locals := ls, stack := .ref T.heap.size :: rest, locked := none }) _
  jvm_step X₁.here [X₁.here.top, hexec, d3', Value.category]
  exact X₁.ldcStringW hexec (own := own) (text := text) (index := is) (a := sa) hown' hstr'.1 hstr'.2
    (g := { method := m, pc := pc + 4, locals := ls, stack := .ref T.heap.size :: .ref T.heap.size :: rest, locked := none }) rfl d4' _ hsteps
end Ends
section Bodies
variable {l : Launch}
theorem vx_ofW {y : MethodName} {ws ws' : List Cond} {rm : Room} {Pc : Array Value → State → Prop} {Qc : Array Value → State → Outcome → State → Prop} {XC : String → State → State → Prop} {mc ms : Nat} {free : Addr → Prop} {cc : ByteArray} {maxL : Nat} {ret : Option FieldType}
    (hy : plainName y.cls = true) (hw : ws = Cond.code y cc maxL ret :: ws')
    (body : ∀ p e s m args below meth c s₁, BodyLoose p l y (headSpec ws rm) cc maxL ret e s m args below meth c s₁ → c.maxLocals = maxL → (∀ x ∈ c.exceptionTable.toList, False) → Pc args s →
      W p l e (headSpec ws rm).room s m args below meth c s.heap [] 0 0 (vx_MQ below Qc XC args s mc ms free) (entryFrame m args maxL)) : vx_Met l y ws rm Pc Qc XC mc ms free := by
  refine MetFree.of_bodyS (code := cc) (maxLocals := maxL) (ret := ret) hy ?_ ?_
  · intro args s m h hn
    obtain ⟨meth, c, h1, h2, h3, h4, h5, h6, -, -⟩ := Cond.code_spec hn (atoms_spec (ws := ws) h _ (by rw [hw]; exact List.mem_cons_self))
    exact ⟨meth, c, h1, h2, h3, h4, h5, h6⟩
  · intro p e s m args below meth c s₁ B hml hP _
    have hh0 : s₁.heap = s.heap := by rw [B.state]; rfl
    have ht : ∀ x ∈ c.exceptionTable.toList, False := by
      obtain ⟨meth9, c9, h1, h2, -, -, -, -, h7, -⟩ := Cond.code_spec B.named (atoms_spec (ws := ws) B.pre _ (by rw [hw]; exact List.mem_cons_self))
      cases Option.some.inj (h1.symm.trans B.method)
      cases Option.some.inj (h2.symm.trans (Stand.of_body B).code)
      intro x hx
      rw [Array.isEmpty_iff.mp h7] at hx
      cases hx
    obtain ⟨t, a1, o, b1, b2, b3⟩ := body p e s m args below meth c s₁ B hml ht hP s₁ hh0 (Stand.of_body B)
    exact ⟨t, o, a1, b1, b2, b3⟩
/-- the table of a body with handlers -/
theorem vx_table {p : Program} {x y : MethodName} {S : Spec} {cc bytes : ByteArray} {maxL maxL' : Nat} {ret ret' : Option FieldType} {e : Env} {s s₁ : State} {m : MethodId} {args : Array Value} {below : List Frame} {meth : Method} {c : Code} {hh : List (Nat × Nat × Nat × Nat)}
    (B : BodyLoose p l y S cc maxL ret e s m args below meth c s₁) (h : (Cond.codeWith y bytes maxL' ret' hh).before args s = true) : c.exceptionTable.toList = tableOf hh := by
  obtain ⟨m9, meth9, c9, hn9, h1, h2, -, -, h6, -⟩ := Cond.codeWith_spec h
  cases Option.some.inj (hn9.symm.trans B.named)
  cases Option.some.inj (h1.symm.trans B.method)
  cases Option.some.inj (h2.symm.trans (Stand.of_body B).code)
  rw [← h6, table_eq]
end Bodies
end VXA
/-! ===== END ===== -/
/-! ===== BEGIN a static call of a method with an exception table ===== -/
section VXS
variable {p : Program} {l : Launch} {e : Env} {R : Room} {s : State} {m : MethodId} {args : Array Value} {below : List Frame} {meth : Method} {c : Code} {T : State} {H : Heap} {locs : List Loc} {cells slots : Nat}
abbrev vx_CSW (R : Room) (s : State) (args : Array Value) (own : String) (index : Nat) (y : MethodName) (bytes : ByteArray) (maxL : Nat) (ret : Option FieldType) (hh : List (Nat × Nat × Nat × Nat)) (ws : List Cond) (rm : Room) (mc ms n : Nat) : Prop :=
  (rm.cells = mc ∧ rm.slots = ms ∧ rm.frames + 1 ≤ R.frames ∧ 8 + (maxL + 11) + rm.locals ≤ R.locals ∧ (∀ w ∈ ws, ∀ (a' : Array Value) (U : State), s.WarmedH U.vm → w.before a' U = true) ∧ Cond.codeWith y bytes maxL ret hh ∈ ws) ∧
  (Cond.codeWith y bytes maxL ret hh).before args s = true ∧ (Cond.initialized y.cls).before args s = true ∧ (y.cls ≠ "java/lang/invoke/MethodHandle" ∧ y.cls ≠ "java/lang/invoke/VarHandle") ∧
  (∀ sig, parseMethodDescriptor y.desc = some sig → n = sig.parameters.length) ∧ (Cond.methodLink own index y).before args s = true ∧ (Cond.static y).before args s = true
theorem vx_cwSW {own : String} {index maxL mc ms : Nat} {y : MethodName} {bytes : ByteArray} {ret : Option FieldType} {hh : List (Nat × Nat × Nat × Nat)} {Ts ws ws' : List Cond} {rm : Room} (n : Nat) (ht : ∀ w ∈ Ts, w.before args s = true) (hT : GoodIn Ts (va_wsS own index y ws)) (hw : ws = Cond.codeWith y bytes maxL ret hh :: ws') (hrc : rm.cells = mc) (hrs : rm.slots = ms)
    (hd : y.cls ≠ "java/lang/invoke/MethodHandle" ∧ y.cls ≠ "java/lang/invoke/VarHandle" ∧ (parseMethodDescriptor y.desc).map (fun d => d.parameters.length) = some n) (hR : rm.frames + 1 ≤ R.frames ∧ 8 + (maxL + 11) + rm.locals ≤ R.locals) :
    vx_CSW R s args own index y bytes maxL ret hh ws rm mc ms n := by
  have ok : ∀ w ∈ va_wsS own index y ws, w.before args s = true := fun w h => ht w (hT w h).1
  have hG : GoodIn Ts ws := fun w h => hT w (by unfold va_wsS; exact List.mem_append_right _ h)
  have hc : Cond.codeWith y bytes maxL ret hh ∈ ws := by rw [hw]; exact List.mem_cons_self
  refine ⟨⟨hrc, hrs, hR.1, hR.2, pay_in ht hG, hc⟩, ht _ (hG _ hc).1, ok _ (by simp [va_wsS]), ⟨hd.1, hd.2.1⟩, fun sig h => ?_, ok _ (by simp [va_wsS]), ok _ (by simp [va_wsS])⟩
  have h2 := hd.2.2
  rw [h] at h2
  exact (Option.some.inj h2).symm
theorem vx_callSW (X : Stand p l e R s m args below meth c T locs cells slots) (hexec : p.tables.exec = Jvm.exec) {own : String} {index : Nat} {y : MethodName} {bytes : ByteArray} {maxL : Nat} {ret : Option FieldType} {hh : List (Nat × Nat × Nat × Nat)}
    (hown : s.vm.findClass own = some m.cls) (hlink : (Cond.methodLink own index y).before args s = true) (hstat : (Cond.static y).before args s = true) (hinit : (Cond.initialized y.cls).before args s = true)
    (hcode : (Cond.codeWith y bytes maxL ret hh).before args s = true) (hy : y.cls ≠ "java/lang/invoke/MethodHandle" ∧ y.cls ≠ "java/lang/invoke/VarHandle")
    {W9 : Nat} {Pre : Pt → Array Value → Prop} {Post : Pt → Array Value → Option Value → Pt → Prop} (hK : Back l R p e below s args y 3 W9 Pre Post)
    {g : JFrame} (hg : g.method = m) (hsize : g.locals.size = c.maxLocals) {argsL rest : List Value} (hlen : ∀ sig, parseMethodDescriptor y.desc = some sig → argsL.length = sig.parameters.length)
    (hstack : g.stack = argsL.reverse ++ rest) (hW : 2 * g.monitorRoom + (rest.map fun v => v.category).sum ≤ W9) (hdg : decode c.code g.pc = .ok (.invokestatic index, 3))
    (hpre : ∀ vm₁, s.WarmedH vm₁ → Pre ⟨T.setVm vm₁, locs, cells, slots⟩ argsL.toArray) :
    ∃ (v : Option Value) (vm₁ : Vm) (B : Pt), s.WarmedH vm₁ ∧ Stand p l e R s m args below meth c B.U B.locs B.cells B.slots ∧ Post ⟨T.setVm vm₁, locs, cells, slots⟩ argsL.toArray v B ∧
      ∀ target, Steps p.tables e below (B.U.setTop { g with pc := g.pc + 3, stack := v.toList ++ rest }) target → Steps p.tables e below (T.setTop g) target := by
  obtain ⟨mk, methM, cM, hnamed, hmethM, -, -, -, -, -, -, hsigM⟩ := Cond.codeWith_spec hcode
  have hstatic : methM.isStatic = true := Cond.static_spec hnamed hmethM hstat
  obtain ⟨kP, hkP, -⟩ := className_of_methodNamed hnamed
  have hinitP : kP.init = .initialized := Cond.initialized_spec (findClass_of_methodNamed hnamed) hkP hinit
  obtain ⟨vm₁, X₁, hstep₁⟩ := X.invokestatic hexec hown hlink hnamed hmethM hstatic hkP hinitP hy (g := g) hg (argsL := argsL) (rest := rest) (hlen _ hsigM) hstack hdg
  obtain ⟨v, B, X', hpost, hsteps⟩ := hK m meth c ⟨T.setVm vm₁, locs, cells, slots⟩ { g with stack := rest } (.invokestatic index) mk argsL.toArray X₁ hg hsize hdg hW (X₁.named hnamed) (hpre vm₁ X₁.warmed)
  exact ⟨v, vm₁, B, X₁.warmed, X', hpost, fun target h => hstep₁ _ fun acts => by rw [doInvoke_state]; exact hsteps.trans h⟩
theorem vx_runSW {y : MethodName} {bytes cc : ByteArray} {maxL nL mc ms n index : Nat} {ret : Option FieldType} {hh : List (Nat × Nat × Nat × Nat)} {ws : List Cond} {rm : Room} {Pc : Array Value → State → Prop} {Qc : Array Value → State → Outcome → State → Prop} {free : Addr → Prop} {Ts : List Cond} {own : String} {As rest : List Value} {g : JFrame}
    (S : CallFix p m c cc nL s args Ts own) (hM : Met l y ws rm Pc Qc mc ms free) (cw : vx_CSW R s args own index y bytes maxL ret hh ws rm mc ms n) (hp : PreS s H Pc As)
    (hg : g.method = m) (hn : As.length = n) (hsize : g.locals.size = nL) (hstack : g.stack = As.reverse ++ rest) (hW : 2 * g.monitorRoom + (rest.map fun v => v.category).sum ≤ 8) (hdg : decode cc g.pc = .ok (.invokestatic index, 3)) (hf : cells + mc ≤ R.cells ∧ slots + ms ≤ R.slots) :
    va_Run p l e R s m args below meth c H locs cells slots mc ms g rest (Qc As.toArray) (free) := by
  obtain ⟨⟨hrc, hrs, hfr, hlo, hws, hcw⟩, hcode, hini, hy, hlen, hl, hstt⟩ := cw
  have hK : Back l R p e below s args y 3 8 (PreOf R mc ms Pc) (PostOf Qc mc ms free) := va_backW (hh := hh) (bytes := bytes) (maxL := maxL) (ret := ret) hM hp.1 hrc hrs hfr hlo hws hcw (fun a' U hW => word_at hW (Or.inl (by first | rfl | simp [Cond.onTables, Cond.keeps, Cond.steady])) hini)
  obtain ⟨hx, hb, hml, ho, -⟩ := S
  intro T hT X
  obtain ⟨v, vm₁, ⟨U', l2, c2, s2⟩, hW₁, X', ⟨g', mk, t, L, e1, e2, hq, h1, hL, h2, h3⟩, st⟩ := vx_callSW X hx (hh := hh) (bytes := bytes) (maxL := maxL) (ret := ret) ho hl hstt hini hcode hy hK hg (hsize.trans hml.symm) (argsL := As) (rest := rest) (fun sig h => hn.trans (hlen sig h)) hstack hW (by rw [hb]; exact hdg)
    (fun vm₁ hW₁ => ⟨hf.1, hf.2, hp.2 (T.setVm vm₁) hT hW₁⟩)
  dsimp only [Pt.U, Pt.locs, Pt.cells, Pt.slots] at X' e1 e2 h1 h2 h3 st
  subst h1; subst h2; subst h3
  exact ⟨v, (T.setVm vm₁).calling g' mk As.toArray, t, U', L, hT, X', hL, e1, e2, hq, st⟩
/-- a thing of a world lies in the heap -/
theorem vx_lt {D : va_G} {cl : List vw_C} {ws : va_W} {H1 : Heap} (h : va_P D cl ws H1) {k : Nat} {q : Nat × va_E} (hk : ws[k]? = some q) : q.1 < H1.size := (h k q hk).lt
end VXS
/-! ===== END ===== -/
/-! ===== BEGIN methods with a table of their own: called by a name, returning or throwing ===== -/
section VXH
/-! vx_backW, vx_callVX, vx_callSX, vx_callVW, vx_runVW, vx_runVX, vx_runSX, vx_ofWH follow the same proofs as their sisters above (Free/Laws.lean, Shelf42/LK1.lean); vx_outP calls Shelf42/NT130.lean (outThrough). -/
section
variable {l : Launch} {R : Room} {p : Program} {e : Env} {below : List Frame} {s : State} {sargs : Array Value} {y : MethodName} {len W9 : Nat}
theorem vx_backW {ws : List Cond} {rm : Room} {Pc : Array Value → State → Prop} {Qc : Array Value → State → Outcome → State → Prop} {XC : String → State → State → Prop} {mc ms : Nat} {free : Addr → Prop} {bytes : ByteArray} {maxL : Nat} {ret : Option FieldType} {hh : List (Nat × Nat × Nat × Nat)}
    (hM : vx_Met l y ws rm Pc Qc XC mc ms free) (hblind : FrameBlind Pc) (hrc : rm.cells = mc) (hrs : rm.slots = ms)
    (hframes : rm.frames + 1 ≤ R.frames) (hlocals : W9 + (maxL + 11) + rm.locals ≤ R.locals)
    (hws : ∀ w ∈ ws, ∀ a' U, s.WarmedH U.vm → w.before a' U = true) (hcode : Cond.codeWith y bytes maxL ret hh ∈ ws) (hinit : ∀ a' U, s.WarmedH U.vm → (Cond.initialized y.cls).before a' U = true) :
    vx_Back l R p e below s sargs y len W9 (PreOf R mc ms Pc) (PostOf Qc mc ms free) (vx_Post XC mc ms free) := by
  intro m meth c A g ig mk a X hg hsize hdg hW hn hp
  have h1 : (headSpec ws rm).pre.before a A.U = true := atoms_intro fun w hw => hws w hw _ _ X.warmed
  have h2 : (Cond.codeWith y bytes maxL ret hh).before a A.U = true := hws _ hcode _ _ X.warmed
  have h3 : (Cond.initialized y.cls).before a A.U = true := hinit _ _ X.warmed
  have h4 : A.cells + (headSpec ws rm).room.cells ≤ R.cells := by rw [show (headSpec ws rm).room.cells = mc from hrc]; exact hp.1
  have h5 : A.slots + (headSpec ws rm).room.slots ≤ R.slots := by rw [show (headSpec ws rm).room.slots = ms from hrs]; exact hp.2.1
  have hPc : Pc a (A.U.calling g mk a) := hblind _ _ _ _ hp.2.2
  obtain ⟨U, Ls, c0, s0⟩ := A
  dsimp only [Pt.U, Pt.locs, Pt.cells, Pt.slots] at h1 h2 h3 h4 h5 X hn hPc ⊢
  obtain ⟨m9, methY, cY, hn9, hmY, hcY, -, hlY, -⟩ := Cond.codeWith_spec h2
  cases Option.some.inj (hn9.symm.trans hn)
  obtain ⟨kY, hkY, -⟩ := className_of_methodNamed hn
  have hinitY : kY.init = .initialized := Cond.initialized_spec (findClass_of_methodNamed hn) hkY h3
  have h : At U g.method c below := by rw [hg]; exact X.here
  have hlocals9 : W9 + (maxL + 11) + (headSpec ws rm).room.locals ≤ R.locals := hlocals
  have happ : (headSpec ws rm).appliesLoose y e.platform (U.calling g mk a) = true :=
    Spec.appliesLoose_calling (g := g) h hdg hn hkY hinitY
      (X.room_calling (g := g) (R' := (headSpec ws rm).room) hsize hmY hcY hframes (by rw [hlY]; omega) h4 h5) h1
  obtain ⟨mid, hmid⟩ := h.above
  have hfr : (U.setTop g).frames = (.java g :: mid) ++ below := by rw [State.frames_setTop' g h.top, hmid]; rfl
  obtain ⟨o, s₂, hsteps, -, hend, hq⟩ := Steps.callFree hM p X.admits X.cas X.clock (acts := []) hfr happ hPc trivial
  have hq' : vx_Q Qc XC mc ms free a (U.calling g mk a) o s₂ := hq
  rw [State.frames_setTop' g h.top] at hend
  obtain ⟨g₀, hg0⟩ := Option.isSome_iff_exists.mp h.top
  obtain ⟨r, hr⟩ := State.topJava?_eq_some.mp hg0
  have hr' : (({ U with heap := s₂.heap, slotsUsed := s₂.slotsUsed } : State).setVm s₂.vm).frames = .java g₀ :: r := hr
  rcases hq' with ⟨hqc, L, hfe, hL⟩ | ⟨q, rfl, E, ce, L, hx, hce, hcv, hcl, hW₂, hsm, hL⟩
  · obtain ⟨⟨v, rfl⟩, hW₂, e2, q2, q3, q4, q5, q6⟩ := id hfe
    have e3 : s₂ = ({ (U.calling g mk a).setFrames s₂.frames with heap := s₂.heap, slotsUsed := s₂.slotsUsed } : State).setVm s₂.vm := by
      have : s₂ = ({ s₂ with vm := (U.calling g mk a).vm } : State).setVm s₂.vm := rfl
      rw [e2] at this
      exact this
    obtain ⟨c₂, i₂, len₂, hc₂, hd₂, hf₂⟩ := hend
    have hW' : U.WarmedH s₂.vm := hW₂
    have hcc : c₂ = c := by
      have h1 : s₂.code? g.method = U.code? g.method := by
        rw [State.code?_eq, State.code?_eq, hW'.alike.method?]
      exact Option.some.inj (hc₂.symm.trans (h1.trans h.code))
    subst hcc
    have hlen : len₂ = len := by rw [hdg] at hd₂; cases hd₂; rfl
    subst hlen
    have hs₂ : s₂ = (({ U with heap := s₂.heap, slotsUsed := s₂.slotsUsed } : State).setVm s₂.vm).setTop { g with pc := g.pc + len₂, stack := v.toList ++ g.stack } := by
      refine e3.trans ?_
      rw [hf₂, State.calling_eq h.top, State.setFrames_setFrames, State.setTop_of_frames _ hr', hr]
      rfl
    have hsame : U.sameButNew ({ U with heap := s₂.heap, slotsUsed := s₂.slotsUsed } : State) L mc ms := by
      refine ⟨?_, q2, q3, q4, q5, q6⟩
      obtain ⟨t, ht, -⟩ := State.frames_cons hr
      show ({ U with heap := s₂.heap, slotsUsed := s₂.slotsUsed } : State) = { U.setFrames U.frames with heap := s₂.heap, slotsUsed := s₂.slotsUsed }
      rw [State.setFrames_self ht]
    subst hg
    refine Or.inl ⟨v, ⟨(({ U with heap := s₂.heap, slotsUsed := s₂.slotsUsed } : State).setVm s₂.vm), Ls ++ L, c0 + mc, s0 + ms⟩,
      ⟨X.admits, X.cas, X.clock, X.frames, X.room, X.hears, X.method, X.code, (X.here.setHeapUsed s₂.heap s₂.slotsUsed).setVm hW'.alike, X.tail, State.WarmedH.trans X.warmed hW', X.limits, X.bytes, X.same.trans (hsame.setVm s.vm)⟩,
      ⟨g, mk, s₂, L, rfl, rfl, hqc, rfl, hL, rfl, rfl⟩, ?_⟩
    show Steps p.tables e below _ ((({ U with heap := s₂.heap, slotsUsed := s₂.slotsUsed } : State).setVm s₂.vm).setTop { g with pc := g.pc + len₂, stack := v.toList ++ g.stack })
    rw [← hs₂]
    exact hsteps
  · obtain ⟨e2, q2, q3, q4, q5, q6⟩ := id hsm
    have e3 : s₂ = ({ (U.calling g mk a).setFrames s₂.frames with heap := s₂.heap, slotsUsed := s₂.slotsUsed } : State).setVm s₂.vm := by
      have : s₂ = ({ s₂ with vm := (U.calling g mk a).vm } : State).setVm s₂.vm := rfl
      rw [e2] at this
      exact this
    have hf₂ : s₂.frames = .throwing q :: .java g :: U.frames.tail := hend
    have hW' : U.WarmedH s₂.vm := hW₂
    have hs₂ : s₂ = ((({ U with heap := s₂.heap, slotsUsed := s₂.slotsUsed } : State).setVm s₂.vm).setTop g).pushFrame (.throwing q) := by
      refine e3.trans ?_
      rw [hf₂, State.calling_eq h.top, State.setFrames_setFrames, State.pushFrame, State.frames_setTop _ hr', State.setTop_of_frames _ hr', State.setFrames_setFrames, hr]
      rfl
    have hsame : U.sameButNew ({ U with heap := s₂.heap, slotsUsed := s₂.slotsUsed } : State) L mc ms := by
      refine ⟨?_, q2, q3, q4, q5, q6⟩
      obtain ⟨t, ht, -⟩ := State.frames_cons hr
      show ({ U with heap := s₂.heap, slotsUsed := s₂.slotsUsed } : State) = { U.setFrames U.frames with heap := s₂.heap, slotsUsed := s₂.slotsUsed }
      rw [State.setFrames_self ht]
    subst hg
    refine Or.inr ⟨q, ⟨(({ U with heap := s₂.heap, slotsUsed := s₂.slotsUsed } : State).setVm s₂.vm), Ls ++ L, c0 + mc, s0 + ms⟩,
      ⟨X.admits, X.cas, X.clock, X.frames, X.room, X.hears, X.method, X.code, (X.here.setHeapUsed s₂.heap s₂.slotsUsed).setVm hW'.alike, X.tail, State.WarmedH.trans X.warmed hW', X.limits, X.bytes, X.same.trans (hsame.setVm s.vm)⟩,
      ⟨g, mk, s₂, L, E, ce, rfl, rfl, hx, hce, hcv, hcl, rfl, hL, rfl, rfl⟩, ?_⟩
    show Steps p.tables e below _ (((({ U with heap := s₂.heap, slotsUsed := s₂.slotsUsed } : State).setVm s₂.vm).setTop g).pushFrame (.throwing q))
    rw [← hs₂]
    exact hsteps
end
variable {p : Program} {l : Launch} {e : Env} {R : Room} {s : State} {m : MethodId} {args : Array Value} {below : List Frame} {meth : Method} {c : Code} {T : State} {H : Heap} {locs : List Loc} {cells slots : Nat}
theorem vx_callVX (X : Stand p l e R s m args below meth c T locs cells slots) (hexec : p.tables.exec = Jvm.exec) {own C : String} {index : Nat} {y : MethodName} {bytes : ByteArray} {maxL : Nat} {ret : Option FieldType} {hh : List (Nat × Nat × Nat × Nat)}
    (hown : s.vm.findClass own = some m.cls) (hlink : (Cond.methodLink own index y).before args s = true) (hinst : (Cond.instanceMethod y).before args s = true) (hsel : (Cond.selects C y y).before args s = true)
    (hcode : (Cond.codeWith y bytes maxL ret hh).before args s = true) (hy : y.cls ≠ "java/lang/invoke/MethodHandle" ∧ y.cls ≠ "java/lang/invoke/VarHandle")
    {W9 : Nat} {Pre : Pt → Array Value → Prop} {Post : Pt → Array Value → Option Value → Pt → Prop} {PostX : Pt → Array Value → Addr → Pt → Prop} (hK : vx_Back l R p e below s args y 3 W9 Pre Post PostX)
    {b : Addr} {cellB : Cell} (hcell : T.heap[b]? = some cellB) (hobj : cellB.vm.isStatics = false) (hcls : s.vm.findClass C = some cellB.cls)
    {g : JFrame} (hg : g.method = m) (hsize : g.locals.size = c.maxLocals) {argsL rest : List Value} (hlen : ∀ sig, parseMethodDescriptor y.desc = some sig → argsL.length = sig.parameters.length)
    (hstack : g.stack = argsL.reverse ++ .ref b :: rest) (hW : 2 * g.monitorRoom + (rest.map fun v => v.category).sum ≤ W9) (hdg : decode c.code g.pc = .ok (.invokevirtual index, 3))
    (hpre : ∀ vm₁, s.WarmedH vm₁ → Pre ⟨T.setVm vm₁, locs, cells, slots⟩ (Value.ref b :: argsL).toArray) :
    (∃ (v : Option Value) (vm₁ : Vm) (B : Pt), s.WarmedH vm₁ ∧ Stand p l e R s m args below meth c B.U B.locs B.cells B.slots ∧ Post ⟨T.setVm vm₁, locs, cells, slots⟩ (Value.ref b :: argsL).toArray v B ∧
      ∀ target, Steps p.tables e below (B.U.setTop { g with pc := g.pc + 3, stack := v.toList ++ rest }) target → Steps p.tables e below (T.setTop g) target) ∨
    (∃ (q : Addr) (vm₁ : Vm) (B : Pt), s.WarmedH vm₁ ∧ Stand p l e R s m args below meth c B.U B.locs B.cells B.slots ∧ PostX ⟨T.setVm vm₁, locs, cells, slots⟩ (Value.ref b :: argsL).toArray q B ∧
      Steps p.tables e below (T.setTop g) ((B.U.setTop { g with stack := rest }).pushFrame (.throwing q))) := by
  obtain ⟨mk, methM, hnamed, hmethM, hstM, habM⟩ := Cond.instanceMethod_spec hinst
  obtain ⟨m8, methM', cM, hn8, hmethM', -, -, -, -, -, -, hsigM⟩ := Cond.codeWith_spec hcode
  cases Option.some.inj (hn8.symm.trans hnamed)
  cases hmethM.symm.trans hmethM'
  obtain ⟨c2, r2, m2, q1, q2, q3, q4, kP, hkP, hkPi⟩ := Cond.selects_spec hsel
  cases hcls.symm.trans q1
  cases (State.methodFound?_of_named hnamed hy).symm.trans q2
  cases hnamed.symm.trans q3
  have hselP : selectMethod e.platform s.vm cellB.cls mk = .method mk := by rw [Launch.admits_selectMethod X.admits]; exact q4
  obtain ⟨vm₁, X₁, hstep₁⟩ := X.invokevirtual hexec hown hlink hnamed hmethM hstM hkP hkPi hy (a := b) (cell := cellB) hcell
    (fun z h => by rw [h] at hobj; cases hobj) hselP hmethM habM hkP hkPi (g := g) hg (argsL := argsL) (rest := rest) (hlen _ hsigM) hstack hdg
  rcases hK m meth c ⟨T.setVm vm₁, locs, cells, slots⟩ { g with stack := rest } (.invokevirtual index) mk (Value.ref b :: argsL).toArray X₁ hg hsize hdg hW (X₁.named hnamed) (hpre vm₁ X₁.warmed) with ⟨v, B, X', hpost, hsteps⟩ | ⟨q, B, X', hpost, hsteps⟩
  · exact Or.inl ⟨v, vm₁, B, X₁.warmed, X', hpost, fun target h => hstep₁ _ fun acts => by rw [doInvoke_state]; exact hsteps.trans h⟩
  · exact Or.inr ⟨q, vm₁, B, X₁.warmed, X', hpost, hstep₁ _ fun acts => by rw [doInvoke_state]; exact hsteps⟩
theorem vx_callSX (X : Stand p l e R s m args below meth c T locs cells slots) (hexec : p.tables.exec = Jvm.exec) {own : String} {index : Nat} {y : MethodName} {bytes : ByteArray} {maxL : Nat} {ret : Option FieldType} {hh : List (Nat × Nat × Nat × Nat)}
    (hown : s.vm.findClass own = some m.cls) (hlink : (Cond.methodLink own index y).before args s = true) (hstat : (Cond.static y).before args s = true) (hinit : (Cond.initialized y.cls).before args s = true)
    (hcode : (Cond.codeWith y bytes maxL ret hh).before args s = true) (hy : y.cls ≠ "java/lang/invoke/MethodHandle" ∧ y.cls ≠ "java/lang/invoke/VarHandle")
    {W9 : Nat} {Pre : Pt → Array Value → Prop} {Post : Pt → Array Value → Option Value → Pt → Prop} {PostX : Pt → Array Value → Addr → Pt → Prop} (hK : vx_Back l R p e below s args y 3 W9 Pre Post PostX)
    {g : JFrame} (hg : g.method = m) (hsize : g.locals.size = c.maxLocals) {argsL rest : List Value} (hlen : ∀ sig, parseMethodDescriptor y.desc = some sig → argsL.length = sig.parameters.length)
    (hstack : g.stack = argsL.reverse ++ rest) (hW : 2 * g.monitorRoom + (rest.map fun v => v.category).sum ≤ W9) (hdg : decode c.code g.pc = .ok (.invokestatic index, 3))
    (hpre : ∀ vm₁, s.WarmedH vm₁ → Pre ⟨T.setVm vm₁, locs, cells, slots⟩ argsL.toArray) :
    (∃ (v : Option Value) (vm₁ : Vm) (B : Pt), s.WarmedH vm₁ ∧ Stand p l e R s m args below meth c B.U B.locs B.cells B.slots ∧ Post ⟨T.setVm vm₁, locs, cells, slots⟩ argsL.toArray v B ∧
      ∀ target, Steps p.tables e below (B.U.setTop { g with pc := g.pc + 3, stack := v.toList ++ rest }) target → Steps p.tables e below (T.setTop g) target) ∨
    (∃ (q : Addr) (vm₁ : Vm) (B : Pt), s.WarmedH vm₁ ∧ Stand p l e R s m args below meth c B.U B.locs B.cells B.slots ∧ PostX ⟨T.setVm vm₁, locs, cells, slots⟩ argsL.toArray q B ∧
      Steps p.tables e below (T.setTop g) ((B.U.setTop { g with stack := rest }).pushFrame (.throwing q))) := by
  obtain ⟨mk, methM, cM, hnamed, hmethM, -, -, -, -, -, -, hsigM⟩ := Cond.codeWith_spec hcode
  have hstatic : methM.isStatic = true := Cond.static_spec hnamed hmethM hstat
  obtain ⟨kP, hkP, -⟩ := className_of_methodNamed hnamed
  have hinitP : kP.init = .initialized := Cond.initialized_spec (findClass_of_methodNamed hnamed) hkP hinit
  obtain ⟨vm₁, X₁, hstep₁⟩ := X.invokestatic hexec hown hlink hnamed hmethM hstatic hkP hinitP hy (g := g) hg (argsL := argsL) (rest := rest) (hlen _ hsigM) hstack hdg
  rcases hK m meth c ⟨T.setVm vm₁, locs, cells, slots⟩ { g with stack := rest } (.invokestatic index) mk argsL.toArray X₁ hg hsize hdg hW (X₁.named hnamed) (hpre vm₁ X₁.warmed) with ⟨v, B, X', hpost, hsteps⟩ | ⟨q, B, X', hpost, hsteps⟩
  · exact Or.inl ⟨v, vm₁, B, X₁.warmed, X', hpost, fun target h => hstep₁ _ fun acts => by rw [doInvoke_state]; exact hsteps.trans h⟩
  · exact Or.inr ⟨q, vm₁, B, X₁.warmed, X', hpost, hstep₁ _ fun acts => by rw [doInvoke_state]; exact hsteps⟩
theorem vx_callVW (X : Stand p l e R s m args below meth c T locs cells slots) (hexec : p.tables.exec = Jvm.exec) {own C : String} {index : Nat} {y : MethodName} {bytes : ByteArray} {maxL : Nat} {ret : Option FieldType} {hh : List (Nat × Nat × Nat × Nat)}
    (hown : s.vm.findClass own = some m.cls) (hlink : (Cond.methodLink own index y).before args s = true) (hinst : (Cond.instanceMethod y).before args s = true) (hsel : (Cond.selects C y y).before args s = true)
    (hcode : (Cond.codeWith y bytes maxL ret hh).before args s = true) (hy : y.cls ≠ "java/lang/invoke/MethodHandle" ∧ y.cls ≠ "java/lang/invoke/VarHandle")
    {W9 : Nat} {Pre : Pt → Array Value → Prop} {Post : Pt → Array Value → Option Value → Pt → Prop} (hK : Back l R p e below s args y 3 W9 Pre Post)
    {b : Addr} {cellB : Cell} (hcell : T.heap[b]? = some cellB) (hobj : cellB.vm.isStatics = false) (hcls : s.vm.findClass C = some cellB.cls)
    {g : JFrame} (hg : g.method = m) (hsize : g.locals.size = c.maxLocals) {argsL rest : List Value} (hlen : ∀ sig, parseMethodDescriptor y.desc = some sig → argsL.length = sig.parameters.length)
    (hstack : g.stack = argsL.reverse ++ .ref b :: rest) (hW : 2 * g.monitorRoom + (rest.map fun v => v.category).sum ≤ W9) (hdg : decode c.code g.pc = .ok (.invokevirtual index, 3))
    (hpre : ∀ vm₁, s.WarmedH vm₁ → Pre ⟨T.setVm vm₁, locs, cells, slots⟩ (Value.ref b :: argsL).toArray) :
    ∃ (v : Option Value) (vm₁ : Vm) (B : Pt), s.WarmedH vm₁ ∧ Stand p l e R s m args below meth c B.U B.locs B.cells B.slots ∧ Post ⟨T.setVm vm₁, locs, cells, slots⟩ (Value.ref b :: argsL).toArray v B ∧
      ∀ target, Steps p.tables e below (B.U.setTop { g with pc := g.pc + 3, stack := v.toList ++ rest }) target → Steps p.tables e below (T.setTop g) target := by
  obtain ⟨mk, methM, hnamed, hmethM, hstM, habM⟩ := Cond.instanceMethod_spec hinst
  obtain ⟨m8, methM', cM, hn8, hmethM', -, -, -, -, -, -, hsigM⟩ := Cond.codeWith_spec hcode
  cases Option.some.inj (hn8.symm.trans hnamed)
  cases hmethM.symm.trans hmethM'
  obtain ⟨c2, r2, m2, q1, q2, q3, q4, kP, hkP, hkPi⟩ := Cond.selects_spec hsel
  cases hcls.symm.trans q1
  cases (State.methodFound?_of_named hnamed hy).symm.trans q2
  cases hnamed.symm.trans q3
  have hselP : selectMethod e.platform s.vm cellB.cls mk = .method mk := by rw [Launch.admits_selectMethod X.admits]; exact q4
  obtain ⟨vm₁, X₁, hstep₁⟩ := X.invokevirtual hexec hown hlink hnamed hmethM hstM hkP hkPi hy (a := b) (cell := cellB) hcell
    (fun z h => by rw [h] at hobj; cases hobj) hselP hmethM habM hkP hkPi (g := g) hg (argsL := argsL) (rest := rest) (hlen _ hsigM) hstack hdg
  obtain ⟨v, B, X', hpost, hsteps⟩ := hK m meth c ⟨T.setVm vm₁, locs, cells, slots⟩ { g with stack := rest } (.invokevirtual index) mk (Value.ref b :: argsL).toArray X₁ hg hsize hdg hW (X₁.named hnamed) (hpre vm₁ X₁.warmed)
  exact ⟨v, vm₁, B, X₁.warmed, X', hpost, fun target h => hstep₁ _ fun acts => by rw [doInvoke_state]; exact hsteps.trans h⟩
abbrev vx_CVW (R : Room) (s : State) (args : Array Value) (own C : String) (index : Nat) (y : MethodName) (bytes : ByteArray) (maxL : Nat) (ret : Option FieldType) (hh : List (Nat × Nat × Nat × Nat)) (ws : List Cond) (rm : Room) (mc ms n : Nat) : Prop :=
  (rm.cells = mc ∧ rm.slots = ms ∧ rm.frames + 1 ≤ R.frames ∧ 8 + (maxL + 11) + rm.locals ≤ R.locals ∧ (∀ w ∈ ws, ∀ (a' : Array Value) (U : State), s.WarmedH U.vm → w.before a' U = true) ∧ Cond.codeWith y bytes maxL ret hh ∈ ws) ∧
  (Cond.codeWith y bytes maxL ret hh).before args s = true ∧ (Cond.initialized y.cls).before args s = true ∧ (y.cls ≠ "java/lang/invoke/MethodHandle" ∧ y.cls ≠ "java/lang/invoke/VarHandle") ∧
  (∀ sig, parseMethodDescriptor y.desc = some sig → n = sig.parameters.length) ∧ (Cond.methodLink own index y).before args s = true ∧ (Cond.instanceMethod y).before args s = true ∧ (Cond.selects C y y).before args s = true
theorem vx_cwVW {own C : String} {index maxL mc ms : Nat} {y : MethodName} {bytes : ByteArray} {ret : Option FieldType} {hh : List (Nat × Nat × Nat × Nat)} {Ts ws ws' : List Cond} {rm : Room} (n : Nat) (ht : ∀ w ∈ Ts, w.before args s = true) (hT : GoodIn Ts (wsV own index C y ws)) (hw : ws = Cond.codeWith y bytes maxL ret hh :: ws') (hrc : rm.cells = mc) (hrs : rm.slots = ms)
    (hd : y.cls = C ∧ y.cls ≠ "java/lang/invoke/MethodHandle" ∧ y.cls ≠ "java/lang/invoke/VarHandle" ∧ (parseMethodDescriptor y.desc).map (fun d => d.parameters.length) = some n) (hR : rm.frames + 1 ≤ R.frames ∧ 8 + (maxL + 11) + rm.locals ≤ R.locals) :
    vx_CVW R s args own C index y bytes maxL ret hh ws rm mc ms n := by
  obtain ⟨hC, hd⟩ := hd
  subst hC
  have ok : ∀ w ∈ wsV own index y.cls y ws, w.before args s = true := fun w h => ht w (hT w h).1
  have hG : GoodIn Ts ws := fun w h => hT w (by unfold wsV; exact List.mem_append_right _ h)
  have hc : Cond.codeWith y bytes maxL ret hh ∈ ws := by rw [hw]; exact List.mem_cons_self
  refine ⟨⟨hrc, hrs, hR.1, hR.2, pay_in ht hG, hc⟩, ht _ (hG _ hc).1, ok _ (by simp [wsV]), ⟨hd.1, hd.2.1⟩, fun sig h => ?_, ok _ (by simp [wsV]), ok _ (by simp [wsV]), ok _ (by simp [wsV])⟩
  have h2 := hd.2.2
  rw [h] at h2
  exact (Option.some.inj h2).symm
theorem vx_runVW {y : MethodName} {bytes cc : ByteArray} {maxL nL mc ms n index : Nat} {ret : Option FieldType} {hh : List (Nat × Nat × Nat × Nat)} {ws : List Cond} {rm : Room} {Pc : Array Value → State → Prop} {Qc : Array Value → State → Outcome → State → Prop} {free : Addr → Prop} {Ts : List Cond} {own C : String} {b : Addr} {As rest : List Value} {g : JFrame}
    (S : CallFix p m c cc nL s args Ts own) (hM : Met l y ws rm Pc Qc mc ms free) (cw : vx_CVW R s args own C index y bytes maxL ret hh ws rm mc ms n) (hp : PreV s H C b Pc As)
    (hg : g.method = m) (hn : As.length = n) (hsize : g.locals.size = nL) (hstack : g.stack = As.reverse ++ .ref b :: rest) (hW : 2 * g.monitorRoom + (rest.map fun v => v.category).sum ≤ 8) (hdg : decode cc g.pc = .ok (.invokevirtual index, 3)) (hf : cells + mc ≤ R.cells ∧ slots + ms ≤ R.slots) :
    va_Run p l e R s m args below meth c H locs cells slots mc ms g rest (Qc (Value.ref b :: As).toArray) free := by
  obtain ⟨⟨hrc, hrs, hfr, hlo, hws, hcw⟩, hcode, hini, hy, hlen, hl, hin, hse⟩ := cw
  have hK : Back l R p e below s args y 3 8 (PreOf R mc ms Pc) (PostOf Qc mc ms free) := va_backW (hh := hh) (bytes := bytes) (maxL := maxL) (ret := ret) hM hp.1 hrc hrs hfr hlo hws hcw (fun a' U hW => word_at hW (Or.inl (by first | rfl | simp [Cond.onTables, Cond.keeps, Cond.steady])) hini)
  obtain ⟨hx, hb, hml, ho, -⟩ := S
  obtain ⟨-, ⟨cellB, hcB, hoB, hclB⟩, hPc⟩ := hp
  intro T hT X
  obtain ⟨v, vm₁, ⟨U', l2, c2, s2⟩, hW₁, X', ⟨g', mk, t, L, e1, e2, hq, h1, hL, h2, h3⟩, st⟩ := vx_callVW X hx (C := C) (hh := hh) (bytes := bytes) (maxL := maxL) (ret := ret) ho hl hin hse hcode hy hK (by rw [hT]; exact hcB) hoB hclB hg (hsize.trans hml.symm) (argsL := As) (rest := rest) (fun sig h => hn.trans (hlen sig h)) hstack hW (by rw [hb]; exact hdg)
    (fun vm₁ hW₁ => ⟨hf.1, hf.2, hPc (T.setVm vm₁) hT hW₁⟩)
  dsimp only [Pt.U, Pt.locs, Pt.cells, Pt.slots] at X' e1 e2 h1 h2 h3 st
  subst h1; subst h2; subst h3
  exact ⟨v, (T.setVm vm₁).calling g' mk (Value.ref b :: As).toArray, t, U', L, hT, X', hL, e1, e2, hq, st⟩
section
variable {y : MethodName} {bytes cc : ByteArray} {maxL nL mc ms n index : Nat} {ret : Option FieldType} {ws : List Cond} {rm : Room} {Pc : Array Value → State → Prop} {Qc : Array Value → State → Outcome → State → Prop} {XC : String → State → State → Prop} {free : Addr → Prop} {Ts : List Cond} {own C : String} {b : Addr} {As rest : List Value} {g : JFrame}
theorem vx_runVX {hh : List (Nat × Nat × Nat × Nat)} (S : CallFix p m c cc nL s args Ts own) (hM : vx_Met l y ws rm Pc Qc XC mc ms free) (cw : vx_CVW R s args own C index y bytes maxL ret hh ws rm mc ms n) (hp : PreV s H C b Pc As)
    (hg : g.method = m) (hn : As.length = n) (hsize : g.locals.size = nL) (hstack : g.stack = As.reverse ++ .ref b :: rest) (hW : 2 * g.monitorRoom + (rest.map fun v => v.category).sum ≤ 8) (hdg : decode cc g.pc = .ok (.invokevirtual index, 3)) (hf : cells + mc ≤ R.cells ∧ slots + ms ≤ R.slots) :
    vx_Run p l e R s m args below meth c H locs cells slots mc ms g rest (Qc (Value.ref b :: As).toArray) XC free := by
  obtain ⟨⟨hrc, hrs, hfr, hlo, hws, hcw⟩, hcode, hini, hy, hlen, hl, hin, hse⟩ := cw
  have hK : vx_Back l R p e below s args y 3 8 (PreOf R mc ms Pc) (PostOf Qc mc ms free) (vx_Post XC mc ms free) := vx_backW (hh := hh) (bytes := bytes) (maxL := maxL) (ret := ret) hM hp.1 hrc hrs hfr hlo hws hcw (fun a' U hW => word_at hW (Or.inl (by first | rfl | simp [Cond.onTables, Cond.keeps, Cond.steady])) hini)
  obtain ⟨hx, hb, hml, ho, -⟩ := S
  obtain ⟨-, ⟨cellB, hcB, hoB, hclB⟩, hPc⟩ := hp
  intro T hT X
  rcases vx_callVX X hx (C := C) (hh := hh) (bytes := bytes) (maxL := maxL) (ret := ret) ho hl hin hse hcode hy hK (by rw [hT]; exact hcB) hoB hclB hg (hsize.trans hml.symm) (argsL := As) (rest := rest) (fun sig h => hn.trans (hlen sig h)) hstack hW (by rw [hb]; exact hdg)
    (fun vm₁ hW₁ => ⟨hf.1, hf.2, hPc (T.setVm vm₁) hT hW₁⟩) with ⟨v, vm₁, ⟨U', l2, c2, s2⟩, hW₁, X', ⟨g', mk, t, L, e1, e2, hq, h1, hL, h2, h3⟩, st⟩ | ⟨q, vm₁, ⟨U', l2, c2, s2⟩, hW₁, X', ⟨g', mk, t, L, E, ce, e1, e2, hq, hce, hcv, hcl, h1, hL, h2, h3⟩, st⟩
  · dsimp only [Pt.U, Pt.locs, Pt.cells, Pt.slots] at X' e1 e2 h1 h2 h3 st
    subst h1; subst h2; subst h3
    exact Or.inl ⟨v, (T.setVm vm₁).calling g' mk (Value.ref b :: As).toArray, t, U', L, hT, X', hL, e1, e2, hq, st⟩
  · dsimp only [Pt.U, Pt.locs, Pt.cells, Pt.slots] at X' e1 e2 h1 h2 h3 st hcl
    subst h1; subst h2; subst h3
    exact Or.inr ⟨q, (T.setVm vm₁).calling g' mk (Value.ref b :: As).toArray, t, U', L, E, ce, hT, X', hL, e1, e2, hq, hce, hcv, vx_cls hW₁ hcl, st⟩
theorem vx_runSX {hh : List (Nat × Nat × Nat × Nat)} (S : CallFix p m c cc nL s args Ts own) (hM : vx_Met l y ws rm Pc Qc XC mc ms free) (cw : vx_CSW R s args own index y bytes maxL ret hh ws rm mc ms n) (hp : PreS s H Pc As)
    (hg : g.method = m) (hn : As.length = n) (hsize : g.locals.size = nL) (hstack : g.stack = As.reverse ++ rest) (hW : 2 * g.monitorRoom + (rest.map fun v => v.category).sum ≤ 8) (hdg : decode cc g.pc = .ok (.invokestatic index, 3)) (hf : cells + mc ≤ R.cells ∧ slots + ms ≤ R.slots) :
    vx_Run p l e R s m args below meth c H locs cells slots mc ms g rest (Qc As.toArray) XC free := by
  obtain ⟨⟨hrc, hrs, hfr, hlo, hws, hcw⟩, hcode, hini, hy, hlen, hl, hstt⟩ := cw
  have hK : vx_Back l R p e below s args y 3 8 (PreOf R mc ms Pc) (PostOf Qc mc ms free) (vx_Post XC mc ms free) := vx_backW (hh := hh) (bytes := bytes) (maxL := maxL) (ret := ret) hM hp.1 hrc hrs hfr hlo hws hcw (fun a' U hW => word_at hW (Or.inl (by first | rfl | simp [Cond.onTables, Cond.keeps, Cond.steady])) hini)
  obtain ⟨hx, hb, hml, ho, -⟩ := S
  intro T hT X
  rcases vx_callSX X hx (hh := hh) (bytes := bytes) (maxL := maxL) (ret := ret) ho hl hstt hini hcode hy hK hg (hsize.trans hml.symm) (argsL := As) (rest := rest) (fun sig h => hn.trans (hlen sig h)) hstack hW (by rw [hb]; exact hdg)
    (fun vm₁ hW₁ => ⟨hf.1, hf.2, hp.2 (T.setVm vm₁) hT hW₁⟩) with ⟨v, vm₁, ⟨U', l2, c2, s2⟩, hW₁, X', ⟨g', mk, t, L, e1, e2, hq, h1, hL, h2, h3⟩, st⟩ | ⟨q, vm₁, ⟨U', l2, c2, s2⟩, hW₁, X', ⟨g', mk, t, L, E, ce, e1, e2, hq, hce, hcv, hcl, h1, hL, h2, h3⟩, st⟩
  · dsimp only [Pt.U, Pt.locs, Pt.cells, Pt.slots] at X' e1 e2 h1 h2 h3 st
    subst h1; subst h2; subst h3
    exact Or.inl ⟨v, (T.setVm vm₁).calling g' mk As.toArray, t, U', L, hT, X', hL, e1, e2, hq, st⟩
  · dsimp only [Pt.U, Pt.locs, Pt.cells, Pt.slots] at X' e1 e2 h1 h2 h3 st hcl
    subst h1; subst h2; subst h3
    exact Or.inr ⟨q, (T.setVm vm₁).calling g' mk As.toArray, t, U', L, E, ce, hT, X', hL, e1, e2, hq, hce, hcv, vx_cls hW₁ hcl, st⟩
end
end VXH
theorem vx_ofWH {l : Launch} {y : MethodName} {ws ws' : List Cond} {rm : Room} {Pc : Array Value → State → Prop} {Qc : Array Value → State → Outcome → State → Prop} {XC : String → State → State → Prop} {mc ms : Nat} {free : Addr → Prop} {cc : ByteArray} {maxL : Nat} {ret : Option FieldType} {hh : List (Nat × Nat × Nat × Nat)}
    (hy : plainName y.cls = true) (hw : ws = Cond.codeWith y cc maxL ret hh :: ws')
    (body : ∀ p e s m args below meth c s₁, BodyLoose p l y (headSpec ws rm) cc maxL ret e s m args below meth c s₁ → c.maxLocals = maxL → Pc args s →
      W p l e (headSpec ws rm).room s m args below meth c s.heap [] 0 0 (vx_MQ below Qc XC args s mc ms free) (entryFrame m args maxL)) : vx_Met l y ws rm Pc Qc XC mc ms free := by
  refine MetFree.of_bodyS (code := cc) (maxLocals := maxL) (ret := ret) hy ?_ ?_
  · intro args s m h hn
    obtain ⟨m9, meth, c, hn9, h1, h2, h3, h4, -, h5, h6, -⟩ := Cond.codeWith_spec (atoms_spec (ws := ws) h _ (by rw [hw]; exact List.mem_cons_self))
    cases hn.symm.trans hn9
    exact ⟨meth, c, h1, h2, h3, h4, h5, h6⟩
  · intro p e s m args below meth c s₁ B hml hP _
    have hh0 : s₁.heap = s.heap := by rw [B.state]; rfl
    obtain ⟨t, a1, o, b1, b2, b3⟩ := body p e s m args below meth c s₁ B hml hP s₁ hh0 (Stand.of_body B)
    exact ⟨t, o, a1, b1, b2, b3⟩
/-! ===== END ===== -/
end
section
/-! ===== BEGIN printed: names, fields, word lists, decode rows ===== -/
def RX0 : String := "DiskMachine$Arithmetic"
def TX0 : u_T := fun k => match k with
  | _ => ("DiskMachine$Arithmetic", "flags", "LDiskMachine$Flags;", true)
def tyX0 : Nat → FieldType := fun k => match k with
  | _ => .object "DiskMachine$Flags"
abbrev wsX00 : List Cond := u_ws RX0 TX0 1
theorem nmX0 : ∀ a, a < 1 → ∀ b, b < 1 → a ≠ b → (TX0 a).2.1 ≠ (TX0 b).2.1 := by decide +kernel
theorem tyX0_ok : ∀ k, k < 1 → parseFieldDescriptor (TX0 k).2.2.1 = some (tyX0 k) := by decide +kernel
abbrev cX0_init : ByteArray := prog_2_method_1_code
def yX0_init : MethodName := ⟨RX0, "<init>", "(LDiskMachine$Flags;)V"⟩
abbrev cX0_combine : ByteArray := prog_2_method_2_code
def yX0_combine : MethodName := ⟨RX0, "combine", "(III)I"⟩
abbrev cX0_added : ByteArray := prog_2_method_3_code
def yX0_added : MethodName := ⟨RX0, "added", "(III)I"⟩
abbrev cX0_subtracted : ByteArray := prog_2_method_4_code
def yX0_subtracted : MethodName := ⟨RX0, "subtracted", "(III)I"⟩
abbrev cX0_bitwise : ByteArray := prog_2_method_5_code
def yX0_bitwise : MethodName := ⟨RX0, "bitwise", "(IZ)I"⟩
abbrev cX0_oneMore : ByteArray := prog_2_method_6_code
def yX0_oneMore : MethodName := ⟨RX0, "oneMore", "(I)I"⟩
abbrev cX0_oneLess : ByteArray := prog_2_method_7_code
def yX0_oneLess : MethodName := ⟨RX0, "oneLess", "(I)I"⟩
abbrev cX0_adjust : ByteArray := prog_2_method_8_code
def yX0_adjust : MethodName := ⟨RX0, "adjust", "(II)I"⟩
abbrev cX0_turnLeft : ByteArray := prog_2_method_9_code
def yX0_turnLeft : MethodName := ⟨RX0, "turnLeft", "(II)I"⟩
abbrev cX0_turnRight : ByteArray := prog_2_method_10_code
def yX0_turnRight : MethodName := ⟨RX0, "turnRight", "(II)I"⟩
abbrev cX0_toDecimal : ByteArray := prog_2_method_11_code
def yX0_toDecimal : MethodName := ⟨RX0, "toDecimal", "(I)I"⟩
def RX1 : String := "DiskMachine$Console"
def TX1 : u_T := fun k => match k with
  | 0 => ("DiskMachine$Console", "input", "[I", true)
  | 1 => ("DiskMachine$Console", "firstInput", "I", false)
  | 2 => ("DiskMachine$Console", "inputCount", "I", false)
  | 3 => ("DiskMachine$Console", "output", "[I", true)
  | _ => ("DiskMachine$Console", "outputCount", "I", false)
def tyX1 : Nat → FieldType := fun k => match k with
  | 0 => .array .int
  | 1 => .int
  | 2 => .int
  | 3 => .array .int
  | _ => .int
abbrev wsX10 : List Cond := u_ws RX1 TX1 5
theorem nmX1 : ∀ a, a < 5 → ∀ b, b < 5 → a ≠ b → (TX1 a).2.1 ≠ (TX1 b).2.1 := by decide +kernel
theorem tyX1_ok : ∀ k, k < 5 → parseFieldDescriptor (TX1 k).2.2.1 = some (tyX1 k) := by decide +kernel
abbrev cX1_init : ByteArray := prog_3_method_1_code
def yX1_init : MethodName := ⟨RX1, "<init>", "()V"⟩
abbrev cX1_takeKey : ByteArray := prog_3_method_2_code
def yX1_takeKey : MethodName := ⟨RX1, "takeKey", "(I)I"⟩
abbrev cX1_hasInput : ByteArray := prog_3_method_3_code
def yX1_hasInput : MethodName := ⟨RX1, "hasInput", "()Z"⟩
abbrev cX1_nextInput : ByteArray := prog_3_method_4_code
def yX1_nextInput : MethodName := ⟨RX1, "nextInput", "()I"⟩
abbrev cX1_append : ByteArray := prog_3_method_5_code
def yX1_append : MethodName := ⟨RX1, "append", "(I)V"⟩
abbrev cX1_writtenCount : ByteArray := prog_3_method_6_code
def yX1_writtenCount : MethodName := ⟨RX1, "writtenCount", "()I"⟩
abbrev cX1_keeps : ByteArray := prog_3_method_7_code
def yX1_keeps : MethodName := ⟨RX1, "keeps", "(I)Z"⟩
abbrev cX1_writtenByte : ByteArray := prog_3_method_8_code
def yX1_writtenByte : MethodName := ⟨RX1, "writtenByte", "(I)I"⟩
def RX2 : String := "DiskMachine$Controller"
def TX2 : u_T := fun k => match k with
  | 0 => ("DiskMachine$Controller", "memory", "LDiskMachine$Store;", true)
  | 1 => ("DiskMachine$Controller", "disk", "LDiskMachine$Store;", true)
  | 2 => ("DiskMachine$Controller", "sector", "I", false)
  | 3 => ("DiskMachine$Controller", "address", "I", false)
  | 4 => ("DiskMachine$Controller", "call", "I", false)
  | 5 => ("DiskMachine$Controller", "state", "I", false)
  | 6 => ("DiskMachine$Controller", "diskStart", "I", false)
  | 7 => ("DiskMachine$Controller", "toDisk", "Z", false)
  | 8 => ("DiskMachine$Controller", "moved", "I", false)
  | 9 => ("DiskMachine$Controller", "cyclesLeftOver", "I", false)
  | _ => ("DiskMachine$Controller", "commandJustCame", "Z", false)
def tyX2 : Nat → FieldType := fun k => match k with
  | 0 => .object "DiskMachine$Store"
  | 1 => .object "DiskMachine$Store"
  | 2 => .int
  | 3 => .int
  | 4 => .int
  | 5 => .int
  | 6 => .int
  | 7 => .boolean
  | 8 => .int
  | 9 => .int
  | _ => .boolean
abbrev wsX20 : List Cond := u_ws RX2 TX2 11
theorem nmX2 : ∀ a, a < 11 → ∀ b, b < 11 → a ≠ b → (TX2 a).2.1 ≠ (TX2 b).2.1 := by decide +kernel
theorem tyX2_ok : ∀ k, k < 11 → parseFieldDescriptor (TX2 k).2.2.1 = some (tyX2 k) := by decide +kernel
abbrev cX2_init : ByteArray := prog_4_method_1_code
def yX2_init : MethodName := ⟨RX2, "<init>", "(LDiskMachine$Store;LDiskMachine$Store;)V"⟩
abbrev cX2_setSector : ByteArray := prog_4_method_2_code
def yX2_setSector : MethodName := ⟨RX2, "setSector", "(I)V"⟩
abbrev cX2_setLowAddress : ByteArray := prog_4_method_3_code
def yX2_setLowAddress : MethodName := ⟨RX2, "setLowAddress", "(I)V"⟩
abbrev cX2_setHighAddress : ByteArray := prog_4_method_4_code
def yX2_setHighAddress : MethodName := ⟨RX2, "setHighAddress", "(I)V"⟩
abbrev cX2_setCall : ByteArray := prog_4_method_5_code
def yX2_setCall : MethodName := ⟨RX2, "setCall", "(I)V"⟩
abbrev cX2_command : ByteArray := prog_4_method_6_code
def yX2_command : MethodName := ⟨RX2, "command", "(I)V"⟩
abbrev cX2_takeState : ByteArray := prog_4_method_7_code
def yX2_takeState : MethodName := ⟨RX2, "takeState", "()I"⟩
abbrev cX2_letPass : ByteArray := prog_4_method_8_code
def yX2_letPass : MethodName := ⟨RX2, "letPass", "(I)I"⟩
abbrev cX2_moveByte : ByteArray := prog_4_method_9_code
def yX2_moveByte : MethodName := ⟨RX2, "moveByte", "()V"⟩
abbrev cX2_finish : ByteArray := prog_4_method_10_code
def yX2_finish : MethodName := ⟨RX2, "finish", "()I"⟩
abbrev cX2_isBusy : ByteArray := prog_4_method_11_code
def yX2_isBusy : MethodName := ⟨RX2, "isBusy", "()Z"⟩
abbrev cX2_stateByte : ByteArray := prog_4_method_12_code
def yX2_stateByte : MethodName := ⟨RX2, "stateByte", "()I"⟩
abbrev cX2_movedCount : ByteArray := prog_4_method_13_code
def yX2_movedCount : MethodName := ⟨RX2, "movedCount", "()I"⟩
abbrev cX2_addressWord : ByteArray := prog_4_method_14_code
def yX2_addressWord : MethodName := ⟨RX2, "addressWord", "()I"⟩
def RX3 : String := "DiskMachine$Flags"
def TX3 : u_T := fun k => match k with
  | 0 => ("DiskMachine$Flags", "sign", "Z", false)
  | 1 => ("DiskMachine$Flags", "zero", "Z", false)
  | 2 => ("DiskMachine$Flags", "half", "Z", false)
  | 3 => ("DiskMachine$Flags", "parity", "Z", false)
  | _ => ("DiskMachine$Flags", "carry", "Z", false)
def tyX3 : Nat → FieldType := fun k => match k with
  | 0 => .boolean
  | 1 => .boolean
  | 2 => .boolean
  | 3 => .boolean
  | _ => .boolean
abbrev wsX30 : List Cond := u_ws RX3 TX3 5
theorem nmX3 : ∀ a, a < 5 → ∀ b, b < 5 → a ≠ b → (TX3 a).2.1 ≠ (TX3 b).2.1 := by decide +kernel
theorem tyX3_ok : ∀ k, k < 5 → parseFieldDescriptor (TX3 k).2.2.1 = some (tyX3 k) := by decide +kernel
abbrev cX3_init : ByteArray := prog_5_method_1_code
def yX3_init : MethodName := ⟨RX3, "<init>", "()V"⟩
abbrev cX3_packed : ByteArray := prog_5_method_2_code
def yX3_packed : MethodName := ⟨RX3, "packed", "()I"⟩
abbrev cX3_unpack : ByteArray := prog_5_method_3_code
def yX3_unpack : MethodName := ⟨RX3, "unpack", "(I)V"⟩
abbrev cX3_setLogic : ByteArray := prog_5_method_4_code
def yX3_setLogic : MethodName := ⟨RX3, "setLogic", "(I)V"⟩
abbrev cX3_setHalf : ByteArray := prog_5_method_5_code
def yX3_setHalf : MethodName := ⟨RX3, "setHalf", "(Z)V"⟩
abbrev cX3_setCarry : ByteArray := prog_5_method_6_code
def yX3_setCarry : MethodName := ⟨RX3, "setCarry", "(Z)V"⟩
abbrev cX3_hasHalf : ByteArray := prog_5_method_7_code
def yX3_hasHalf : MethodName := ⟨RX3, "hasHalf", "()Z"⟩
abbrev cX3_hasCarry : ByteArray := prog_5_method_8_code
def yX3_hasCarry : MethodName := ⟨RX3, "hasCarry", "()Z"⟩
abbrev cX3_carryBit : ByteArray := prog_5_method_9_code
def yX3_carryBit : MethodName := ⟨RX3, "carryBit", "()I"⟩
abbrev cX3_holds : ByteArray := prog_5_method_10_code
def yX3_holds : MethodName := ⟨RX3, "holds", "(I)Z"⟩
def RX4 : String := "DiskMachine$Processor"
def TX4 : u_T := fun k => match k with
  | 0 => ("DiskMachine$Processor", "memory", "LDiskMachine$Store;", true)
  | 1 => ("DiskMachine$Processor", "console", "LDiskMachine$Console;", true)
  | 2 => ("DiskMachine$Processor", "controller", "LDiskMachine$Controller;", true)
  | 3 => ("DiskMachine$Processor", "flags", "LDiskMachine$Flags;", true)
  | 4 => ("DiskMachine$Processor", "arithmetic", "LDiskMachine$Arithmetic;", true)
  | 5 => ("DiskMachine$Processor", "registers", "[I", true)
  | 6 => ("DiskMachine$Processor", "pc", "I", false)
  | 7 => ("DiskMachine$Processor", "sp", "I", false)
  | 8 => ("DiskMachine$Processor", "halted", "Z", false)
  | 9 => ("DiskMachine$Processor", "interruptsOn", "Z", false)
  | 10 => ("DiskMachine$Processor", "justSetOn", "Z", false)
  | 11 => ("DiskMachine$Processor", "wanted", "I", false)
  | _ => ("DiskMachine$Processor", "cyclesDone", "J", false)
def tyX4 : Nat → FieldType := fun k => match k with
  | 0 => .object "DiskMachine$Store"
  | 1 => .object "DiskMachine$Console"
  | 2 => .object "DiskMachine$Controller"
  | 3 => .object "DiskMachine$Flags"
  | 4 => .object "DiskMachine$Arithmetic"
  | 5 => .array .int
  | 6 => .int
  | 7 => .int
  | 8 => .boolean
  | 9 => .boolean
  | 10 => .boolean
  | 11 => .int
  | _ => .long
abbrev wsX40 : List Cond := u_ws RX4 TX4 13
theorem nmX4 : ∀ a, a < 13 → ∀ b, b < 13 → a ≠ b → (TX4 a).2.1 ≠ (TX4 b).2.1 := by decide +kernel
theorem tyX4_ok : ∀ k, k < 13 → parseFieldDescriptor (TX4 k).2.2.1 = some (tyX4 k) := by decide +kernel
abbrev cX4_init : ByteArray := prog_6_method_1_code
def yX4_init : MethodName := ⟨RX4, "<init>", "(LDiskMachine$Store;LDiskMachine$Console;LDiskMachine$Controller;)V"⟩
abbrev cX4_shows : ByteArray := prog_6_method_2_code
def yX4_shows : MethodName := ⟨RX4, "shows", "(I)Z"⟩
abbrev cX4_shown : ByteArray := prog_6_method_3_code
def yX4_shown : MethodName := ⟨RX4, "shown", "(I)I"⟩
abbrev cX4_change : ByteArray := prog_6_method_4_code
def yX4_change : MethodName := ⟨RX4, "change", "(II)V"⟩
abbrev cX4_callWith : ByteArray := prog_6_method_5_code
def yX4_callWith : MethodName := ⟨RX4, "callWith", "(I)V"⟩
abbrev cX4_isHalted : ByteArray := prog_6_method_6_code
def yX4_isHalted : MethodName := ⟨RX4, "isHalted", "()Z"⟩
abbrev cX4_hasInterruptsOn : ByteArray := prog_6_method_7_code
def yX4_hasInterruptsOn : MethodName := ⟨RX4, "hasInterruptsOn", "()Z"⟩
abbrev cX4_wantedInterrupt : ByteArray := prog_6_method_8_code
def yX4_wantedInterrupt : MethodName := ⟨RX4, "wantedInterrupt", "()I"⟩
abbrev cX4_cyclesDone : ByteArray := prog_6_method_9_code
def yX4_cyclesDone : MethodName := ⟨RX4, "cyclesDone", "()J"⟩
abbrev cX4_turn : ByteArray := prog_6_method_10_code
def yX4_turn : MethodName := ⟨RX4, "turn", "()I"⟩
abbrev cX4_answerInterrupt : ByteArray := prog_6_method_11_code
def yX4_answerInterrupt : MethodName := ⟨RX4, "answerInterrupt", "()I"⟩
abbrev cX4_instruction : ByteArray := prog_6_method_12_code
def yX4_instruction : MethodName := ⟨RX4, "instruction", "()I"⟩
abbrev cX4_firstQuarter : ByteArray := prog_6_method_13_code
def yX4_firstQuarter : MethodName := ⟨RX4, "firstQuarter", "(II)I"⟩
abbrev cX4_setOrAddPair : ByteArray := prog_6_method_14_code
def yX4_setOrAddPair : MethodName := ⟨RX4, "setOrAddPair", "(I)I"⟩
abbrev cX4_stepPair : ByteArray := prog_6_method_15_code
def yX4_stepPair : MethodName := ⟨RX4, "stepPair", "(I)I"⟩
abbrev cX4_moveByAddress : ByteArray := prog_6_method_16_code
def yX4_moveByAddress : MethodName := ⟨RX4, "moveByAddress", "(I)I"⟩
abbrev cX4_transfer : ByteArray := prog_6_method_17_code
def yX4_transfer : MethodName := ⟨RX4, "transfer", "(II)I"⟩
abbrev cX4_lastQuarter : ByteArray := prog_6_method_18_code
def yX4_lastQuarter : MethodName := ⟨RX4, "lastQuarter", "(II)I"⟩
abbrev cX4_returnIf : ByteArray := prog_6_method_19_code
def yX4_returnIf : MethodName := ⟨RX4, "returnIf", "(I)I"⟩
abbrev cX4_popOrReturn : ByteArray := prog_6_method_20_code
def yX4_popOrReturn : MethodName := ⟨RX4, "popOrReturn", "(I)I"⟩
abbrev cX4_popAccumulator : ByteArray := prog_6_method_21_code
def yX4_popAccumulator : MethodName := ⟨RX4, "popAccumulator", "()I"⟩
abbrev cX4_jumpIf : ByteArray := prog_6_method_22_code
def yX4_jumpIf : MethodName := ⟨RX4, "jumpIf", "(Z)I"⟩
abbrev cX4_callIf : ByteArray := prog_6_method_23_code
def yX4_callIf : MethodName := ⟨RX4, "callIf", "(Z)I"⟩
abbrev cX4_pushPair : ByteArray := prog_6_method_24_code
def yX4_pushPair : MethodName := ⟨RX4, "pushPair", "(I)I"⟩
abbrev cX4_portOrExchange : ByteArray := prog_6_method_25_code
def yX4_portOrExchange : MethodName := ⟨RX4, "portOrExchange", "(I)I"⟩
abbrev cX4_swapWithStack : ByteArray := prog_6_method_26_code
def yX4_swapWithStack : MethodName := ⟨RX4, "swapWithStack", "()I"⟩
abbrev cX4_swapPairs : ByteArray := prog_6_method_27_code
def yX4_swapPairs : MethodName := ⟨RX4, "swapPairs", "()I"⟩
abbrev cX4_sendToPort : ByteArray := prog_6_method_28_code
def yX4_sendToPort : MethodName := ⟨RX4, "sendToPort", "(II)V"⟩
abbrev cX4_takeFromPort : ByteArray := prog_6_method_29_code
def yX4_takeFromPort : MethodName := ⟨RX4, "takeFromPort", "(I)I"⟩
abbrev cX4_value : ByteArray := prog_6_method_30_code
def yX4_value : MethodName := ⟨RX4, "value", "(I)I"⟩
abbrev cX4_setValue : ByteArray := prog_6_method_31_code
def yX4_setValue : MethodName := ⟨RX4, "setValue", "(II)V"⟩
abbrev cX4_pair : ByteArray := prog_6_method_32_code
def yX4_pair : MethodName := ⟨RX4, "pair", "(I)I"⟩
abbrev cX4_setPair : ByteArray := prog_6_method_33_code
def yX4_setPair : MethodName := ⟨RX4, "setPair", "(II)V"⟩
abbrev cX4_push : ByteArray := prog_6_method_34_code
def yX4_push : MethodName := ⟨RX4, "push", "(I)V"⟩
abbrev cX4_pop : ByteArray := prog_6_method_35_code
def yX4_pop : MethodName := ⟨RX4, "pop", "()I"⟩
abbrev cX4_nextByte : ByteArray := prog_6_method_36_code
def yX4_nextByte : MethodName := ⟨RX4, "nextByte", "()I"⟩
abbrev cX4_nextWord : ByteArray := prog_6_method_37_code
def yX4_nextWord : MethodName := ⟨RX4, "nextWord", "()I"⟩
def RX5 : String := "DiskMachine$Store"
def TX5 : u_T := fun k => match k with
  | _ => ("DiskMachine$Store", "bytes", "[I", true)
def tyX5 : Nat → FieldType := fun k => match k with
  | _ => .array .int
abbrev wsX50 : List Cond := u_ws RX5 TX5 1
theorem nmX5 : ∀ a, a < 1 → ∀ b, b < 1 → a ≠ b → (TX5 a).2.1 ≠ (TX5 b).2.1 := by decide +kernel
theorem tyX5_ok : ∀ k, k < 1 → parseFieldDescriptor (TX5 k).2.2.1 = some (tyX5 k) := by decide +kernel
abbrev cX5_init : ByteArray := prog_7_method_1_code
def yX5_init : MethodName := ⟨RX5, "<init>", "()V"⟩
abbrev cX5_byteAt : ByteArray := prog_7_method_2_code
def yX5_byteAt : MethodName := ⟨RX5, "byteAt", "(I)I"⟩
abbrev cX5_setByte : ByteArray := prog_7_method_3_code
def yX5_setByte : MethodName := ⟨RX5, "setByte", "(II)V"⟩
abbrev cX5_exchange : ByteArray := prog_7_method_4_code
def yX5_exchange : MethodName := ⟨RX5, "exchange", "(II)I"⟩
abbrev cX5_wordAt : ByteArray := prog_7_method_5_code
def yX5_wordAt : MethodName := ⟨RX5, "wordAt", "(I)I"⟩
abbrev cX5_setWord : ByteArray := prog_7_method_6_code
def yX5_setWord : MethodName := ⟨RX5, "setWord", "(II)V"⟩
abbrev cX5_weighedTotal : ByteArray := prog_7_method_7_code
def yX5_weighedTotal : MethodName := ⟨RX5, "weighedTotal", "()I"⟩
def RX6 : String := "DiskMachine"
def TX6 : u_T := fun k => match k with
  | 0 => ("DiskMachine", "memory", "LDiskMachine$Store;", true)
  | 1 => ("DiskMachine", "disk", "LDiskMachine$Store;", true)
  | 2 => ("DiskMachine", "console", "LDiskMachine$Console;", true)
  | 3 => ("DiskMachine", "controller", "LDiskMachine$Controller;", true)
  | _ => ("DiskMachine", "processor", "LDiskMachine$Processor;", true)
def tyX6 : Nat → FieldType := fun k => match k with
  | 0 => .object "DiskMachine$Store"
  | 1 => .object "DiskMachine$Store"
  | 2 => .object "DiskMachine$Console"
  | 3 => .object "DiskMachine$Controller"
  | _ => .object "DiskMachine$Processor"
abbrev wsX60 : List Cond := u_ws RX6 TX6 5
theorem nmX6 : ∀ a, a < 5 → ∀ b, b < 5 → a ≠ b → (TX6 a).2.1 ≠ (TX6 b).2.1 := by decide +kernel
theorem tyX6_ok : ∀ k, k < 5 → parseFieldDescriptor (TX6 k).2.2.1 = some (tyX6 k) := by decide +kernel
abbrev cX6_init : ByteArray := prog_1_method_1_code
def yX6_init : MethodName := ⟨RX6, "<init>", "()V"⟩
abbrev cX6_write : ByteArray := prog_1_method_2_code
def yX6_write : MethodName := ⟨RX6, "write", "(II)I"⟩
abbrev cX6_read : ByteArray := prog_1_method_3_code
def yX6_read : MethodName := ⟨RX6, "read", "(I)I"⟩
abbrev cX6_writeDisk : ByteArray := prog_1_method_4_code
def yX6_writeDisk : MethodName := ⟨RX6, "writeDisk", "(II)I"⟩
abbrev cX6_readDisk : ByteArray := prog_1_method_5_code
def yX6_readDisk : MethodName := ⟨RX6, "readDisk", "(I)I"⟩
abbrev cX6_register : ByteArray := prog_1_method_6_code
def yX6_register : MethodName := ⟨RX6, "register", "(I)I"⟩
abbrev cX6_put : ByteArray := prog_1_method_7_code
def yX6_put : MethodName := ⟨RX6, "put", "(II)V"⟩
abbrev cX6_type : ByteArray := prog_1_method_8_code
def yX6_type : MethodName := ⟨RX6, "type", "(I)I"⟩
abbrev cX6_written : ByteArray := prog_1_method_9_code
def yX6_written : MethodName := ⟨RX6, "written", "()I"⟩
abbrev cX6_text : ByteArray := prog_1_method_10_code
def yX6_text : MethodName := ⟨RX6, "text", "(I)I"⟩
abbrev cX6_want : ByteArray := prog_1_method_11_code
def yX6_want : MethodName := ⟨RX6, "want", "(I)V"⟩
abbrev cX6_step : ByteArray := prog_1_method_12_code
def yX6_step : MethodName := ⟨RX6, "step", "(I)I"⟩
abbrev cX6_cycles : ByteArray := prog_1_method_13_code
def yX6_cycles : MethodName := ⟨RX6, "cycles", "()J"⟩
abbrev cX6_told : ByteArray := prog_1_method_14_code
def yX6_told : MethodName := ⟨RX6, "told", "(I)I"⟩
abbrev cX6_sum : ByteArray := prog_1_method_15_code
def yX6_sum : MethodName := ⟨RX6, "sum", "()I"⟩
abbrev cX6_isPlace : ByteArray := prog_1_method_16_code
def yX6_isPlace : MethodName := ⟨RX6, "isPlace", "(I)Z"⟩
abbrev cX6_isByte : ByteArray := prog_1_method_17_code
def yX6_isByte : MethodName := ⟨RX6, "isByte", "(I)Z"⟩
def RX7 : String := "DiskMachineModel"
def TX7 : u_T := fun k => match k with
  | 0 => ("DiskMachineModel", "thrown", "I", false)
  | 1 => ("DiskMachineModel", "memory", "[I", true)
  | 2 => ("DiskMachineModel", "disk", "[I", true)
  | 3 => ("DiskMachineModel", "\x72", "[I", true)
  | 4 => ("DiskMachineModel", "sign", "Z", false)
  | 5 => ("DiskMachineModel", "zero", "Z", false)
  | 6 => ("DiskMachineModel", "half", "Z", false)
  | 7 => ("DiskMachineModel", "parity", "Z", false)
  | 8 => ("DiskMachineModel", "carry", "Z", false)
  | 9 => ("DiskMachineModel", "pc", "I", false)
  | 10 => ("DiskMachineModel", "sp", "I", false)
  | 11 => ("DiskMachineModel", "halted", "Z", false)
  | 12 => ("DiskMachineModel", "on", "Z", false)
  | 13 => ("DiskMachineModel", "justOn", "Z", false)
  | 14 => ("DiskMachineModel", "wanted", "I", false)
  | 15 => ("DiskMachineModel", "cycles", "J", false)
  | 16 => ("DiskMachineModel", "spent", "I", false)
  | 17 => ("DiskMachineModel", "input", "[I", true)
  | 18 => ("DiskMachineModel", "inputs", "I", false)
  | 19 => ("DiskMachineModel", "output", "[I", true)
  | 20 => ("DiskMachineModel", "outputs", "I", false)
  | 21 => ("DiskMachineModel", "sector", "I", false)
  | 22 => ("DiskMachineModel", "address", "I", false)
  | 23 => ("DiskMachineModel", "call", "I", false)
  | 24 => ("DiskMachineModel", "state", "I", false)
  | 25 => ("DiskMachineModel", "command", "I", false)
  | 26 => ("DiskMachineModel", "from", "I", false)
  | 27 => ("DiskMachineModel", "moved", "I", false)
  | 28 => ("DiskMachineModel", "due", "I", false)
  | _ => ("DiskMachineModel", "fresh", "Z", false)
def tyX7 : Nat → FieldType := fun k => match k with
  | 0 => .int
  | 1 => .array .int
  | 2 => .array .int
  | 3 => .array .int
  | 4 => .boolean
  | 5 => .boolean
  | 6 => .boolean
  | 7 => .boolean
  | 8 => .boolean
  | 9 => .int
  | 10 => .int
  | 11 => .boolean
  | 12 => .boolean
  | 13 => .boolean
  | 14 => .int
  | 15 => .long
  | 16 => .int
  | 17 => .array .int
  | 18 => .int
  | 19 => .array .int
  | 20 => .int
  | 21 => .int
  | 22 => .int
  | 23 => .int
  | 24 => .int
  | 25 => .int
  | 26 => .int
  | 27 => .int
  | 28 => .int
  | _ => .boolean
abbrev wsX70 : List Cond := u_ws RX7 TX7 30
theorem nmX7 : ∀ a, a < 30 → ∀ b, b < 30 → a ≠ b → (TX7 a).2.1 ≠ (TX7 b).2.1 := by decide +kernel
theorem tyX7_ok : ∀ k, k < 30 → parseFieldDescriptor (TX7 k).2.2.1 = some (tyX7 k) := by decide +kernel
abbrev cX7_init : ByteArray := prog_9_method_1_code
def yX7_init : MethodName := ⟨RX7, "<init>", "()V"⟩
abbrev cX7_thrown : ByteArray := prog_9_method_2_code
def yX7_thrown : MethodName := ⟨RX7, "thrown", "()I"⟩
abbrev cX7_noByte : ByteArray := prog_9_method_3_code
def yX7_noByte : MethodName := ⟨RX7, "noByte", "(I)Z"⟩
abbrev cX7_noPlace : ByteArray := prog_9_method_4_code
def yX7_noPlace : MethodName := ⟨RX7, "noPlace", "(I)Z"⟩
abbrev cX7_write : ByteArray := prog_9_method_5_code
def yX7_write : MethodName := ⟨RX7, "write", "(II)I"⟩
abbrev cX7_read : ByteArray := prog_9_method_6_code
def yX7_read : MethodName := ⟨RX7, "read", "(I)I"⟩
abbrev cX7_writeDisk : ByteArray := prog_9_method_7_code
def yX7_writeDisk : MethodName := ⟨RX7, "writeDisk", "(II)I"⟩
abbrev cX7_readDisk : ByteArray := prog_9_method_8_code
def yX7_readDisk : MethodName := ⟨RX7, "readDisk", "(I)I"⟩
abbrev cX7_sum : ByteArray := prog_9_method_9_code
def yX7_sum : MethodName := ⟨RX7, "sum", "()I"⟩
abbrev cX7_get : ByteArray := prog_9_method_10_code
def yX7_get : MethodName := ⟨RX7, "get", "(I)I"⟩
abbrev cX7_set : ByteArray := prog_9_method_11_code
def yX7_set : MethodName := ⟨RX7, "set", "(II)V"⟩
abbrev cX7_getWord : ByteArray := prog_9_method_12_code
def yX7_getWord : MethodName := ⟨RX7, "getWord", "(I)I"⟩
abbrev cX7_setWord : ByteArray := prog_9_method_13_code
def yX7_setWord : MethodName := ⟨RX7, "setWord", "(II)V"⟩
abbrev cX7_next : ByteArray := prog_9_method_14_code
def yX7_next : MethodName := ⟨RX7, "next", "()I"⟩
abbrev cX7_nextWord : ByteArray := prog_9_method_15_code
def yX7_nextWord : MethodName := ⟨RX7, "nextWord", "()I"⟩
abbrev cX7_push : ByteArray := prog_9_method_16_code
def yX7_push : MethodName := ⟨RX7, "push", "(I)V"⟩
abbrev cX7_pop : ByteArray := prog_9_method_17_code
def yX7_pop : MethodName := ⟨RX7, "pop", "()I"⟩
abbrev cX7_hl : ByteArray := prog_9_method_18_code
def yX7_hl : MethodName := ⟨RX7, "hl", "()I"⟩
abbrev cX7_pair : ByteArray := prog_9_method_19_code
def yX7_pair : MethodName := ⟨RX7, "pair", "(I)I"⟩
abbrev cX7_setPair : ByteArray := prog_9_method_20_code
def yX7_setPair : MethodName := ⟨RX7, "setPair", "(II)V"⟩
abbrev cX7_reg : ByteArray := prog_9_method_21_code
def yX7_reg : MethodName := ⟨RX7, "reg", "(I)I"⟩
abbrev cX7_setReg : ByteArray := prog_9_method_22_code
def yX7_setReg : MethodName := ⟨RX7, "setReg", "(II)V"⟩
abbrev cX7_flags : ByteArray := prog_9_method_23_code
def yX7_flags : MethodName := ⟨RX7, "flags", "()I"⟩
abbrev cX7_setFlags : ByteArray := prog_9_method_24_code
def yX7_setFlags : MethodName := ⟨RX7, "setFlags", "(I)V"⟩
abbrev cX7_register : ByteArray := prog_9_method_25_code
def yX7_register : MethodName := ⟨RX7, "register", "(I)I"⟩
abbrev cX7_put : ByteArray := prog_9_method_26_code
def yX7_put : MethodName := ⟨RX7, "put", "(II)V"⟩
abbrev cX7_logic : ByteArray := prog_9_method_27_code
def yX7_logic : MethodName := ⟨RX7, "logic", "(I)V"⟩
abbrev cX7_holds : ByteArray := prog_9_method_28_code
def yX7_holds : MethodName := ⟨RX7, "holds", "(I)Z"⟩
abbrev cX7_sum_ : ByteArray := prog_9_method_29_code
def yX7_sum_ : MethodName := ⟨RX7, "sum", "(II)V"⟩
abbrev cX7_less : ByteArray := prog_9_method_30_code
def yX7_less : MethodName := ⟨RX7, "less", "(II)I"⟩
abbrev cX7_reckon : ByteArray := prog_9_method_31_code
def yX7_reckon : MethodName := ⟨RX7, "reckon", "(II)V"⟩
abbrev cX7_adjust : ByteArray := prog_9_method_32_code
def yX7_adjust : MethodName := ⟨RX7, "adjust", "()V"⟩
abbrev cX7_turn : ByteArray := prog_9_method_33_code
def yX7_turn : MethodName := ⟨RX7, "turn", "(I)V"⟩
abbrev cX7_in : ByteArray := prog_9_method_34_code
def yX7_in : MethodName := ⟨RX7, "in", "(I)I"⟩
abbrev cX7_out : ByteArray := prog_9_method_35_code
def yX7_out : MethodName := ⟨RX7, "out", "(II)V"⟩
abbrev cX7_moveOne : ByteArray := prog_9_method_36_code
def yX7_moveOne : MethodName := ⟨RX7, "moveOne", "()V"⟩
abbrev cX7_pass : ByteArray := prog_9_method_37_code
def yX7_pass : MethodName := ⟨RX7, "pass", "()V"⟩
abbrev cX7_zero : ByteArray := prog_9_method_38_code
def yX7_zero : MethodName := ⟨RX7, "zero", "(II)V"⟩
abbrev cX7_byAddress : ByteArray := prog_9_method_39_code
def yX7_byAddress : MethodName := ⟨RX7, "byAddress", "(I)V"⟩
abbrev cX7_jumpTo : ByteArray := prog_9_method_40_code
def yX7_jumpTo : MethodName := ⟨RX7, "jumpTo", "(ZZI)V"⟩
abbrev cX7_three : ByteArray := prog_9_method_41_code
def yX7_three : MethodName := ⟨RX7, "three", "(II)V"⟩
abbrev cX7_single : ByteArray := prog_9_method_42_code
def yX7_single : MethodName := ⟨RX7, "single", "(I)V"⟩
abbrev cX7_special : ByteArray := prog_9_method_43_code
def yX7_special : MethodName := ⟨RX7, "special", "(I)V"⟩
abbrev cX7_instruction : ByteArray := prog_9_method_44_code
def yX7_instruction : MethodName := ⟨RX7, "instruction", "()V"⟩
abbrev cX7_step : ByteArray := prog_9_method_45_code
def yX7_step : MethodName := ⟨RX7, "step", "(I)I"⟩
abbrev cX7_type : ByteArray := prog_9_method_46_code
def yX7_type : MethodName := ⟨RX7, "type", "(I)I"⟩
abbrev cX7_written : ByteArray := prog_9_method_47_code
def yX7_written : MethodName := ⟨RX7, "written", "()I"⟩
abbrev cX7_text : ByteArray := prog_9_method_48_code
def yX7_text : MethodName := ⟨RX7, "text", "(I)I"⟩
abbrev cX7_want : ByteArray := prog_9_method_49_code
def yX7_want : MethodName := ⟨RX7, "want", "(I)V"⟩
abbrev cX7_cycles : ByteArray := prog_9_method_50_code
def yX7_cycles : MethodName := ⟨RX7, "cycles", "()J"⟩
abbrev cX7_told : ByteArray := prog_9_method_51_code
def yX7_told : MethodName := ⟨RX7, "told", "(I)I"⟩
def RJ6 : String := "java/lang/Integer"
def TJ6 : u_T := fun k => match k with
  | _ => ("", "", "", false)
def tyJ6 : Nat → FieldType := fun k => match k with
  | _ => .int
abbrev wsJ60 : List Cond := u_ws RJ6 TJ6 0
theorem nmJ6 : ∀ a, a < 0 → ∀ b, b < 0 → a ≠ b → (TJ6 a).2.1 ≠ (TJ6 b).2.1 := by decide +kernel
theorem tyJ6_ok : ∀ k, k < 0 → parseFieldDescriptor (TJ6 k).2.2.1 = some (tyJ6 k) := by decide +kernel
abbrev cJ6_bitCount_0f7a4 : ByteArray := prog_13_method_49_code
def yJ6_bitCount_0f7a4 : MethodName := ⟨RJ6, "bitCount", "(I)I"⟩
def RL : String := "DiskMachineLaw"
abbrev cL_write : ByteArray := method_3_code
def yL_write : MethodName := ⟨RL, "write", "(LDiskMachine;II[J)I"⟩
abbrev cL_read : ByteArray := method_4_code
def yL_read : MethodName := ⟨RL, "read", "(LDiskMachine;I[J)I"⟩
abbrev cL_writeDisk : ByteArray := method_5_code
def yL_writeDisk : MethodName := ⟨RL, "writeDisk", "(LDiskMachine;II[J)I"⟩
abbrev cL_readDisk : ByteArray := method_6_code
def yL_readDisk : MethodName := ⟨RL, "readDisk", "(LDiskMachine;I[J)I"⟩
abbrev cL_register : ByteArray := method_7_code
def yL_register : MethodName := ⟨RL, "register", "(LDiskMachine;I[J)I"⟩
abbrev cL_put : ByteArray := method_8_code
def yL_put : MethodName := ⟨RL, "put", "(LDiskMachine;II)I"⟩
abbrev cL_type : ByteArray := method_9_code
def yL_type : MethodName := ⟨RL, "type", "(LDiskMachine;I[J)I"⟩
abbrev cL_text : ByteArray := method_10_code
def yL_text : MethodName := ⟨RL, "text", "(LDiskMachine;I[J)I"⟩
abbrev cL_want : ByteArray := method_11_code
def yL_want : MethodName := ⟨RL, "want", "(LDiskMachine;I)I"⟩
abbrev cL_step : ByteArray := method_12_code
def yL_step : MethodName := ⟨RL, "step", "(LDiskMachine;I[J)I"⟩
abbrev cL_told : ByteArray := method_13_code
def yL_told : MethodName := ⟨RL, "told", "(LDiskMachine;I[J)I"⟩
abbrev cL_law : ByteArray := code
def yL_law : MethodName := ⟨RL, "law", "([I)Z"⟩
def wsX0_init : List Cond := .code yX0_init cX0_init 2 none :: ([.methodLink RX0 3 objectInit, .instanceMethod objectInit, .code objectInit ⟨#[0xb1]⟩ 1 none, .fieldLink RX0 9 "DiskMachine$Arithmetic" "flags" "LDiskMachine$Flags;"] ++ wsX00)
def wsX3_setCarry : List Cond := .code yX3_setCarry cX3_setCarry 2 none :: ([.fieldLink RX3 22 "DiskMachine$Flags" "carry" "Z"] ++ wsX30)
def wsX3_setHalf : List Cond := .code yX3_setHalf cX3_setHalf 2 none :: ([.fieldLink RX3 16 "DiskMachine$Flags" "half" "Z"] ++ wsX30)
def wsJ6_bitCount_0f7a4 : List Cond := .code yJ6_bitCount_0f7a4 cJ6_bitCount_0f7a4 1 (some .int) :: ([.constant RJ6 265 (1431655765), .constant RJ6 266 (858993459), .constant RJ6 267 (252645135)])
def wsX3_setLogic : List Cond := .code yX3_setLogic cX3_setLogic 2 none :: ([.fieldLink RX3 7 "DiskMachine$Flags" "sign" "Z", .fieldLink RX3 13 "DiskMachine$Flags" "zero" "Z", .fieldLink RX3 19 "DiskMachine$Flags" "parity" "Z", .methodLink RX3 25 yJ6_bitCount_0f7a4, .static yJ6_bitCount_0f7a4, .initialized RJ6, .code yJ6_bitCount_0f7a4 cJ6_bitCount_0f7a4 1 (some .int), .constant RJ6 265 (1431655765), .constant RJ6 266 (858993459), .constant RJ6 267 (252645135)] ++ wsX30)
def wsX0_added_r1 : List Cond := [Cond.fieldLink RX0 9 "DiskMachine$Arithmetic" "flags" "LDiskMachine$Flags;", Cond.methodLink RX0 32 yX3_setCarry, Cond.instanceMethod yX3_setCarry, Cond.selects RX3 yX3_setCarry yX3_setCarry, Cond.initialized RX3, Cond.code yX3_setCarry cX3_setCarry 2 none, Cond.fieldLink RX3 22 "DiskMachine$Flags" "carry" "Z", Cond.methodLink RX0 36 yX3_setHalf, Cond.instanceMethod yX3_setHalf, Cond.selects RX3 yX3_setHalf yX3_setHalf, Cond.code yX3_setHalf cX3_setHalf 2 none, Cond.fieldLink RX3 16 "DiskMachine$Flags" "half" "Z", Cond.methodLink RX0 39 yX3_setLogic, Cond.instanceMethod yX3_setLogic, Cond.selects RX3 yX3_setLogic yX3_setLogic, Cond.code yX3_setLogic cX3_setLogic 2 none, Cond.fieldLink RX3 7 "DiskMachine$Flags" "sign" "Z", Cond.fieldLink RX3 13 "DiskMachine$Flags" "zero" "Z", Cond.fieldLink RX3 19 "DiskMachine$Flags" "parity" "Z", Cond.methodLink RX3 25 yJ6_bitCount_0f7a4, Cond.static yJ6_bitCount_0f7a4, Cond.initialized RJ6, Cond.code yJ6_bitCount_0f7a4 cJ6_bitCount_0f7a4 1 (some .int), Cond.constant RJ6 265 (1431655765)]
def wsX0_added_r2 : List Cond := [Cond.constant RJ6 266 (858993459), Cond.constant RJ6 267 (252645135)]
def wsX0_added : List Cond := .code yX0_added cX0_added 5 (some .int) :: ((wsX0_added_r1 ++ wsX0_added_r2) ++ wsX00 ++ wsX30)
def wsX3_carryBit : List Cond := .code yX3_carryBit cX3_carryBit 1 (some .int) :: ([.fieldLink RX3 22 "DiskMachine$Flags" "carry" "Z"] ++ wsX30)
def wsX0_subtracted_r1 : List Cond := [Cond.fieldLink RX0 9 "DiskMachine$Arithmetic" "flags" "LDiskMachine$Flags;", Cond.methodLink RX0 32 yX3_setCarry, Cond.instanceMethod yX3_setCarry, Cond.selects RX3 yX3_setCarry yX3_setCarry, Cond.initialized RX3, Cond.code yX3_setCarry cX3_setCarry 2 none, Cond.fieldLink RX3 22 "DiskMachine$Flags" "carry" "Z", Cond.methodLink RX0 36 yX3_setHalf, Cond.instanceMethod yX3_setHalf, Cond.selects RX3 yX3_setHalf yX3_setHalf, Cond.code yX3_setHalf cX3_setHalf 2 none, Cond.fieldLink RX3 16 "DiskMachine$Flags" "half" "Z", Cond.methodLink RX0 39 yX3_setLogic, Cond.instanceMethod yX3_setLogic, Cond.selects RX3 yX3_setLogic yX3_setLogic, Cond.code yX3_setLogic cX3_setLogic 2 none, Cond.fieldLink RX3 7 "DiskMachine$Flags" "sign" "Z", Cond.fieldLink RX3 13 "DiskMachine$Flags" "zero" "Z", Cond.fieldLink RX3 19 "DiskMachine$Flags" "parity" "Z", Cond.methodLink RX3 25 yJ6_bitCount_0f7a4, Cond.static yJ6_bitCount_0f7a4, Cond.initialized RJ6, Cond.code yJ6_bitCount_0f7a4 cJ6_bitCount_0f7a4 1 (some .int), Cond.constant RJ6 265 (1431655765)]
def wsX0_subtracted_r2 : List Cond := [Cond.constant RJ6 266 (858993459), Cond.constant RJ6 267 (252645135)]
def wsX0_subtracted : List Cond := .code yX0_subtracted cX0_subtracted 5 (some .int) :: ((wsX0_subtracted_r1 ++ wsX0_subtracted_r2) ++ wsX00 ++ wsX30)
def wsX0_bitwise_r1 : List Cond := [Cond.fieldLink RX0 9 "DiskMachine$Arithmetic" "flags" "LDiskMachine$Flags;", Cond.methodLink RX0 32 yX3_setCarry, Cond.instanceMethod yX3_setCarry, Cond.selects RX3 yX3_setCarry yX3_setCarry, Cond.initialized RX3, Cond.code yX3_setCarry cX3_setCarry 2 none, Cond.fieldLink RX3 22 "DiskMachine$Flags" "carry" "Z", Cond.methodLink RX0 36 yX3_setHalf, Cond.instanceMethod yX3_setHalf, Cond.selects RX3 yX3_setHalf yX3_setHalf, Cond.code yX3_setHalf cX3_setHalf 2 none, Cond.fieldLink RX3 16 "DiskMachine$Flags" "half" "Z", Cond.methodLink RX0 39 yX3_setLogic, Cond.instanceMethod yX3_setLogic, Cond.selects RX3 yX3_setLogic yX3_setLogic, Cond.code yX3_setLogic cX3_setLogic 2 none, Cond.fieldLink RX3 7 "DiskMachine$Flags" "sign" "Z", Cond.fieldLink RX3 13 "DiskMachine$Flags" "zero" "Z", Cond.fieldLink RX3 19 "DiskMachine$Flags" "parity" "Z", Cond.methodLink RX3 25 yJ6_bitCount_0f7a4, Cond.static yJ6_bitCount_0f7a4, Cond.initialized RJ6, Cond.code yJ6_bitCount_0f7a4 cJ6_bitCount_0f7a4 1 (some .int), Cond.constant RJ6 265 (1431655765)]
def wsX0_bitwise_r2 : List Cond := [Cond.constant RJ6 266 (858993459), Cond.constant RJ6 267 (252645135)]
def wsX0_bitwise : List Cond := .code yX0_bitwise cX0_bitwise 3 (some .int) :: ((wsX0_bitwise_r1 ++ wsX0_bitwise_r2) ++ wsX00 ++ wsX30)
def wsX0_combine_r1 : List Cond := [Cond.fieldLink RX0 9 "DiskMachine$Arithmetic" "flags" "LDiskMachine$Flags;", Cond.methodLink RX0 15 yX0_added, Cond.instanceMethod yX0_added, Cond.selects RX0 yX0_added yX0_added, Cond.initialized RX0, Cond.code yX0_added cX0_added 5 (some .int), Cond.methodLink RX0 32 yX3_setCarry, Cond.instanceMethod yX3_setCarry, Cond.selects RX3 yX3_setCarry yX3_setCarry, Cond.initialized RX3, Cond.code yX3_setCarry cX3_setCarry 2 none, Cond.fieldLink RX3 22 "DiskMachine$Flags" "carry" "Z", Cond.methodLink RX0 36 yX3_setHalf, Cond.instanceMethod yX3_setHalf, Cond.selects RX3 yX3_setHalf yX3_setHalf, Cond.code yX3_setHalf cX3_setHalf 2 none, Cond.fieldLink RX3 16 "DiskMachine$Flags" "half" "Z", Cond.methodLink RX0 39 yX3_setLogic, Cond.instanceMethod yX3_setLogic, Cond.selects RX3 yX3_setLogic yX3_setLogic, Cond.code yX3_setLogic cX3_setLogic 2 none, Cond.fieldLink RX3 7 "DiskMachine$Flags" "sign" "Z", Cond.fieldLink RX3 13 "DiskMachine$Flags" "zero" "Z", Cond.fieldLink RX3 19 "DiskMachine$Flags" "parity" "Z"]
def wsX0_combine_r2 : List Cond := [Cond.methodLink RX3 25 yJ6_bitCount_0f7a4, Cond.static yJ6_bitCount_0f7a4, Cond.initialized RJ6, Cond.code yJ6_bitCount_0f7a4 cJ6_bitCount_0f7a4 1 (some .int), Cond.constant RJ6 265 (1431655765), Cond.constant RJ6 266 (858993459), Cond.constant RJ6 267 (252645135), Cond.methodLink RX0 19 yX3_carryBit, Cond.instanceMethod yX3_carryBit, Cond.selects RX3 yX3_carryBit yX3_carryBit, Cond.code yX3_carryBit cX3_carryBit 1 (some .int), Cond.methodLink RX0 25 yX0_subtracted, Cond.instanceMethod yX0_subtracted, Cond.selects RX0 yX0_subtracted yX0_subtracted, Cond.code yX0_subtracted cX0_subtracted 5 (some .int), Cond.methodLink RX0 28 yX0_bitwise, Cond.instanceMethod yX0_bitwise, Cond.selects RX0 yX0_bitwise yX0_bitwise, Cond.code yX0_bitwise cX0_bitwise 3 (some .int)]
def wsX0_combine : List Cond := .code yX0_combine cX0_combine 4 (some .int) :: ((wsX0_combine_r1 ++ wsX0_combine_r2) ++ wsX00 ++ wsX30)
def wsX0_oneMore : List Cond := .code yX0_oneMore cX0_oneMore 3 (some .int) :: ([.fieldLink RX0 9 "DiskMachine$Arithmetic" "flags" "LDiskMachine$Flags;", .methodLink RX0 36 yX3_setHalf, .instanceMethod yX3_setHalf, .selects RX3 yX3_setHalf yX3_setHalf, .initialized RX3, .code yX3_setHalf cX3_setHalf 2 none, .fieldLink RX3 16 "DiskMachine$Flags" "half" "Z", .methodLink RX0 39 yX3_setLogic, .instanceMethod yX3_setLogic, .selects RX3 yX3_setLogic yX3_setLogic, .code yX3_setLogic cX3_setLogic 2 none, .fieldLink RX3 7 "DiskMachine$Flags" "sign" "Z", .fieldLink RX3 13 "DiskMachine$Flags" "zero" "Z", .fieldLink RX3 19 "DiskMachine$Flags" "parity" "Z", .methodLink RX3 25 yJ6_bitCount_0f7a4, .static yJ6_bitCount_0f7a4, .initialized RJ6, .code yJ6_bitCount_0f7a4 cJ6_bitCount_0f7a4 1 (some .int), .constant RJ6 265 (1431655765), .constant RJ6 266 (858993459), .constant RJ6 267 (252645135)] ++ wsX00 ++ wsX30)
def wsX0_oneLess : List Cond := .code yX0_oneLess cX0_oneLess 3 (some .int) :: ([.fieldLink RX0 9 "DiskMachine$Arithmetic" "flags" "LDiskMachine$Flags;", .methodLink RX0 36 yX3_setHalf, .instanceMethod yX3_setHalf, .selects RX3 yX3_setHalf yX3_setHalf, .initialized RX3, .code yX3_setHalf cX3_setHalf 2 none, .fieldLink RX3 16 "DiskMachine$Flags" "half" "Z", .methodLink RX0 39 yX3_setLogic, .instanceMethod yX3_setLogic, .selects RX3 yX3_setLogic yX3_setLogic, .code yX3_setLogic cX3_setLogic 2 none, .fieldLink RX3 7 "DiskMachine$Flags" "sign" "Z", .fieldLink RX3 13 "DiskMachine$Flags" "zero" "Z", .fieldLink RX3 19 "DiskMachine$Flags" "parity" "Z", .methodLink RX3 25 yJ6_bitCount_0f7a4, .static yJ6_bitCount_0f7a4, .initialized RJ6, .code yJ6_bitCount_0f7a4 cJ6_bitCount_0f7a4 1 (some .int), .constant RJ6 265 (1431655765), .constant RJ6 266 (858993459), .constant RJ6 267 (252645135)] ++ wsX00 ++ wsX30)
def wsX0_turnLeft : List Cond := .code yX0_turnLeft cX0_turnLeft 3 (some .int) :: ([.fieldLink RX0 9 "DiskMachine$Arithmetic" "flags" "LDiskMachine$Flags;", .methodLink RX0 32 yX3_setCarry, .instanceMethod yX3_setCarry, .selects RX3 yX3_setCarry yX3_setCarry, .initialized RX3, .code yX3_setCarry cX3_setCarry 2 none, .fieldLink RX3 22 "DiskMachine$Flags" "carry" "Z"] ++ wsX00 ++ wsX30)
def wsX0_turnRight : List Cond := .code yX0_turnRight cX0_turnRight 3 (some .int) :: ([.fieldLink RX0 9 "DiskMachine$Arithmetic" "flags" "LDiskMachine$Flags;", .methodLink RX0 32 yX3_setCarry, .instanceMethod yX3_setCarry, .selects RX3 yX3_setCarry yX3_setCarry, .initialized RX3, .code yX3_setCarry cX3_setCarry 2 none, .fieldLink RX3 22 "DiskMachine$Flags" "carry" "Z"] ++ wsX00 ++ wsX30)
def wsX3_hasHalf : List Cond := .code yX3_hasHalf cX3_hasHalf 1 (some .boolean) :: ([.fieldLink RX3 16 "DiskMachine$Flags" "half" "Z"] ++ wsX30)
def wsX3_hasCarry : List Cond := .code yX3_hasCarry cX3_hasCarry 1 (some .boolean) :: ([.fieldLink RX3 22 "DiskMachine$Flags" "carry" "Z"] ++ wsX30)
def wsX0_toDecimal_r1 : List Cond := [Cond.fieldLink RX0 9 "DiskMachine$Arithmetic" "flags" "LDiskMachine$Flags;", Cond.methodLink RX0 58 yX3_hasHalf, Cond.instanceMethod yX3_hasHalf, Cond.selects RX3 yX3_hasHalf yX3_hasHalf, Cond.initialized RX3, Cond.code yX3_hasHalf cX3_hasHalf 1 (some .boolean), Cond.fieldLink RX3 16 "DiskMachine$Flags" "half" "Z", Cond.methodLink RX0 54 yX3_hasCarry, Cond.instanceMethod yX3_hasCarry, Cond.selects RX3 yX3_hasCarry yX3_hasCarry, Cond.code yX3_hasCarry cX3_hasCarry 1 (some .boolean), Cond.fieldLink RX3 22 "DiskMachine$Flags" "carry" "Z", Cond.methodLink RX0 36 yX3_setHalf, Cond.instanceMethod yX3_setHalf, Cond.selects RX3 yX3_setHalf yX3_setHalf, Cond.code yX3_setHalf cX3_setHalf 2 none, Cond.methodLink RX0 32 yX3_setCarry, Cond.instanceMethod yX3_setCarry, Cond.selects RX3 yX3_setCarry yX3_setCarry, Cond.code yX3_setCarry cX3_setCarry 2 none, Cond.methodLink RX0 39 yX3_setLogic, Cond.instanceMethod yX3_setLogic, Cond.selects RX3 yX3_setLogic yX3_setLogic, Cond.code yX3_setLogic cX3_setLogic 2 none]
def wsX0_toDecimal_r2 : List Cond := [Cond.fieldLink RX3 7 "DiskMachine$Flags" "sign" "Z", Cond.fieldLink RX3 13 "DiskMachine$Flags" "zero" "Z", Cond.fieldLink RX3 19 "DiskMachine$Flags" "parity" "Z", Cond.methodLink RX3 25 yJ6_bitCount_0f7a4, Cond.static yJ6_bitCount_0f7a4, Cond.initialized RJ6, Cond.code yJ6_bitCount_0f7a4 cJ6_bitCount_0f7a4 1 (some .int), Cond.constant RJ6 265 (1431655765), Cond.constant RJ6 266 (858993459), Cond.constant RJ6 267 (252645135)]
def wsX0_toDecimal : List Cond := .code yX0_toDecimal cX0_toDecimal 7 (some .int) :: ((wsX0_toDecimal_r1 ++ wsX0_toDecimal_r2) ++ wsX00 ++ wsX30)
def wsX0_adjust_r1 : List Cond := [Cond.fieldLink RX0 9 "DiskMachine$Arithmetic" "flags" "LDiskMachine$Flags;", Cond.methodLink RX0 43 yX0_turnLeft, Cond.instanceMethod yX0_turnLeft, Cond.selects RX0 yX0_turnLeft yX0_turnLeft, Cond.initialized RX0, Cond.code yX0_turnLeft cX0_turnLeft 3 (some .int), Cond.methodLink RX0 32 yX3_setCarry, Cond.instanceMethod yX3_setCarry, Cond.selects RX3 yX3_setCarry yX3_setCarry, Cond.initialized RX3, Cond.code yX3_setCarry cX3_setCarry 2 none, Cond.fieldLink RX3 22 "DiskMachine$Flags" "carry" "Z", Cond.methodLink RX0 47 yX0_turnRight, Cond.instanceMethod yX0_turnRight, Cond.selects RX0 yX0_turnRight yX0_turnRight, Cond.code yX0_turnRight cX0_turnRight 3 (some .int), Cond.methodLink RX0 19 yX3_carryBit, Cond.instanceMethod yX3_carryBit, Cond.selects RX3 yX3_carryBit yX3_carryBit, Cond.code yX3_carryBit cX3_carryBit 1 (some .int), Cond.methodLink RX0 50 yX0_toDecimal, Cond.instanceMethod yX0_toDecimal, Cond.selects RX0 yX0_toDecimal yX0_toDecimal, Cond.code yX0_toDecimal cX0_toDecimal 7 (some .int)]
def wsX0_adjust_r2 : List Cond := [Cond.methodLink RX0 58 yX3_hasHalf, Cond.instanceMethod yX3_hasHalf, Cond.selects RX3 yX3_hasHalf yX3_hasHalf, Cond.code yX3_hasHalf cX3_hasHalf 1 (some .boolean), Cond.fieldLink RX3 16 "DiskMachine$Flags" "half" "Z", Cond.methodLink RX0 54 yX3_hasCarry, Cond.instanceMethod yX3_hasCarry, Cond.selects RX3 yX3_hasCarry yX3_hasCarry, Cond.code yX3_hasCarry cX3_hasCarry 1 (some .boolean), Cond.methodLink RX0 36 yX3_setHalf, Cond.instanceMethod yX3_setHalf, Cond.selects RX3 yX3_setHalf yX3_setHalf, Cond.code yX3_setHalf cX3_setHalf 2 none, Cond.methodLink RX0 39 yX3_setLogic, Cond.instanceMethod yX3_setLogic, Cond.selects RX3 yX3_setLogic yX3_setLogic, Cond.code yX3_setLogic cX3_setLogic 2 none, Cond.fieldLink RX3 7 "DiskMachine$Flags" "sign" "Z", Cond.fieldLink RX3 13 "DiskMachine$Flags" "zero" "Z", Cond.fieldLink RX3 19 "DiskMachine$Flags" "parity" "Z", Cond.methodLink RX3 25 yJ6_bitCount_0f7a4, Cond.static yJ6_bitCount_0f7a4, Cond.initialized RJ6, Cond.code yJ6_bitCount_0f7a4 cJ6_bitCount_0f7a4 1 (some .int)]
def wsX0_adjust_r3 : List Cond := [Cond.constant RJ6 265 (1431655765), Cond.constant RJ6 266 (858993459), Cond.constant RJ6 267 (252645135)]
def wsX0_adjust : List Cond := .code yX0_adjust cX0_adjust 3 (some .int) :: ((wsX0_adjust_r1 ++ (wsX0_adjust_r2 ++ wsX0_adjust_r3)) ++ wsX00 ++ wsX30)
def wsX1_init : List Cond := .code yX1_init cX1_init 1 none :: ([.methodLink RX1 5 objectInit, .instanceMethod objectInit, .code objectInit ⟨#[0xb1]⟩ 1 none, .arrayClass .int, .fieldLink RX1 11 "DiskMachine$Console" "input" "[I", .fieldLink RX1 15 "DiskMachine$Console" "output" "[I"] ++ wsX10)
def wsX1_takeKey : List Cond := .code yX1_takeKey cX1_takeKey 2 (some .int) :: ([.fieldLink RX1 18 "DiskMachine$Console" "inputCount" "I", .fieldLink RX1 11 "DiskMachine$Console" "input" "[I", .fieldLink RX1 22 "DiskMachine$Console" "firstInput" "I"] ++ wsX10)
def wsX1_hasInput : List Cond := .code yX1_hasInput cX1_hasInput 1 (some .boolean) :: ([.fieldLink RX1 18 "DiskMachine$Console" "inputCount" "I"] ++ wsX10)
def wsX1_nextInput : List Cond := .code yX1_nextInput cX1_nextInput 2 (some .int) :: ([.fieldLink RX1 18 "DiskMachine$Console" "inputCount" "I", .fieldLink RX1 11 "DiskMachine$Console" "input" "[I", .fieldLink RX1 22 "DiskMachine$Console" "firstInput" "I"] ++ wsX10)
def wsX1_append : List Cond := .code yX1_append cX1_append 2 none :: ([.fieldLink RX1 15 "DiskMachine$Console" "output" "[I", .fieldLink RX1 25 "DiskMachine$Console" "outputCount" "I"] ++ wsX10)
def wsX1_writtenCount : List Cond := .code yX1_writtenCount cX1_writtenCount 1 (some .int) :: ([.fieldLink RX1 25 "DiskMachine$Console" "outputCount" "I"] ++ wsX10)
def wsX1_keeps : List Cond := .code yX1_keeps cX1_keeps 2 (some .boolean) :: ([.fieldLink RX1 25 "DiskMachine$Console" "outputCount" "I"] ++ wsX10)
def wsX1_writtenByte : List Cond := .code yX1_writtenByte cX1_writtenByte 2 (some .int) :: ([.fieldLink RX1 15 "DiskMachine$Console" "output" "[I"] ++ wsX10)
def wsX2_init : List Cond := .code yX2_init cX2_init 3 none :: ([.methodLink RX2 3 objectInit, .instanceMethod objectInit, .code objectInit ⟨#[0xb1]⟩ 1 none, .fieldLink RX2 9 "DiskMachine$Controller" "memory" "LDiskMachine$Store;", .fieldLink RX2 15 "DiskMachine$Controller" "disk" "LDiskMachine$Store;"] ++ wsX20)
def wsX2_setSector : List Cond := .code yX2_setSector cX2_setSector 2 none :: ([.fieldLink RX2 18 "DiskMachine$Controller" "sector" "I"] ++ wsX20)
def wsX2_setLowAddress : List Cond := .code yX2_setLowAddress cX2_setLowAddress 2 none :: ([.fieldLink RX2 22 "DiskMachine$Controller" "address" "I", .constant RX2 25 (65280)] ++ wsX20)
def wsX2_setHighAddress : List Cond := .code yX2_setHighAddress cX2_setHighAddress 2 none :: ([.fieldLink RX2 22 "DiskMachine$Controller" "address" "I"] ++ wsX20)
def wsX2_setCall : List Cond := .code yX2_setCall cX2_setCall 2 none :: ([.fieldLink RX2 26 "DiskMachine$Controller" "call" "I"] ++ wsX20)
def wsX2_isBusy : List Cond := .code yX2_isBusy cX2_isBusy 1 (some .boolean) :: ([.fieldLink RX2 33 "DiskMachine$Controller" "state" "I"] ++ wsX20)
def wsX2_command : List Cond := .code yX2_command cX2_command 3 none :: ([.fieldLink RX2 18 "DiskMachine$Controller" "sector" "I", .fieldLink RX2 33 "DiskMachine$Controller" "state" "I", .fieldLink RX2 36 "DiskMachine$Controller" "diskStart" "I", .fieldLink RX2 39 "DiskMachine$Controller" "toDisk" "Z", .fieldLink RX2 43 "DiskMachine$Controller" "moved" "I", .fieldLink RX2 46 "DiskMachine$Controller" "cyclesLeftOver" "I", .fieldLink RX2 49 "DiskMachine$Controller" "commandJustCame" "Z", .methodLink RX2 29 yX2_isBusy, .instanceMethod yX2_isBusy, .selects RX2 yX2_isBusy yX2_isBusy, .initialized RX2, .code yX2_isBusy cX2_isBusy 1 (some .boolean)] ++ wsX20)
def wsX2_takeState : List Cond := .code yX2_takeState cX2_takeState 2 (some .int) :: ([.fieldLink RX2 33 "DiskMachine$Controller" "state" "I"] ++ wsX20)
def wsX5_byteAt : List Cond := .code yX5_byteAt cX5_byteAt 2 (some .int) :: ([.fieldLink RX5 11 "DiskMachine$Store" "bytes" "[I"] ++ wsX50)
def wsX5_setByte : List Cond := .code yX5_setByte cX5_setByte 3 none :: ([.fieldLink RX5 11 "DiskMachine$Store" "bytes" "[I"] ++ wsX50)
def wsX2_moveByte : List Cond := .code yX2_moveByte cX2_moveByte 2 none :: ([.fieldLink RX2 36 "DiskMachine$Controller" "diskStart" "I", .fieldLink RX2 43 "DiskMachine$Controller" "moved" "I", .fieldLink RX2 39 "DiskMachine$Controller" "toDisk" "Z", .fieldLink RX2 15 "DiskMachine$Controller" "disk" "LDiskMachine$Store;", .fieldLink RX2 9 "DiskMachine$Controller" "memory" "LDiskMachine$Store;", .fieldLink RX2 22 "DiskMachine$Controller" "address" "I", .constant RX2 69 (65535), .methodLink RX2 59 yX5_byteAt, .instanceMethod yX5_byteAt, .selects RX5 yX5_byteAt yX5_byteAt, .initialized RX5, .code yX5_byteAt cX5_byteAt 2 (some .int), .fieldLink RX5 11 "DiskMachine$Store" "bytes" "[I", .methodLink RX2 65 yX5_setByte, .instanceMethod yX5_setByte, .selects RX5 yX5_setByte yX5_setByte, .code yX5_setByte cX5_setByte 3 none] ++ wsX20 ++ wsX50)
def wsX2_finish : List Cond := .code yX2_finish cX2_finish 1 (some .int) :: ([.fieldLink RX2 33 "DiskMachine$Controller" "state" "I", .fieldLink RX2 26 "DiskMachine$Controller" "call" "I"] ++ wsX20)
def wsX2_letPass_r1 : List Cond := [Cond.fieldLink RX2 49 "DiskMachine$Controller" "commandJustCame" "Z", Cond.fieldLink RX2 46 "DiskMachine$Controller" "cyclesLeftOver" "I", Cond.fieldLink RX2 43 "DiskMachine$Controller" "moved" "I", Cond.methodLink RX2 29 yX2_isBusy, Cond.instanceMethod yX2_isBusy, Cond.selects RX2 yX2_isBusy yX2_isBusy, Cond.initialized RX2, Cond.code yX2_isBusy cX2_isBusy 1 (some .boolean), Cond.fieldLink RX2 33 "DiskMachine$Controller" "state" "I", Cond.methodLink RX2 52 yX2_moveByte, Cond.instanceMethod yX2_moveByte, Cond.selects RX2 yX2_moveByte yX2_moveByte, Cond.code yX2_moveByte cX2_moveByte 2 none, Cond.fieldLink RX2 36 "DiskMachine$Controller" "diskStart" "I", Cond.fieldLink RX2 39 "DiskMachine$Controller" "toDisk" "Z", Cond.fieldLink RX2 15 "DiskMachine$Controller" "disk" "LDiskMachine$Store;", Cond.fieldLink RX2 9 "DiskMachine$Controller" "memory" "LDiskMachine$Store;", Cond.fieldLink RX2 22 "DiskMachine$Controller" "address" "I", Cond.constant RX2 69 (65535), Cond.methodLink RX2 59 yX5_byteAt, Cond.instanceMethod yX5_byteAt, Cond.selects RX5 yX5_byteAt yX5_byteAt, Cond.initialized RX5, Cond.code yX5_byteAt cX5_byteAt 2 (some .int)]
def wsX2_letPass_r2 : List Cond := [Cond.fieldLink RX5 11 "DiskMachine$Store" "bytes" "[I", Cond.methodLink RX2 65 yX5_setByte, Cond.instanceMethod yX5_setByte, Cond.selects RX5 yX5_setByte yX5_setByte, Cond.code yX5_setByte cX5_setByte 3 none, Cond.methodLink RX2 55 yX2_finish, Cond.instanceMethod yX2_finish, Cond.selects RX2 yX2_finish yX2_finish, Cond.code yX2_finish cX2_finish 1 (some .int), Cond.fieldLink RX2 26 "DiskMachine$Controller" "call" "I"]
def wsX2_letPass : List Cond := .code yX2_letPass cX2_letPass 4 (some .int) :: ((wsX2_letPass_r1 ++ wsX2_letPass_r2) ++ wsX20 ++ wsX50)
def wsX2_stateByte : List Cond := .code yX2_stateByte cX2_stateByte 1 (some .int) :: ([.fieldLink RX2 33 "DiskMachine$Controller" "state" "I"] ++ wsX20)
def wsX2_movedCount : List Cond := .code yX2_movedCount cX2_movedCount 1 (some .int) :: ([.fieldLink RX2 43 "DiskMachine$Controller" "moved" "I"] ++ wsX20)
def wsX2_addressWord : List Cond := .code yX2_addressWord cX2_addressWord 1 (some .int) :: ([.fieldLink RX2 22 "DiskMachine$Controller" "address" "I"] ++ wsX20)
def wsX3_init : List Cond := .code yX3_init cX3_init 1 none :: ([.methodLink RX3 1 objectInit, .instanceMethod objectInit, .code objectInit ⟨#[0xb1]⟩ 1 none])
def wsX3_packed : List Cond := .code yX3_packed cX3_packed 1 (some .int) :: ([.fieldLink RX3 7 "DiskMachine$Flags" "sign" "Z", .fieldLink RX3 13 "DiskMachine$Flags" "zero" "Z", .fieldLink RX3 16 "DiskMachine$Flags" "half" "Z", .fieldLink RX3 19 "DiskMachine$Flags" "parity" "Z", .fieldLink RX3 22 "DiskMachine$Flags" "carry" "Z"] ++ wsX30)
def wsX3_unpack : List Cond := .code yX3_unpack cX3_unpack 2 none :: ([.fieldLink RX3 7 "DiskMachine$Flags" "sign" "Z", .fieldLink RX3 13 "DiskMachine$Flags" "zero" "Z", .fieldLink RX3 16 "DiskMachine$Flags" "half" "Z", .fieldLink RX3 19 "DiskMachine$Flags" "parity" "Z", .fieldLink RX3 22 "DiskMachine$Flags" "carry" "Z"] ++ wsX30)
def wsX3_holds : List Cond := .code yX3_holds cX3_holds 3 (some .boolean) :: ([.fieldLink RX3 13 "DiskMachine$Flags" "zero" "Z", .fieldLink RX3 22 "DiskMachine$Flags" "carry" "Z", .fieldLink RX3 19 "DiskMachine$Flags" "parity" "Z", .fieldLink RX3 7 "DiskMachine$Flags" "sign" "Z"] ++ wsX30)
def wsX4_init_r1 : List Cond := [Cond.methodLink RX4 3 objectInit, Cond.instanceMethod objectInit, Cond.code objectInit ⟨#[0xb1]⟩ 1 none, Cond.classLink RX4 9 RX3, Cond.instantiable RX3 5, Cond.initialized RX3, Cond.fieldLink RX4 12 "DiskMachine$Processor" "flags" "LDiskMachine$Flags;", Cond.classLink RX4 18 RX0, Cond.instantiable RX0 1, Cond.initialized RX0, Cond.fieldLink RX4 23 "DiskMachine$Processor" "arithmetic" "LDiskMachine$Arithmetic;", Cond.arrayClass .int, Cond.fieldLink RX4 27 "DiskMachine$Processor" "registers" "[I", Cond.fieldLink RX4 31 "DiskMachine$Processor" "wanted" "I", Cond.fieldLink RX4 35 "DiskMachine$Processor" "memory" "LDiskMachine$Store;", Cond.fieldLink RX4 39 "DiskMachine$Processor" "console" "LDiskMachine$Console;", Cond.fieldLink RX4 43 "DiskMachine$Processor" "controller" "LDiskMachine$Controller;", Cond.instanceMethod yX3_init, Cond.code yX3_init cX3_init 1 none, Cond.methodLink RX3 1 objectInit, Cond.methodLink RX4 20 yX0_init, Cond.instanceMethod yX0_init, Cond.code yX0_init cX0_init 2 none, Cond.methodLink RX0 3 objectInit]
def wsX4_init_r2 : List Cond := [Cond.fieldLink RX0 9 "DiskMachine$Arithmetic" "flags" "LDiskMachine$Flags;"]
def wsX4_init : List Cond := .code yX4_init cX4_init 4 none :: ((wsX4_init_r1 ++ wsX4_init_r2) ++ wsX30 ++ wsX40 ++ wsX00)
def wsX4_shows : List Cond := .code yX4_shows cX4_shows 1 (some .boolean) :: ([])
def wsX4_shown : List Cond := .code yX4_shown cX4_shown 2 (some .int) :: ([.fieldLink RX4 12 "DiskMachine$Processor" "flags" "LDiskMachine$Flags;", .fieldLink RX4 51 "DiskMachine$Processor" "pc" "I", .fieldLink RX4 54 "DiskMachine$Processor" "sp" "I", .fieldLink RX4 27 "DiskMachine$Processor" "registers" "[I", .methodLink RX4 47 yX3_packed, .instanceMethod yX3_packed, .selects RX3 yX3_packed yX3_packed, .initialized RX3, .code yX3_packed cX3_packed 1 (some .int), .fieldLink RX3 7 "DiskMachine$Flags" "sign" "Z", .fieldLink RX3 13 "DiskMachine$Flags" "zero" "Z", .fieldLink RX3 16 "DiskMachine$Flags" "half" "Z", .fieldLink RX3 19 "DiskMachine$Flags" "parity" "Z", .fieldLink RX3 22 "DiskMachine$Flags" "carry" "Z"] ++ wsX40 ++ wsX30)
def wsX4_change : List Cond := .code yX4_change cX4_change 3 none :: ([.fieldLink RX4 12 "DiskMachine$Processor" "flags" "LDiskMachine$Flags;", .constant RX4 61 (65535), .fieldLink RX4 51 "DiskMachine$Processor" "pc" "I", .fieldLink RX4 54 "DiskMachine$Processor" "sp" "I", .fieldLink RX4 27 "DiskMachine$Processor" "registers" "[I", .methodLink RX4 57 yX3_unpack, .instanceMethod yX3_unpack, .selects RX3 yX3_unpack yX3_unpack, .initialized RX3, .code yX3_unpack cX3_unpack 2 none, .fieldLink RX3 7 "DiskMachine$Flags" "sign" "Z", .fieldLink RX3 13 "DiskMachine$Flags" "zero" "Z", .fieldLink RX3 16 "DiskMachine$Flags" "half" "Z", .fieldLink RX3 19 "DiskMachine$Flags" "parity" "Z", .fieldLink RX3 22 "DiskMachine$Flags" "carry" "Z"] ++ wsX40 ++ wsX30)
def wsX4_callWith : List Cond := .code yX4_callWith cX4_callWith 2 none :: ([.fieldLink RX4 31 "DiskMachine$Processor" "wanted" "I"] ++ wsX40)
def wsX4_isHalted : List Cond := .code yX4_isHalted cX4_isHalted 1 (some .boolean) :: ([.fieldLink RX4 62 "DiskMachine$Processor" "halted" "Z"] ++ wsX40)
def wsX4_hasInterruptsOn : List Cond := .code yX4_hasInterruptsOn cX4_hasInterruptsOn 1 (some .boolean) :: ([.fieldLink RX4 66 "DiskMachine$Processor" "interruptsOn" "Z"] ++ wsX40)
def wsX4_wantedInterrupt : List Cond := .code yX4_wantedInterrupt cX4_wantedInterrupt 1 (some .int) :: ([.fieldLink RX4 31 "DiskMachine$Processor" "wanted" "I"] ++ wsX40)
def wsX4_cyclesDone : List Cond := .code yX4_cyclesDone cX4_cyclesDone 1 (some .long) :: ([.fieldLink RX4 69 "DiskMachine$Processor" "cyclesDone" "J"] ++ wsX40)
def wsX5_setWord : List Cond := .code yX5_setWord cX5_setWord 3 none :: ([.fieldLink RX5 11 "DiskMachine$Store" "bytes" "[I"] ++ wsX50)
def wsX4_push : List Cond := .code yX4_push cX4_push 2 none :: ([.fieldLink RX4 54 "DiskMachine$Processor" "sp" "I", .constant RX4 61 (65535), .fieldLink RX4 35 "DiskMachine$Processor" "memory" "LDiskMachine$Store;", .methodLink RX4 154 yX5_setWord, .instanceMethod yX5_setWord, .selects RX5 yX5_setWord yX5_setWord, .initialized RX5, .code yX5_setWord cX5_setWord 3 none, .fieldLink RX5 11 "DiskMachine$Store" "bytes" "[I"] ++ wsX40 ++ wsX50)
def wsX4_answerInterrupt : List Cond := .code yX4_answerInterrupt cX4_answerInterrupt 2 (some .int) :: ([.fieldLink RX4 31 "DiskMachine$Processor" "wanted" "I", .fieldLink RX4 66 "DiskMachine$Processor" "interruptsOn" "Z", .fieldLink RX4 62 "DiskMachine$Processor" "halted" "Z", .fieldLink RX4 51 "DiskMachine$Processor" "pc" "I", .methodLink RX4 88 yX4_push, .instanceMethod yX4_push, .selects RX4 yX4_push yX4_push, .initialized RX4, .code yX4_push cX4_push 2 none, .fieldLink RX4 54 "DiskMachine$Processor" "sp" "I", .constant RX4 61 (65535), .fieldLink RX4 35 "DiskMachine$Processor" "memory" "LDiskMachine$Store;", .methodLink RX4 154 yX5_setWord, .instanceMethod yX5_setWord, .selects RX5 yX5_setWord yX5_setWord, .initialized RX5, .code yX5_setWord cX5_setWord 3 none, .fieldLink RX5 11 "DiskMachine$Store" "bytes" "[I"] ++ wsX40 ++ wsX50)
def wsX4_nextByte : List Cond := .code yX4_nextByte cX4_nextByte 2 (some .int) :: ([.fieldLink RX4 35 "DiskMachine$Processor" "memory" "LDiskMachine$Store;", .fieldLink RX4 51 "DiskMachine$Processor" "pc" "I", .constant RX4 61 (65535), .methodLink RX4 151 yX5_byteAt, .instanceMethod yX5_byteAt, .selects RX5 yX5_byteAt yX5_byteAt, .initialized RX5, .code yX5_byteAt cX5_byteAt 2 (some .int), .fieldLink RX5 11 "DiskMachine$Store" "bytes" "[I"] ++ wsX40 ++ wsX50)
def wsX5_wordAt : List Cond := .code yX5_wordAt cX5_wordAt 2 (some .int) :: ([.fieldLink RX5 11 "DiskMachine$Store" "bytes" "[I"] ++ wsX50)
def wsX4_nextWord : List Cond := .code yX4_nextWord cX4_nextWord 2 (some .int) :: ([.fieldLink RX4 35 "DiskMachine$Processor" "memory" "LDiskMachine$Store;", .fieldLink RX4 51 "DiskMachine$Processor" "pc" "I", .constant RX4 61 (65535), .methodLink RX4 157 yX5_wordAt, .instanceMethod yX5_wordAt, .selects RX5 yX5_wordAt yX5_wordAt, .initialized RX5, .code yX5_wordAt cX5_wordAt 2 (some .int), .fieldLink RX5 11 "DiskMachine$Store" "bytes" "[I"] ++ wsX40 ++ wsX50)
def wsX4_setPair : List Cond := .code yX4_setPair cX4_setPair 3 none :: ([.constant RX4 61 (65535), .fieldLink RX4 54 "DiskMachine$Processor" "sp" "I", .fieldLink RX4 27 "DiskMachine$Processor" "registers" "[I"] ++ wsX40)
def wsX4_pair : List Cond := .code yX4_pair cX4_pair 2 (some .int) :: ([.fieldLink RX4 54 "DiskMachine$Processor" "sp" "I", .fieldLink RX4 27 "DiskMachine$Processor" "registers" "[I"] ++ wsX40)
def wsX4_setOrAddPair_r1 : List Cond := [Cond.fieldLink RX4 12 "DiskMachine$Processor" "flags" "LDiskMachine$Flags;", Cond.constant RX4 61 (65535), Cond.methodLink RX4 133 yX4_nextWord, Cond.instanceMethod yX4_nextWord, Cond.selects RX4 yX4_nextWord yX4_nextWord, Cond.initialized RX4, Cond.code yX4_nextWord cX4_nextWord 2 (some .int), Cond.fieldLink RX4 35 "DiskMachine$Processor" "memory" "LDiskMachine$Store;", Cond.fieldLink RX4 51 "DiskMachine$Processor" "pc" "I", Cond.methodLink RX4 157 yX5_wordAt, Cond.instanceMethod yX5_wordAt, Cond.selects RX5 yX5_wordAt yX5_wordAt, Cond.initialized RX5, Cond.code yX5_wordAt cX5_wordAt 2 (some .int), Cond.fieldLink RX5 11 "DiskMachine$Store" "bytes" "[I", Cond.methodLink RX4 136 yX4_setPair, Cond.instanceMethod yX4_setPair, Cond.selects RX4 yX4_setPair yX4_setPair, Cond.code yX4_setPair cX4_setPair 3 none, Cond.fieldLink RX4 54 "DiskMachine$Processor" "sp" "I", Cond.fieldLink RX4 27 "DiskMachine$Processor" "registers" "[I", Cond.methodLink RX4 139 yX4_pair, Cond.instanceMethod yX4_pair, Cond.selects RX4 yX4_pair yX4_pair]
def wsX4_setOrAddPair_r2 : List Cond := [Cond.code yX4_pair cX4_pair 2 (some .int), Cond.methodLink RX4 142 yX3_setCarry, Cond.instanceMethod yX3_setCarry, Cond.selects RX3 yX3_setCarry yX3_setCarry, Cond.initialized RX3, Cond.code yX3_setCarry cX3_setCarry 2 none, Cond.fieldLink RX3 22 "DiskMachine$Flags" "carry" "Z"]
def wsX4_setOrAddPair : List Cond := .code yX4_setOrAddPair cX4_setOrAddPair 4 (some .int) :: ((wsX4_setOrAddPair_r1 ++ wsX4_setOrAddPair_r2) ++ wsX40 ++ wsX50 ++ wsX30)
def wsX4_moveByAddress_r1 : List Cond := [Cond.fieldLink RX4 35 "DiskMachine$Processor" "memory" "LDiskMachine$Store;", Cond.fieldLink RX4 27 "DiskMachine$Processor" "registers" "[I", Cond.methodLink RX4 139 yX4_pair, Cond.instanceMethod yX4_pair, Cond.selects RX4 yX4_pair yX4_pair, Cond.initialized RX4, Cond.code yX4_pair cX4_pair 2 (some .int), Cond.fieldLink RX4 54 "DiskMachine$Processor" "sp" "I", Cond.methodLink RX4 146 yX5_setByte, Cond.instanceMethod yX5_setByte, Cond.selects RX5 yX5_setByte yX5_setByte, Cond.initialized RX5, Cond.code yX5_setByte cX5_setByte 3 none, Cond.fieldLink RX5 11 "DiskMachine$Store" "bytes" "[I", Cond.methodLink RX4 151 yX5_byteAt, Cond.instanceMethod yX5_byteAt, Cond.selects RX5 yX5_byteAt yX5_byteAt, Cond.code yX5_byteAt cX5_byteAt 2 (some .int), Cond.methodLink RX4 133 yX4_nextWord, Cond.instanceMethod yX4_nextWord, Cond.selects RX4 yX4_nextWord yX4_nextWord, Cond.code yX4_nextWord cX4_nextWord 2 (some .int), Cond.fieldLink RX4 51 "DiskMachine$Processor" "pc" "I", Cond.constant RX4 61 (65535)]
def wsX4_moveByAddress_r2 : List Cond := [Cond.methodLink RX4 157 yX5_wordAt, Cond.instanceMethod yX5_wordAt, Cond.selects RX5 yX5_wordAt yX5_wordAt, Cond.code yX5_wordAt cX5_wordAt 2 (some .int), Cond.methodLink RX4 154 yX5_setWord, Cond.instanceMethod yX5_setWord, Cond.selects RX5 yX5_setWord yX5_setWord, Cond.code yX5_setWord cX5_setWord 3 none, Cond.methodLink RX4 136 yX4_setPair, Cond.instanceMethod yX4_setPair, Cond.selects RX4 yX4_setPair yX4_setPair, Cond.code yX4_setPair cX4_setPair 3 none]
def wsX4_moveByAddress : List Cond := .code yX4_moveByAddress cX4_moveByAddress 2 (some .int) :: ((wsX4_moveByAddress_r1 ++ wsX4_moveByAddress_r2) ++ wsX40 ++ wsX50)
def wsX4_stepPair : List Cond := .code yX4_stepPair cX4_stepPair 3 (some .int) :: ([.methodLink RX4 139 yX4_pair, .instanceMethod yX4_pair, .selects RX4 yX4_pair yX4_pair, .initialized RX4, .code yX4_pair cX4_pair 2 (some .int), .fieldLink RX4 54 "DiskMachine$Processor" "sp" "I", .fieldLink RX4 27 "DiskMachine$Processor" "registers" "[I", .methodLink RX4 136 yX4_setPair, .instanceMethod yX4_setPair, .selects RX4 yX4_setPair yX4_setPair, .code yX4_setPair cX4_setPair 3 none, .constant RX4 61 (65535)] ++ wsX40)
def wsX4_value : List Cond := .code yX4_value cX4_value 2 (some .int) :: ([.fieldLink RX4 35 "DiskMachine$Processor" "memory" "LDiskMachine$Store;", .fieldLink RX4 27 "DiskMachine$Processor" "registers" "[I", .methodLink RX4 139 yX4_pair, .instanceMethod yX4_pair, .selects RX4 yX4_pair yX4_pair, .initialized RX4, .code yX4_pair cX4_pair 2 (some .int), .fieldLink RX4 54 "DiskMachine$Processor" "sp" "I", .methodLink RX4 151 yX5_byteAt, .instanceMethod yX5_byteAt, .selects RX5 yX5_byteAt yX5_byteAt, .initialized RX5, .code yX5_byteAt cX5_byteAt 2 (some .int), .fieldLink RX5 11 "DiskMachine$Store" "bytes" "[I"] ++ wsX40 ++ wsX50)
def wsX4_setValue : List Cond := .code yX4_setValue cX4_setValue 3 none :: ([.fieldLink RX4 35 "DiskMachine$Processor" "memory" "LDiskMachine$Store;", .fieldLink RX4 27 "DiskMachine$Processor" "registers" "[I", .methodLink RX4 139 yX4_pair, .instanceMethod yX4_pair, .selects RX4 yX4_pair yX4_pair, .initialized RX4, .code yX4_pair cX4_pair 2 (some .int), .fieldLink RX4 54 "DiskMachine$Processor" "sp" "I", .methodLink RX4 146 yX5_setByte, .instanceMethod yX5_setByte, .selects RX5 yX5_setByte yX5_setByte, .initialized RX5, .code yX5_setByte cX5_setByte 3 none, .fieldLink RX5 11 "DiskMachine$Store" "bytes" "[I"] ++ wsX40 ++ wsX50)
def wsX4_firstQuarter_r1 : List Cond := [Cond.fieldLink RX4 23 "DiskMachine$Processor" "arithmetic" "LDiskMachine$Arithmetic;", Cond.fieldLink RX4 27 "DiskMachine$Processor" "registers" "[I", Cond.methodLink RX4 111 yX4_setOrAddPair, Cond.instanceMethod yX4_setOrAddPair, Cond.selects RX4 yX4_setOrAddPair yX4_setOrAddPair, Cond.initialized RX4, Cond.code yX4_setOrAddPair cX4_setOrAddPair 4 (some .int), Cond.fieldLink RX4 12 "DiskMachine$Processor" "flags" "LDiskMachine$Flags;", Cond.constant RX4 61 (65535), Cond.methodLink RX4 133 yX4_nextWord, Cond.instanceMethod yX4_nextWord, Cond.selects RX4 yX4_nextWord yX4_nextWord, Cond.code yX4_nextWord cX4_nextWord 2 (some .int), Cond.fieldLink RX4 35 "DiskMachine$Processor" "memory" "LDiskMachine$Store;", Cond.fieldLink RX4 51 "DiskMachine$Processor" "pc" "I", Cond.methodLink RX4 157 yX5_wordAt, Cond.instanceMethod yX5_wordAt, Cond.selects RX5 yX5_wordAt yX5_wordAt, Cond.initialized RX5, Cond.code yX5_wordAt cX5_wordAt 2 (some .int), Cond.fieldLink RX5 11 "DiskMachine$Store" "bytes" "[I", Cond.methodLink RX4 136 yX4_setPair, Cond.instanceMethod yX4_setPair, Cond.selects RX4 yX4_setPair yX4_setPair]
def wsX4_firstQuarter_r2 : List Cond := [Cond.code yX4_setPair cX4_setPair 3 none, Cond.fieldLink RX4 54 "DiskMachine$Processor" "sp" "I", Cond.methodLink RX4 139 yX4_pair, Cond.instanceMethod yX4_pair, Cond.selects RX4 yX4_pair yX4_pair, Cond.code yX4_pair cX4_pair 2 (some .int), Cond.methodLink RX4 142 yX3_setCarry, Cond.instanceMethod yX3_setCarry, Cond.selects RX3 yX3_setCarry yX3_setCarry, Cond.initialized RX3, Cond.code yX3_setCarry cX3_setCarry 2 none, Cond.fieldLink RX3 22 "DiskMachine$Flags" "carry" "Z", Cond.methodLink RX4 114 yX4_moveByAddress, Cond.instanceMethod yX4_moveByAddress, Cond.selects RX4 yX4_moveByAddress yX4_moveByAddress, Cond.code yX4_moveByAddress cX4_moveByAddress 2 (some .int), Cond.methodLink RX4 146 yX5_setByte, Cond.instanceMethod yX5_setByte, Cond.selects RX5 yX5_setByte yX5_setByte, Cond.code yX5_setByte cX5_setByte 3 none, Cond.methodLink RX4 151 yX5_byteAt, Cond.instanceMethod yX5_byteAt, Cond.selects RX5 yX5_byteAt yX5_byteAt, Cond.code yX5_byteAt cX5_byteAt 2 (some .int)]
def wsX4_firstQuarter_r3 : List Cond := [Cond.methodLink RX4 154 yX5_setWord, Cond.instanceMethod yX5_setWord, Cond.selects RX5 yX5_setWord yX5_setWord, Cond.code yX5_setWord cX5_setWord 3 none, Cond.methodLink RX4 117 yX4_stepPair, Cond.instanceMethod yX4_stepPair, Cond.selects RX4 yX4_stepPair yX4_stepPair, Cond.code yX4_stepPair cX4_stepPair 3 (some .int), Cond.methodLink RX4 101 yX4_value, Cond.instanceMethod yX4_value, Cond.selects RX4 yX4_value yX4_value, Cond.code yX4_value cX4_value 2 (some .int), Cond.methodLink RX4 120 yX0_oneMore, Cond.instanceMethod yX0_oneMore, Cond.selects RX0 yX0_oneMore yX0_oneMore, Cond.initialized RX0, Cond.code yX0_oneMore cX0_oneMore 3 (some .int), Cond.fieldLink RX0 9 "DiskMachine$Arithmetic" "flags" "LDiskMachine$Flags;", Cond.methodLink RX0 36 yX3_setHalf, Cond.instanceMethod yX3_setHalf, Cond.selects RX3 yX3_setHalf yX3_setHalf, Cond.code yX3_setHalf cX3_setHalf 2 none, Cond.fieldLink RX3 16 "DiskMachine$Flags" "half" "Z", Cond.methodLink RX0 39 yX3_setLogic]
def wsX4_firstQuarter_r4 : List Cond := [Cond.instanceMethod yX3_setLogic, Cond.selects RX3 yX3_setLogic yX3_setLogic, Cond.code yX3_setLogic cX3_setLogic 2 none, Cond.fieldLink RX3 7 "DiskMachine$Flags" "sign" "Z", Cond.fieldLink RX3 13 "DiskMachine$Flags" "zero" "Z", Cond.fieldLink RX3 19 "DiskMachine$Flags" "parity" "Z", Cond.methodLink RX3 25 yJ6_bitCount_0f7a4, Cond.static yJ6_bitCount_0f7a4, Cond.initialized RJ6, Cond.code yJ6_bitCount_0f7a4 cJ6_bitCount_0f7a4 1 (some .int), Cond.constant RJ6 265 (1431655765), Cond.constant RJ6 266 (858993459), Cond.constant RJ6 267 (252645135), Cond.methodLink RX4 123 yX4_setValue, Cond.instanceMethod yX4_setValue, Cond.selects RX4 yX4_setValue yX4_setValue, Cond.code yX4_setValue cX4_setValue 3 none, Cond.methodLink RX4 127 yX0_oneLess, Cond.instanceMethod yX0_oneLess, Cond.selects RX0 yX0_oneLess yX0_oneLess, Cond.code yX0_oneLess cX0_oneLess 3 (some .int), Cond.methodLink RX4 91 yX4_nextByte, Cond.instanceMethod yX4_nextByte, Cond.selects RX4 yX4_nextByte yX4_nextByte]
def wsX4_firstQuarter_r5 : List Cond := [Cond.code yX4_nextByte cX4_nextByte 2 (some .int), Cond.methodLink RX4 130 yX0_adjust, Cond.instanceMethod yX0_adjust, Cond.selects RX0 yX0_adjust yX0_adjust, Cond.code yX0_adjust cX0_adjust 3 (some .int), Cond.methodLink RX0 43 yX0_turnLeft, Cond.instanceMethod yX0_turnLeft, Cond.selects RX0 yX0_turnLeft yX0_turnLeft, Cond.code yX0_turnLeft cX0_turnLeft 3 (some .int), Cond.methodLink RX0 32 yX3_setCarry, Cond.methodLink RX0 47 yX0_turnRight, Cond.instanceMethod yX0_turnRight, Cond.selects RX0 yX0_turnRight yX0_turnRight, Cond.code yX0_turnRight cX0_turnRight 3 (some .int), Cond.methodLink RX0 19 yX3_carryBit, Cond.instanceMethod yX3_carryBit, Cond.selects RX3 yX3_carryBit yX3_carryBit, Cond.code yX3_carryBit cX3_carryBit 1 (some .int), Cond.methodLink RX0 50 yX0_toDecimal, Cond.instanceMethod yX0_toDecimal, Cond.selects RX0 yX0_toDecimal yX0_toDecimal, Cond.code yX0_toDecimal cX0_toDecimal 7 (some .int), Cond.methodLink RX0 58 yX3_hasHalf, Cond.instanceMethod yX3_hasHalf]
def wsX4_firstQuarter_r6 : List Cond := [Cond.selects RX3 yX3_hasHalf yX3_hasHalf, Cond.code yX3_hasHalf cX3_hasHalf 1 (some .boolean), Cond.methodLink RX0 54 yX3_hasCarry, Cond.instanceMethod yX3_hasCarry, Cond.selects RX3 yX3_hasCarry yX3_hasCarry, Cond.code yX3_hasCarry cX3_hasCarry 1 (some .boolean)]
def wsX4_firstQuarter : List Cond := .code yX4_firstQuarter cX4_firstQuarter 3 (some .int) :: ((wsX4_firstQuarter_r1 ++ (wsX4_firstQuarter_r2 ++ (wsX4_firstQuarter_r3 ++ (wsX4_firstQuarter_r4 ++ (wsX4_firstQuarter_r5 ++ wsX4_firstQuarter_r6))))) ++ wsX40 ++ wsX50 ++ wsX30 ++ wsX00)
def wsX4_transfer_r1 : List Cond := [Cond.fieldLink RX4 62 "DiskMachine$Processor" "halted" "Z", Cond.methodLink RX4 101 yX4_value, Cond.instanceMethod yX4_value, Cond.selects RX4 yX4_value yX4_value, Cond.initialized RX4, Cond.code yX4_value cX4_value 2 (some .int), Cond.fieldLink RX4 35 "DiskMachine$Processor" "memory" "LDiskMachine$Store;", Cond.fieldLink RX4 27 "DiskMachine$Processor" "registers" "[I", Cond.methodLink RX4 139 yX4_pair, Cond.instanceMethod yX4_pair, Cond.selects RX4 yX4_pair yX4_pair, Cond.code yX4_pair cX4_pair 2 (some .int), Cond.fieldLink RX4 54 "DiskMachine$Processor" "sp" "I", Cond.methodLink RX4 151 yX5_byteAt, Cond.instanceMethod yX5_byteAt, Cond.selects RX5 yX5_byteAt yX5_byteAt, Cond.initialized RX5, Cond.code yX5_byteAt cX5_byteAt 2 (some .int), Cond.fieldLink RX5 11 "DiskMachine$Store" "bytes" "[I", Cond.methodLink RX4 123 yX4_setValue, Cond.instanceMethod yX4_setValue, Cond.selects RX4 yX4_setValue yX4_setValue, Cond.code yX4_setValue cX4_setValue 3 none, Cond.methodLink RX4 146 yX5_setByte]
def wsX4_transfer_r2 : List Cond := [Cond.instanceMethod yX5_setByte, Cond.selects RX5 yX5_setByte yX5_setByte, Cond.code yX5_setByte cX5_setByte 3 none]
def wsX4_transfer : List Cond := .code yX4_transfer cX4_transfer 3 (some .int) :: ((wsX4_transfer_r1 ++ wsX4_transfer_r2) ++ wsX40 ++ wsX50)
def wsX4_pop : List Cond := .code yX4_pop cX4_pop 2 (some .int) :: ([.fieldLink RX4 35 "DiskMachine$Processor" "memory" "LDiskMachine$Store;", .fieldLink RX4 54 "DiskMachine$Processor" "sp" "I", .constant RX4 61 (65535), .methodLink RX4 157 yX5_wordAt, .instanceMethod yX5_wordAt, .selects RX5 yX5_wordAt yX5_wordAt, .initialized RX5, .code yX5_wordAt cX5_wordAt 2 (some .int), .fieldLink RX5 11 "DiskMachine$Store" "bytes" "[I"] ++ wsX40 ++ wsX50)
def wsX4_returnIf_r1 : List Cond := [Cond.fieldLink RX4 12 "DiskMachine$Processor" "flags" "LDiskMachine$Flags;", Cond.fieldLink RX4 51 "DiskMachine$Processor" "pc" "I", Cond.methodLink RX4 166 yX3_holds, Cond.instanceMethod yX3_holds, Cond.selects RX3 yX3_holds yX3_holds, Cond.initialized RX3, Cond.code yX3_holds cX3_holds 3 (some .boolean), Cond.fieldLink RX3 13 "DiskMachine$Flags" "zero" "Z", Cond.fieldLink RX3 22 "DiskMachine$Flags" "carry" "Z", Cond.fieldLink RX3 19 "DiskMachine$Flags" "parity" "Z", Cond.fieldLink RX3 7 "DiskMachine$Flags" "sign" "Z", Cond.methodLink RX4 183 yX4_pop, Cond.instanceMethod yX4_pop, Cond.selects RX4 yX4_pop yX4_pop, Cond.initialized RX4, Cond.code yX4_pop cX4_pop 2 (some .int), Cond.fieldLink RX4 35 "DiskMachine$Processor" "memory" "LDiskMachine$Store;", Cond.fieldLink RX4 54 "DiskMachine$Processor" "sp" "I", Cond.constant RX4 61 (65535), Cond.methodLink RX4 157 yX5_wordAt, Cond.instanceMethod yX5_wordAt, Cond.selects RX5 yX5_wordAt yX5_wordAt, Cond.initialized RX5, Cond.code yX5_wordAt cX5_wordAt 2 (some .int)]
def wsX4_returnIf_r2 : List Cond := [Cond.fieldLink RX5 11 "DiskMachine$Store" "bytes" "[I"]
def wsX4_returnIf : List Cond := .code yX4_returnIf cX4_returnIf 2 (some .int) :: ((wsX4_returnIf_r1 ++ wsX4_returnIf_r2) ++ wsX40 ++ wsX30 ++ wsX50)
def wsX4_popAccumulator_r1 : List Cond := [Cond.fieldLink RX4 27 "DiskMachine$Processor" "registers" "[I", Cond.fieldLink RX4 12 "DiskMachine$Processor" "flags" "LDiskMachine$Flags;", Cond.methodLink RX4 183 yX4_pop, Cond.instanceMethod yX4_pop, Cond.selects RX4 yX4_pop yX4_pop, Cond.initialized RX4, Cond.code yX4_pop cX4_pop 2 (some .int), Cond.fieldLink RX4 35 "DiskMachine$Processor" "memory" "LDiskMachine$Store;", Cond.fieldLink RX4 54 "DiskMachine$Processor" "sp" "I", Cond.constant RX4 61 (65535), Cond.methodLink RX4 157 yX5_wordAt, Cond.instanceMethod yX5_wordAt, Cond.selects RX5 yX5_wordAt yX5_wordAt, Cond.initialized RX5, Cond.code yX5_wordAt cX5_wordAt 2 (some .int), Cond.fieldLink RX5 11 "DiskMachine$Store" "bytes" "[I", Cond.methodLink RX4 57 yX3_unpack, Cond.instanceMethod yX3_unpack, Cond.selects RX3 yX3_unpack yX3_unpack, Cond.initialized RX3, Cond.code yX3_unpack cX3_unpack 2 none, Cond.fieldLink RX3 7 "DiskMachine$Flags" "sign" "Z", Cond.fieldLink RX3 13 "DiskMachine$Flags" "zero" "Z", Cond.fieldLink RX3 16 "DiskMachine$Flags" "half" "Z"]
def wsX4_popAccumulator_r2 : List Cond := [Cond.fieldLink RX3 19 "DiskMachine$Flags" "parity" "Z", Cond.fieldLink RX3 22 "DiskMachine$Flags" "carry" "Z"]
def wsX4_popAccumulator : List Cond := .code yX4_popAccumulator cX4_popAccumulator 2 (some .int) :: ((wsX4_popAccumulator_r1 ++ wsX4_popAccumulator_r2) ++ wsX40 ++ wsX50 ++ wsX30)
def wsX4_popOrReturn_r1 : List Cond := [Cond.fieldLink RX4 51 "DiskMachine$Processor" "pc" "I", Cond.fieldLink RX4 54 "DiskMachine$Processor" "sp" "I", Cond.methodLink RX4 183 yX4_pop, Cond.instanceMethod yX4_pop, Cond.selects RX4 yX4_pop yX4_pop, Cond.initialized RX4, Cond.code yX4_pop cX4_pop 2 (some .int), Cond.fieldLink RX4 35 "DiskMachine$Processor" "memory" "LDiskMachine$Store;", Cond.constant RX4 61 (65535), Cond.methodLink RX4 157 yX5_wordAt, Cond.instanceMethod yX5_wordAt, Cond.selects RX5 yX5_wordAt yX5_wordAt, Cond.initialized RX5, Cond.code yX5_wordAt cX5_wordAt 2 (some .int), Cond.fieldLink RX5 11 "DiskMachine$Store" "bytes" "[I", Cond.methodLink RX4 139 yX4_pair, Cond.instanceMethod yX4_pair, Cond.selects RX4 yX4_pair yX4_pair, Cond.code yX4_pair cX4_pair 2 (some .int), Cond.fieldLink RX4 27 "DiskMachine$Processor" "registers" "[I", Cond.methodLink RX4 186 yX4_popAccumulator, Cond.instanceMethod yX4_popAccumulator, Cond.selects RX4 yX4_popAccumulator yX4_popAccumulator, Cond.code yX4_popAccumulator cX4_popAccumulator 2 (some .int)]
def wsX4_popOrReturn_r2 : List Cond := [Cond.fieldLink RX4 12 "DiskMachine$Processor" "flags" "LDiskMachine$Flags;", Cond.methodLink RX4 57 yX3_unpack, Cond.instanceMethod yX3_unpack, Cond.selects RX3 yX3_unpack yX3_unpack, Cond.initialized RX3, Cond.code yX3_unpack cX3_unpack 2 none, Cond.fieldLink RX3 7 "DiskMachine$Flags" "sign" "Z", Cond.fieldLink RX3 13 "DiskMachine$Flags" "zero" "Z", Cond.fieldLink RX3 16 "DiskMachine$Flags" "half" "Z", Cond.fieldLink RX3 19 "DiskMachine$Flags" "parity" "Z", Cond.fieldLink RX3 22 "DiskMachine$Flags" "carry" "Z", Cond.methodLink RX4 136 yX4_setPair, Cond.instanceMethod yX4_setPair, Cond.selects RX4 yX4_setPair yX4_setPair, Cond.code yX4_setPair cX4_setPair 3 none]
def wsX4_popOrReturn : List Cond := .code yX4_popOrReturn cX4_popOrReturn 2 (some .int) :: ((wsX4_popOrReturn_r1 ++ wsX4_popOrReturn_r2) ++ wsX40 ++ wsX50 ++ wsX30)
def wsX4_jumpIf : List Cond := .code yX4_jumpIf cX4_jumpIf 3 (some .int) :: ([.fieldLink RX4 51 "DiskMachine$Processor" "pc" "I", .methodLink RX4 133 yX4_nextWord, .instanceMethod yX4_nextWord, .selects RX4 yX4_nextWord yX4_nextWord, .initialized RX4, .code yX4_nextWord cX4_nextWord 2 (some .int), .fieldLink RX4 35 "DiskMachine$Processor" "memory" "LDiskMachine$Store;", .constant RX4 61 (65535), .methodLink RX4 157 yX5_wordAt, .instanceMethod yX5_wordAt, .selects RX5 yX5_wordAt yX5_wordAt, .initialized RX5, .code yX5_wordAt cX5_wordAt 2 (some .int), .fieldLink RX5 11 "DiskMachine$Store" "bytes" "[I"] ++ wsX40 ++ wsX50)
def wsX4_sendToPort_r1 : List Cond := [Cond.fieldLink RX4 39 "DiskMachine$Processor" "console" "LDiskMachine$Console;", Cond.fieldLink RX4 43 "DiskMachine$Processor" "controller" "LDiskMachine$Controller;", Cond.methodLink RX4 201 yX1_append, Cond.instanceMethod yX1_append, Cond.selects RX1 yX1_append yX1_append, Cond.initialized RX1, Cond.code yX1_append cX1_append 2 none, Cond.fieldLink RX1 15 "DiskMachine$Console" "output" "[I", Cond.fieldLink RX1 25 "DiskMachine$Console" "outputCount" "I", Cond.methodLink RX4 206 yX2_setSector, Cond.instanceMethod yX2_setSector, Cond.selects RX2 yX2_setSector yX2_setSector, Cond.initialized RX2, Cond.code yX2_setSector cX2_setSector 2 none, Cond.fieldLink RX2 18 "DiskMachine$Controller" "sector" "I", Cond.methodLink RX4 209 yX2_setLowAddress, Cond.instanceMethod yX2_setLowAddress, Cond.selects RX2 yX2_setLowAddress yX2_setLowAddress, Cond.code yX2_setLowAddress cX2_setLowAddress 2 none, Cond.fieldLink RX2 22 "DiskMachine$Controller" "address" "I", Cond.constant RX2 25 (65280), Cond.methodLink RX4 212 yX2_setHighAddress, Cond.instanceMethod yX2_setHighAddress, Cond.selects RX2 yX2_setHighAddress yX2_setHighAddress]
def wsX4_sendToPort_r2 : List Cond := [Cond.code yX2_setHighAddress cX2_setHighAddress 2 none, Cond.methodLink RX4 215 yX2_setCall, Cond.instanceMethod yX2_setCall, Cond.selects RX2 yX2_setCall yX2_setCall, Cond.code yX2_setCall cX2_setCall 2 none, Cond.fieldLink RX2 26 "DiskMachine$Controller" "call" "I", Cond.methodLink RX4 218 yX2_command, Cond.instanceMethod yX2_command, Cond.selects RX2 yX2_command yX2_command, Cond.code yX2_command cX2_command 3 none, Cond.fieldLink RX2 33 "DiskMachine$Controller" "state" "I", Cond.fieldLink RX2 36 "DiskMachine$Controller" "diskStart" "I", Cond.fieldLink RX2 39 "DiskMachine$Controller" "toDisk" "Z", Cond.fieldLink RX2 43 "DiskMachine$Controller" "moved" "I", Cond.fieldLink RX2 46 "DiskMachine$Controller" "cyclesLeftOver" "I", Cond.fieldLink RX2 49 "DiskMachine$Controller" "commandJustCame" "Z", Cond.methodLink RX2 29 yX2_isBusy, Cond.instanceMethod yX2_isBusy, Cond.selects RX2 yX2_isBusy yX2_isBusy, Cond.code yX2_isBusy cX2_isBusy 1 (some .boolean)]
def wsX4_sendToPort : List Cond := .code yX4_sendToPort cX4_sendToPort 3 none :: ((wsX4_sendToPort_r1 ++ wsX4_sendToPort_r2) ++ wsX40 ++ wsX10 ++ wsX20)
def wsX4_takeFromPort : List Cond := .code yX4_takeFromPort cX4_takeFromPort 2 (some .int) :: ([.fieldLink RX4 39 "DiskMachine$Processor" "console" "LDiskMachine$Console;", .fieldLink RX4 43 "DiskMachine$Processor" "controller" "LDiskMachine$Controller;", .methodLink RX4 221 yX1_hasInput, .instanceMethod yX1_hasInput, .selects RX1 yX1_hasInput yX1_hasInput, .initialized RX1, .code yX1_hasInput cX1_hasInput 1 (some .boolean), .fieldLink RX1 18 "DiskMachine$Console" "inputCount" "I", .methodLink RX4 225 yX1_nextInput, .instanceMethod yX1_nextInput, .selects RX1 yX1_nextInput yX1_nextInput, .code yX1_nextInput cX1_nextInput 2 (some .int), .fieldLink RX1 11 "DiskMachine$Console" "input" "[I", .fieldLink RX1 22 "DiskMachine$Console" "firstInput" "I", .methodLink RX4 228 yX2_takeState, .instanceMethod yX2_takeState, .selects RX2 yX2_takeState yX2_takeState, .initialized RX2, .code yX2_takeState cX2_takeState 2 (some .int), .fieldLink RX2 33 "DiskMachine$Controller" "state" "I"] ++ wsX40 ++ wsX10 ++ wsX20)
def wsX4_swapWithStack : List Cond := .code yX4_swapWithStack cX4_swapWithStack 2 (some .int) :: ([.fieldLink RX4 35 "DiskMachine$Processor" "memory" "LDiskMachine$Store;", .fieldLink RX4 54 "DiskMachine$Processor" "sp" "I", .methodLink RX4 157 yX5_wordAt, .instanceMethod yX5_wordAt, .selects RX5 yX5_wordAt yX5_wordAt, .initialized RX5, .code yX5_wordAt cX5_wordAt 2 (some .int), .fieldLink RX5 11 "DiskMachine$Store" "bytes" "[I", .methodLink RX4 139 yX4_pair, .instanceMethod yX4_pair, .selects RX4 yX4_pair yX4_pair, .initialized RX4, .code yX4_pair cX4_pair 2 (some .int), .fieldLink RX4 27 "DiskMachine$Processor" "registers" "[I", .methodLink RX4 154 yX5_setWord, .instanceMethod yX5_setWord, .selects RX5 yX5_setWord yX5_setWord, .code yX5_setWord cX5_setWord 3 none, .methodLink RX4 136 yX4_setPair, .instanceMethod yX4_setPair, .selects RX4 yX4_setPair yX4_setPair, .code yX4_setPair cX4_setPair 3 none, .constant RX4 61 (65535)] ++ wsX40 ++ wsX50)
def wsX4_swapPairs : List Cond := .code yX4_swapPairs cX4_swapPairs 2 (some .int) :: ([.methodLink RX4 139 yX4_pair, .instanceMethod yX4_pair, .selects RX4 yX4_pair yX4_pair, .initialized RX4, .code yX4_pair cX4_pair 2 (some .int), .fieldLink RX4 54 "DiskMachine$Processor" "sp" "I", .fieldLink RX4 27 "DiskMachine$Processor" "registers" "[I", .methodLink RX4 136 yX4_setPair, .instanceMethod yX4_setPair, .selects RX4 yX4_setPair yX4_setPair, .code yX4_setPair cX4_setPair 3 none, .constant RX4 61 (65535)] ++ wsX40)
def wsX4_portOrExchange_r1 : List Cond := [Cond.fieldLink RX4 27 "DiskMachine$Processor" "registers" "[I", Cond.fieldLink RX4 66 "DiskMachine$Processor" "interruptsOn" "Z", Cond.fieldLink RX4 73 "DiskMachine$Processor" "justSetOn" "Z", Cond.methodLink RX4 91 yX4_nextByte, Cond.instanceMethod yX4_nextByte, Cond.selects RX4 yX4_nextByte yX4_nextByte, Cond.initialized RX4, Cond.code yX4_nextByte cX4_nextByte 2 (some .int), Cond.fieldLink RX4 35 "DiskMachine$Processor" "memory" "LDiskMachine$Store;", Cond.fieldLink RX4 51 "DiskMachine$Processor" "pc" "I", Cond.constant RX4 61 (65535), Cond.methodLink RX4 151 yX5_byteAt, Cond.instanceMethod yX5_byteAt, Cond.selects RX5 yX5_byteAt yX5_byteAt, Cond.initialized RX5, Cond.code yX5_byteAt cX5_byteAt 2 (some .int), Cond.fieldLink RX5 11 "DiskMachine$Store" "bytes" "[I", Cond.methodLink RX4 189 yX4_sendToPort, Cond.instanceMethod yX4_sendToPort, Cond.selects RX4 yX4_sendToPort yX4_sendToPort, Cond.code yX4_sendToPort cX4_sendToPort 3 none, Cond.fieldLink RX4 39 "DiskMachine$Processor" "console" "LDiskMachine$Console;", Cond.fieldLink RX4 43 "DiskMachine$Processor" "controller" "LDiskMachine$Controller;", Cond.methodLink RX4 201 yX1_append]
def wsX4_portOrExchange_r2 : List Cond := [Cond.instanceMethod yX1_append, Cond.selects RX1 yX1_append yX1_append, Cond.initialized RX1, Cond.code yX1_append cX1_append 2 none, Cond.fieldLink RX1 15 "DiskMachine$Console" "output" "[I", Cond.fieldLink RX1 25 "DiskMachine$Console" "outputCount" "I", Cond.methodLink RX4 206 yX2_setSector, Cond.instanceMethod yX2_setSector, Cond.selects RX2 yX2_setSector yX2_setSector, Cond.initialized RX2, Cond.code yX2_setSector cX2_setSector 2 none, Cond.fieldLink RX2 18 "DiskMachine$Controller" "sector" "I", Cond.methodLink RX4 209 yX2_setLowAddress, Cond.instanceMethod yX2_setLowAddress, Cond.selects RX2 yX2_setLowAddress yX2_setLowAddress, Cond.code yX2_setLowAddress cX2_setLowAddress 2 none, Cond.fieldLink RX2 22 "DiskMachine$Controller" "address" "I", Cond.constant RX2 25 (65280), Cond.methodLink RX4 212 yX2_setHighAddress, Cond.instanceMethod yX2_setHighAddress, Cond.selects RX2 yX2_setHighAddress yX2_setHighAddress, Cond.code yX2_setHighAddress cX2_setHighAddress 2 none, Cond.methodLink RX4 215 yX2_setCall, Cond.instanceMethod yX2_setCall]
def wsX4_portOrExchange_r3 : List Cond := [Cond.selects RX2 yX2_setCall yX2_setCall, Cond.code yX2_setCall cX2_setCall 2 none, Cond.fieldLink RX2 26 "DiskMachine$Controller" "call" "I", Cond.methodLink RX4 218 yX2_command, Cond.instanceMethod yX2_command, Cond.selects RX2 yX2_command yX2_command, Cond.code yX2_command cX2_command 3 none, Cond.fieldLink RX2 33 "DiskMachine$Controller" "state" "I", Cond.fieldLink RX2 36 "DiskMachine$Controller" "diskStart" "I", Cond.fieldLink RX2 39 "DiskMachine$Controller" "toDisk" "Z", Cond.fieldLink RX2 43 "DiskMachine$Controller" "moved" "I", Cond.fieldLink RX2 46 "DiskMachine$Controller" "cyclesLeftOver" "I", Cond.fieldLink RX2 49 "DiskMachine$Controller" "commandJustCame" "Z", Cond.methodLink RX2 29 yX2_isBusy, Cond.instanceMethod yX2_isBusy, Cond.selects RX2 yX2_isBusy yX2_isBusy, Cond.code yX2_isBusy cX2_isBusy 1 (some .boolean), Cond.methodLink RX4 192 yX4_takeFromPort, Cond.instanceMethod yX4_takeFromPort, Cond.selects RX4 yX4_takeFromPort yX4_takeFromPort, Cond.code yX4_takeFromPort cX4_takeFromPort 2 (some .int), Cond.methodLink RX4 221 yX1_hasInput, Cond.instanceMethod yX1_hasInput, Cond.selects RX1 yX1_hasInput yX1_hasInput]
def wsX4_portOrExchange_r4 : List Cond := [Cond.code yX1_hasInput cX1_hasInput 1 (some .boolean), Cond.fieldLink RX1 18 "DiskMachine$Console" "inputCount" "I", Cond.methodLink RX4 225 yX1_nextInput, Cond.instanceMethod yX1_nextInput, Cond.selects RX1 yX1_nextInput yX1_nextInput, Cond.code yX1_nextInput cX1_nextInput 2 (some .int), Cond.fieldLink RX1 11 "DiskMachine$Console" "input" "[I", Cond.fieldLink RX1 22 "DiskMachine$Console" "firstInput" "I", Cond.methodLink RX4 228 yX2_takeState, Cond.instanceMethod yX2_takeState, Cond.selects RX2 yX2_takeState yX2_takeState, Cond.code yX2_takeState cX2_takeState 2 (some .int), Cond.methodLink RX4 195 yX4_swapWithStack, Cond.instanceMethod yX4_swapWithStack, Cond.selects RX4 yX4_swapWithStack yX4_swapWithStack, Cond.code yX4_swapWithStack cX4_swapWithStack 2 (some .int), Cond.fieldLink RX4 54 "DiskMachine$Processor" "sp" "I", Cond.methodLink RX4 157 yX5_wordAt, Cond.instanceMethod yX5_wordAt, Cond.selects RX5 yX5_wordAt yX5_wordAt, Cond.code yX5_wordAt cX5_wordAt 2 (some .int), Cond.methodLink RX4 139 yX4_pair, Cond.instanceMethod yX4_pair, Cond.selects RX4 yX4_pair yX4_pair]
def wsX4_portOrExchange_r5 : List Cond := [Cond.code yX4_pair cX4_pair 2 (some .int), Cond.methodLink RX4 154 yX5_setWord, Cond.instanceMethod yX5_setWord, Cond.selects RX5 yX5_setWord yX5_setWord, Cond.code yX5_setWord cX5_setWord 3 none, Cond.methodLink RX4 136 yX4_setPair, Cond.instanceMethod yX4_setPair, Cond.selects RX4 yX4_setPair yX4_setPair, Cond.code yX4_setPair cX4_setPair 3 none, Cond.methodLink RX4 198 yX4_swapPairs, Cond.instanceMethod yX4_swapPairs, Cond.selects RX4 yX4_swapPairs yX4_swapPairs, Cond.code yX4_swapPairs cX4_swapPairs 2 (some .int)]
def wsX4_portOrExchange : List Cond := .code yX4_portOrExchange cX4_portOrExchange 2 (some .int) :: ((wsX4_portOrExchange_r1 ++ (wsX4_portOrExchange_r2 ++ (wsX4_portOrExchange_r3 ++ (wsX4_portOrExchange_r4 ++ wsX4_portOrExchange_r5)))) ++ wsX40 ++ wsX50 ++ wsX10 ++ wsX20)
def wsX4_callIf : List Cond := .code yX4_callIf cX4_callIf 3 (some .int) :: ([.fieldLink RX4 51 "DiskMachine$Processor" "pc" "I", .methodLink RX4 133 yX4_nextWord, .instanceMethod yX4_nextWord, .selects RX4 yX4_nextWord yX4_nextWord, .initialized RX4, .code yX4_nextWord cX4_nextWord 2 (some .int), .fieldLink RX4 35 "DiskMachine$Processor" "memory" "LDiskMachine$Store;", .constant RX4 61 (65535), .methodLink RX4 157 yX5_wordAt, .instanceMethod yX5_wordAt, .selects RX5 yX5_wordAt yX5_wordAt, .initialized RX5, .code yX5_wordAt cX5_wordAt 2 (some .int), .fieldLink RX5 11 "DiskMachine$Store" "bytes" "[I", .methodLink RX4 88 yX4_push, .instanceMethod yX4_push, .selects RX4 yX4_push yX4_push, .code yX4_push cX4_push 2 none, .fieldLink RX4 54 "DiskMachine$Processor" "sp" "I", .methodLink RX4 154 yX5_setWord, .instanceMethod yX5_setWord, .selects RX5 yX5_setWord yX5_setWord, .code yX5_setWord cX5_setWord 3 none] ++ wsX40 ++ wsX50)
def wsX4_pushPair_r1 : List Cond := [Cond.fieldLink RX4 27 "DiskMachine$Processor" "registers" "[I", Cond.fieldLink RX4 12 "DiskMachine$Processor" "flags" "LDiskMachine$Flags;", Cond.methodLink RX4 47 yX3_packed, Cond.instanceMethod yX3_packed, Cond.selects RX3 yX3_packed yX3_packed, Cond.initialized RX3, Cond.code yX3_packed cX3_packed 1 (some .int), Cond.fieldLink RX3 7 "DiskMachine$Flags" "sign" "Z", Cond.fieldLink RX3 13 "DiskMachine$Flags" "zero" "Z", Cond.fieldLink RX3 16 "DiskMachine$Flags" "half" "Z", Cond.fieldLink RX3 19 "DiskMachine$Flags" "parity" "Z", Cond.fieldLink RX3 22 "DiskMachine$Flags" "carry" "Z", Cond.methodLink RX4 139 yX4_pair, Cond.instanceMethod yX4_pair, Cond.selects RX4 yX4_pair yX4_pair, Cond.initialized RX4, Cond.code yX4_pair cX4_pair 2 (some .int), Cond.fieldLink RX4 54 "DiskMachine$Processor" "sp" "I", Cond.methodLink RX4 88 yX4_push, Cond.instanceMethod yX4_push, Cond.selects RX4 yX4_push yX4_push, Cond.code yX4_push cX4_push 2 none, Cond.constant RX4 61 (65535), Cond.fieldLink RX4 35 "DiskMachine$Processor" "memory" "LDiskMachine$Store;"]
def wsX4_pushPair_r2 : List Cond := [Cond.methodLink RX4 154 yX5_setWord, Cond.instanceMethod yX5_setWord, Cond.selects RX5 yX5_setWord yX5_setWord, Cond.initialized RX5, Cond.code yX5_setWord cX5_setWord 3 none, Cond.fieldLink RX5 11 "DiskMachine$Store" "bytes" "[I"]
def wsX4_pushPair : List Cond := .code yX4_pushPair cX4_pushPair 2 (some .int) :: ((wsX4_pushPair_r1 ++ wsX4_pushPair_r2) ++ wsX40 ++ wsX30 ++ wsX50)
def wsX4_lastQuarter_r1 : List Cond := [Cond.fieldLink RX4 12 "DiskMachine$Processor" "flags" "LDiskMachine$Flags;", Cond.fieldLink RX4 27 "DiskMachine$Processor" "registers" "[I", Cond.fieldLink RX4 23 "DiskMachine$Processor" "arithmetic" "LDiskMachine$Arithmetic;", Cond.fieldLink RX4 51 "DiskMachine$Processor" "pc" "I", Cond.methodLink RX4 160 yX4_returnIf, Cond.instanceMethod yX4_returnIf, Cond.selects RX4 yX4_returnIf yX4_returnIf, Cond.initialized RX4, Cond.code yX4_returnIf cX4_returnIf 2 (some .int), Cond.methodLink RX4 166 yX3_holds, Cond.instanceMethod yX3_holds, Cond.selects RX3 yX3_holds yX3_holds, Cond.initialized RX3, Cond.code yX3_holds cX3_holds 3 (some .boolean), Cond.fieldLink RX3 13 "DiskMachine$Flags" "zero" "Z", Cond.fieldLink RX3 22 "DiskMachine$Flags" "carry" "Z", Cond.fieldLink RX3 19 "DiskMachine$Flags" "parity" "Z", Cond.fieldLink RX3 7 "DiskMachine$Flags" "sign" "Z", Cond.methodLink RX4 183 yX4_pop, Cond.instanceMethod yX4_pop, Cond.selects RX4 yX4_pop yX4_pop, Cond.code yX4_pop cX4_pop 2 (some .int), Cond.fieldLink RX4 35 "DiskMachine$Processor" "memory" "LDiskMachine$Store;", Cond.fieldLink RX4 54 "DiskMachine$Processor" "sp" "I"]
def wsX4_lastQuarter_r2 : List Cond := [Cond.constant RX4 61 (65535), Cond.methodLink RX4 157 yX5_wordAt, Cond.instanceMethod yX5_wordAt, Cond.selects RX5 yX5_wordAt yX5_wordAt, Cond.initialized RX5, Cond.code yX5_wordAt cX5_wordAt 2 (some .int), Cond.fieldLink RX5 11 "DiskMachine$Store" "bytes" "[I", Cond.methodLink RX4 163 yX4_popOrReturn, Cond.instanceMethod yX4_popOrReturn, Cond.selects RX4 yX4_popOrReturn yX4_popOrReturn, Cond.code yX4_popOrReturn cX4_popOrReturn 2 (some .int), Cond.methodLink RX4 139 yX4_pair, Cond.instanceMethod yX4_pair, Cond.selects RX4 yX4_pair yX4_pair, Cond.code yX4_pair cX4_pair 2 (some .int), Cond.methodLink RX4 186 yX4_popAccumulator, Cond.instanceMethod yX4_popAccumulator, Cond.selects RX4 yX4_popAccumulator yX4_popAccumulator, Cond.code yX4_popAccumulator cX4_popAccumulator 2 (some .int), Cond.methodLink RX4 57 yX3_unpack, Cond.instanceMethod yX3_unpack, Cond.selects RX3 yX3_unpack yX3_unpack, Cond.code yX3_unpack cX3_unpack 2 none, Cond.fieldLink RX3 16 "DiskMachine$Flags" "half" "Z"]
def wsX4_lastQuarter_r3 : List Cond := [Cond.methodLink RX4 136 yX4_setPair, Cond.instanceMethod yX4_setPair, Cond.selects RX4 yX4_setPair yX4_setPair, Cond.code yX4_setPair cX4_setPair 3 none, Cond.methodLink RX4 170 yX4_jumpIf, Cond.instanceMethod yX4_jumpIf, Cond.selects RX4 yX4_jumpIf yX4_jumpIf, Cond.code yX4_jumpIf cX4_jumpIf 3 (some .int), Cond.methodLink RX4 133 yX4_nextWord, Cond.instanceMethod yX4_nextWord, Cond.selects RX4 yX4_nextWord yX4_nextWord, Cond.code yX4_nextWord cX4_nextWord 2 (some .int), Cond.methodLink RX4 174 yX4_portOrExchange, Cond.instanceMethod yX4_portOrExchange, Cond.selects RX4 yX4_portOrExchange yX4_portOrExchange, Cond.code yX4_portOrExchange cX4_portOrExchange 2 (some .int), Cond.fieldLink RX4 66 "DiskMachine$Processor" "interruptsOn" "Z", Cond.fieldLink RX4 73 "DiskMachine$Processor" "justSetOn" "Z", Cond.methodLink RX4 91 yX4_nextByte, Cond.instanceMethod yX4_nextByte, Cond.selects RX4 yX4_nextByte yX4_nextByte, Cond.code yX4_nextByte cX4_nextByte 2 (some .int), Cond.methodLink RX4 151 yX5_byteAt, Cond.instanceMethod yX5_byteAt]
def wsX4_lastQuarter_r4 : List Cond := [Cond.selects RX5 yX5_byteAt yX5_byteAt, Cond.code yX5_byteAt cX5_byteAt 2 (some .int), Cond.methodLink RX4 189 yX4_sendToPort, Cond.instanceMethod yX4_sendToPort, Cond.selects RX4 yX4_sendToPort yX4_sendToPort, Cond.code yX4_sendToPort cX4_sendToPort 3 none, Cond.fieldLink RX4 39 "DiskMachine$Processor" "console" "LDiskMachine$Console;", Cond.fieldLink RX4 43 "DiskMachine$Processor" "controller" "LDiskMachine$Controller;", Cond.methodLink RX4 201 yX1_append, Cond.instanceMethod yX1_append, Cond.selects RX1 yX1_append yX1_append, Cond.initialized RX1, Cond.code yX1_append cX1_append 2 none, Cond.fieldLink RX1 15 "DiskMachine$Console" "output" "[I", Cond.fieldLink RX1 25 "DiskMachine$Console" "outputCount" "I", Cond.methodLink RX4 206 yX2_setSector, Cond.instanceMethod yX2_setSector, Cond.selects RX2 yX2_setSector yX2_setSector, Cond.initialized RX2, Cond.code yX2_setSector cX2_setSector 2 none, Cond.fieldLink RX2 18 "DiskMachine$Controller" "sector" "I", Cond.methodLink RX4 209 yX2_setLowAddress, Cond.instanceMethod yX2_setLowAddress, Cond.selects RX2 yX2_setLowAddress yX2_setLowAddress]
def wsX4_lastQuarter_r5 : List Cond := [Cond.code yX2_setLowAddress cX2_setLowAddress 2 none, Cond.fieldLink RX2 22 "DiskMachine$Controller" "address" "I", Cond.constant RX2 25 (65280), Cond.methodLink RX4 212 yX2_setHighAddress, Cond.instanceMethod yX2_setHighAddress, Cond.selects RX2 yX2_setHighAddress yX2_setHighAddress, Cond.code yX2_setHighAddress cX2_setHighAddress 2 none, Cond.methodLink RX4 215 yX2_setCall, Cond.instanceMethod yX2_setCall, Cond.selects RX2 yX2_setCall yX2_setCall, Cond.code yX2_setCall cX2_setCall 2 none, Cond.fieldLink RX2 26 "DiskMachine$Controller" "call" "I", Cond.methodLink RX4 218 yX2_command, Cond.instanceMethod yX2_command, Cond.selects RX2 yX2_command yX2_command, Cond.code yX2_command cX2_command 3 none, Cond.fieldLink RX2 33 "DiskMachine$Controller" "state" "I", Cond.fieldLink RX2 36 "DiskMachine$Controller" "diskStart" "I", Cond.fieldLink RX2 39 "DiskMachine$Controller" "toDisk" "Z", Cond.fieldLink RX2 43 "DiskMachine$Controller" "moved" "I", Cond.fieldLink RX2 46 "DiskMachine$Controller" "cyclesLeftOver" "I", Cond.fieldLink RX2 49 "DiskMachine$Controller" "commandJustCame" "Z", Cond.methodLink RX2 29 yX2_isBusy, Cond.instanceMethod yX2_isBusy]
def wsX4_lastQuarter_r6 : List Cond := [Cond.selects RX2 yX2_isBusy yX2_isBusy, Cond.code yX2_isBusy cX2_isBusy 1 (some .boolean), Cond.methodLink RX4 192 yX4_takeFromPort, Cond.instanceMethod yX4_takeFromPort, Cond.selects RX4 yX4_takeFromPort yX4_takeFromPort, Cond.code yX4_takeFromPort cX4_takeFromPort 2 (some .int), Cond.methodLink RX4 221 yX1_hasInput, Cond.instanceMethod yX1_hasInput, Cond.selects RX1 yX1_hasInput yX1_hasInput, Cond.code yX1_hasInput cX1_hasInput 1 (some .boolean), Cond.fieldLink RX1 18 "DiskMachine$Console" "inputCount" "I", Cond.methodLink RX4 225 yX1_nextInput, Cond.instanceMethod yX1_nextInput, Cond.selects RX1 yX1_nextInput yX1_nextInput, Cond.code yX1_nextInput cX1_nextInput 2 (some .int), Cond.fieldLink RX1 11 "DiskMachine$Console" "input" "[I", Cond.fieldLink RX1 22 "DiskMachine$Console" "firstInput" "I", Cond.methodLink RX4 228 yX2_takeState, Cond.instanceMethod yX2_takeState, Cond.selects RX2 yX2_takeState yX2_takeState, Cond.code yX2_takeState cX2_takeState 2 (some .int), Cond.methodLink RX4 195 yX4_swapWithStack, Cond.instanceMethod yX4_swapWithStack, Cond.selects RX4 yX4_swapWithStack yX4_swapWithStack]
def wsX4_lastQuarter_r7 : List Cond := [Cond.code yX4_swapWithStack cX4_swapWithStack 2 (some .int), Cond.methodLink RX4 154 yX5_setWord, Cond.instanceMethod yX5_setWord, Cond.selects RX5 yX5_setWord yX5_setWord, Cond.code yX5_setWord cX5_setWord 3 none, Cond.methodLink RX4 198 yX4_swapPairs, Cond.instanceMethod yX4_swapPairs, Cond.selects RX4 yX4_swapPairs yX4_swapPairs, Cond.code yX4_swapPairs cX4_swapPairs 2 (some .int), Cond.methodLink RX4 177 yX4_callIf, Cond.instanceMethod yX4_callIf, Cond.selects RX4 yX4_callIf yX4_callIf, Cond.code yX4_callIf cX4_callIf 3 (some .int), Cond.methodLink RX4 88 yX4_push, Cond.instanceMethod yX4_push, Cond.selects RX4 yX4_push yX4_push, Cond.code yX4_push cX4_push 2 none, Cond.methodLink RX4 180 yX4_pushPair, Cond.instanceMethod yX4_pushPair, Cond.selects RX4 yX4_pushPair yX4_pushPair, Cond.code yX4_pushPair cX4_pushPair 2 (some .int), Cond.methodLink RX4 47 yX3_packed, Cond.instanceMethod yX3_packed, Cond.selects RX3 yX3_packed yX3_packed]
def wsX4_lastQuarter_r8 : List Cond := [Cond.code yX3_packed cX3_packed 1 (some .int), Cond.methodLink RX4 104 yX0_combine, Cond.instanceMethod yX0_combine, Cond.selects RX0 yX0_combine yX0_combine, Cond.initialized RX0, Cond.code yX0_combine cX0_combine 4 (some .int), Cond.fieldLink RX0 9 "DiskMachine$Arithmetic" "flags" "LDiskMachine$Flags;", Cond.methodLink RX0 15 yX0_added, Cond.instanceMethod yX0_added, Cond.selects RX0 yX0_added yX0_added, Cond.code yX0_added cX0_added 5 (some .int), Cond.methodLink RX0 32 yX3_setCarry, Cond.instanceMethod yX3_setCarry, Cond.selects RX3 yX3_setCarry yX3_setCarry, Cond.code yX3_setCarry cX3_setCarry 2 none, Cond.methodLink RX0 36 yX3_setHalf, Cond.instanceMethod yX3_setHalf, Cond.selects RX3 yX3_setHalf yX3_setHalf, Cond.code yX3_setHalf cX3_setHalf 2 none, Cond.methodLink RX0 39 yX3_setLogic, Cond.instanceMethod yX3_setLogic, Cond.selects RX3 yX3_setLogic yX3_setLogic, Cond.code yX3_setLogic cX3_setLogic 2 none, Cond.methodLink RX3 25 yJ6_bitCount_0f7a4]
def wsX4_lastQuarter_r9 : List Cond := [Cond.static yJ6_bitCount_0f7a4, Cond.initialized RJ6, Cond.code yJ6_bitCount_0f7a4 cJ6_bitCount_0f7a4 1 (some .int), Cond.constant RJ6 265 (1431655765), Cond.constant RJ6 266 (858993459), Cond.constant RJ6 267 (252645135), Cond.methodLink RX0 19 yX3_carryBit, Cond.instanceMethod yX3_carryBit, Cond.selects RX3 yX3_carryBit yX3_carryBit, Cond.code yX3_carryBit cX3_carryBit 1 (some .int), Cond.methodLink RX0 25 yX0_subtracted, Cond.instanceMethod yX0_subtracted, Cond.selects RX0 yX0_subtracted yX0_subtracted, Cond.code yX0_subtracted cX0_subtracted 5 (some .int), Cond.methodLink RX0 28 yX0_bitwise, Cond.instanceMethod yX0_bitwise, Cond.selects RX0 yX0_bitwise yX0_bitwise, Cond.code yX0_bitwise cX0_bitwise 3 (some .int)]
def wsX4_lastQuarter : List Cond := .code yX4_lastQuarter cX4_lastQuarter 3 (some .int) :: ((wsX4_lastQuarter_r1 ++ (wsX4_lastQuarter_r2 ++ (wsX4_lastQuarter_r3 ++ (wsX4_lastQuarter_r4 ++ (wsX4_lastQuarter_r5 ++ (wsX4_lastQuarter_r6 ++ (wsX4_lastQuarter_r7 ++ (wsX4_lastQuarter_r8 ++ wsX4_lastQuarter_r9)))))))) ++ wsX40 ++ wsX30 ++ wsX50 ++ wsX10 ++ wsX20 ++ wsX00)
def wsX4_instruction_r1 : List Cond := [Cond.fieldLink RX4 73 "DiskMachine$Processor" "justSetOn" "Z", Cond.fieldLink RX4 27 "DiskMachine$Processor" "registers" "[I", Cond.fieldLink RX4 23 "DiskMachine$Processor" "arithmetic" "LDiskMachine$Arithmetic;", Cond.methodLink RX4 91 yX4_nextByte, Cond.instanceMethod yX4_nextByte, Cond.selects RX4 yX4_nextByte yX4_nextByte, Cond.initialized RX4, Cond.code yX4_nextByte cX4_nextByte 2 (some .int), Cond.fieldLink RX4 35 "DiskMachine$Processor" "memory" "LDiskMachine$Store;", Cond.fieldLink RX4 51 "DiskMachine$Processor" "pc" "I", Cond.constant RX4 61 (65535), Cond.methodLink RX4 151 yX5_byteAt, Cond.instanceMethod yX5_byteAt, Cond.selects RX5 yX5_byteAt yX5_byteAt, Cond.initialized RX5, Cond.code yX5_byteAt cX5_byteAt 2 (some .int), Cond.fieldLink RX5 11 "DiskMachine$Store" "bytes" "[I", Cond.methodLink RX4 94 yX4_firstQuarter, Cond.instanceMethod yX4_firstQuarter, Cond.selects RX4 yX4_firstQuarter yX4_firstQuarter, Cond.code yX4_firstQuarter cX4_firstQuarter 3 (some .int), Cond.methodLink RX4 111 yX4_setOrAddPair, Cond.instanceMethod yX4_setOrAddPair, Cond.selects RX4 yX4_setOrAddPair yX4_setOrAddPair]
def wsX4_instruction_r2 : List Cond := [Cond.code yX4_setOrAddPair cX4_setOrAddPair 4 (some .int), Cond.fieldLink RX4 12 "DiskMachine$Processor" "flags" "LDiskMachine$Flags;", Cond.methodLink RX4 133 yX4_nextWord, Cond.instanceMethod yX4_nextWord, Cond.selects RX4 yX4_nextWord yX4_nextWord, Cond.code yX4_nextWord cX4_nextWord 2 (some .int), Cond.methodLink RX4 157 yX5_wordAt, Cond.instanceMethod yX5_wordAt, Cond.selects RX5 yX5_wordAt yX5_wordAt, Cond.code yX5_wordAt cX5_wordAt 2 (some .int), Cond.methodLink RX4 136 yX4_setPair, Cond.instanceMethod yX4_setPair, Cond.selects RX4 yX4_setPair yX4_setPair, Cond.code yX4_setPair cX4_setPair 3 none, Cond.fieldLink RX4 54 "DiskMachine$Processor" "sp" "I", Cond.methodLink RX4 139 yX4_pair, Cond.instanceMethod yX4_pair, Cond.selects RX4 yX4_pair yX4_pair, Cond.code yX4_pair cX4_pair 2 (some .int), Cond.methodLink RX4 142 yX3_setCarry, Cond.instanceMethod yX3_setCarry, Cond.selects RX3 yX3_setCarry yX3_setCarry, Cond.initialized RX3, Cond.code yX3_setCarry cX3_setCarry 2 none]
def wsX4_instruction_r3 : List Cond := [Cond.fieldLink RX3 22 "DiskMachine$Flags" "carry" "Z", Cond.methodLink RX4 114 yX4_moveByAddress, Cond.instanceMethod yX4_moveByAddress, Cond.selects RX4 yX4_moveByAddress yX4_moveByAddress, Cond.code yX4_moveByAddress cX4_moveByAddress 2 (some .int), Cond.methodLink RX4 146 yX5_setByte, Cond.instanceMethod yX5_setByte, Cond.selects RX5 yX5_setByte yX5_setByte, Cond.code yX5_setByte cX5_setByte 3 none, Cond.methodLink RX4 154 yX5_setWord, Cond.instanceMethod yX5_setWord, Cond.selects RX5 yX5_setWord yX5_setWord, Cond.code yX5_setWord cX5_setWord 3 none, Cond.methodLink RX4 117 yX4_stepPair, Cond.instanceMethod yX4_stepPair, Cond.selects RX4 yX4_stepPair yX4_stepPair, Cond.code yX4_stepPair cX4_stepPair 3 (some .int), Cond.methodLink RX4 101 yX4_value, Cond.instanceMethod yX4_value, Cond.selects RX4 yX4_value yX4_value, Cond.code yX4_value cX4_value 2 (some .int), Cond.methodLink RX4 120 yX0_oneMore, Cond.instanceMethod yX0_oneMore, Cond.selects RX0 yX0_oneMore yX0_oneMore]
def wsX4_instruction_r4 : List Cond := [Cond.initialized RX0, Cond.code yX0_oneMore cX0_oneMore 3 (some .int), Cond.fieldLink RX0 9 "DiskMachine$Arithmetic" "flags" "LDiskMachine$Flags;", Cond.methodLink RX0 36 yX3_setHalf, Cond.instanceMethod yX3_setHalf, Cond.selects RX3 yX3_setHalf yX3_setHalf, Cond.code yX3_setHalf cX3_setHalf 2 none, Cond.fieldLink RX3 16 "DiskMachine$Flags" "half" "Z", Cond.methodLink RX0 39 yX3_setLogic, Cond.instanceMethod yX3_setLogic, Cond.selects RX3 yX3_setLogic yX3_setLogic, Cond.code yX3_setLogic cX3_setLogic 2 none, Cond.fieldLink RX3 7 "DiskMachine$Flags" "sign" "Z", Cond.fieldLink RX3 13 "DiskMachine$Flags" "zero" "Z", Cond.fieldLink RX3 19 "DiskMachine$Flags" "parity" "Z", Cond.methodLink RX3 25 yJ6_bitCount_0f7a4, Cond.static yJ6_bitCount_0f7a4, Cond.initialized RJ6, Cond.code yJ6_bitCount_0f7a4 cJ6_bitCount_0f7a4 1 (some .int), Cond.constant RJ6 265 (1431655765), Cond.constant RJ6 266 (858993459), Cond.constant RJ6 267 (252645135), Cond.methodLink RX4 123 yX4_setValue, Cond.instanceMethod yX4_setValue]
def wsX4_instruction_r5 : List Cond := [Cond.selects RX4 yX4_setValue yX4_setValue, Cond.code yX4_setValue cX4_setValue 3 none, Cond.methodLink RX4 127 yX0_oneLess, Cond.instanceMethod yX0_oneLess, Cond.selects RX0 yX0_oneLess yX0_oneLess, Cond.code yX0_oneLess cX0_oneLess 3 (some .int), Cond.methodLink RX4 130 yX0_adjust, Cond.instanceMethod yX0_adjust, Cond.selects RX0 yX0_adjust yX0_adjust, Cond.code yX0_adjust cX0_adjust 3 (some .int), Cond.methodLink RX0 43 yX0_turnLeft, Cond.instanceMethod yX0_turnLeft, Cond.selects RX0 yX0_turnLeft yX0_turnLeft, Cond.code yX0_turnLeft cX0_turnLeft 3 (some .int), Cond.methodLink RX0 32 yX3_setCarry, Cond.methodLink RX0 47 yX0_turnRight, Cond.instanceMethod yX0_turnRight, Cond.selects RX0 yX0_turnRight yX0_turnRight, Cond.code yX0_turnRight cX0_turnRight 3 (some .int), Cond.methodLink RX0 19 yX3_carryBit, Cond.instanceMethod yX3_carryBit, Cond.selects RX3 yX3_carryBit yX3_carryBit, Cond.code yX3_carryBit cX3_carryBit 1 (some .int), Cond.methodLink RX0 50 yX0_toDecimal]
def wsX4_instruction_r6 : List Cond := [Cond.instanceMethod yX0_toDecimal, Cond.selects RX0 yX0_toDecimal yX0_toDecimal, Cond.code yX0_toDecimal cX0_toDecimal 7 (some .int), Cond.methodLink RX0 58 yX3_hasHalf, Cond.instanceMethod yX3_hasHalf, Cond.selects RX3 yX3_hasHalf yX3_hasHalf, Cond.code yX3_hasHalf cX3_hasHalf 1 (some .boolean), Cond.methodLink RX0 54 yX3_hasCarry, Cond.instanceMethod yX3_hasCarry, Cond.selects RX3 yX3_hasCarry yX3_hasCarry, Cond.code yX3_hasCarry cX3_hasCarry 1 (some .boolean), Cond.methodLink RX4 98 yX4_transfer, Cond.instanceMethod yX4_transfer, Cond.selects RX4 yX4_transfer yX4_transfer, Cond.code yX4_transfer cX4_transfer 3 (some .int), Cond.fieldLink RX4 62 "DiskMachine$Processor" "halted" "Z", Cond.methodLink RX4 104 yX0_combine, Cond.instanceMethod yX0_combine, Cond.selects RX0 yX0_combine yX0_combine, Cond.code yX0_combine cX0_combine 4 (some .int), Cond.methodLink RX0 15 yX0_added, Cond.instanceMethod yX0_added, Cond.selects RX0 yX0_added yX0_added, Cond.code yX0_added cX0_added 5 (some .int)]
def wsX4_instruction_r7 : List Cond := [Cond.methodLink RX0 25 yX0_subtracted, Cond.instanceMethod yX0_subtracted, Cond.selects RX0 yX0_subtracted yX0_subtracted, Cond.code yX0_subtracted cX0_subtracted 5 (some .int), Cond.methodLink RX0 28 yX0_bitwise, Cond.instanceMethod yX0_bitwise, Cond.selects RX0 yX0_bitwise yX0_bitwise, Cond.code yX0_bitwise cX0_bitwise 3 (some .int), Cond.methodLink RX4 108 yX4_lastQuarter, Cond.instanceMethod yX4_lastQuarter, Cond.selects RX4 yX4_lastQuarter yX4_lastQuarter, Cond.code yX4_lastQuarter cX4_lastQuarter 3 (some .int), Cond.methodLink RX4 160 yX4_returnIf, Cond.instanceMethod yX4_returnIf, Cond.selects RX4 yX4_returnIf yX4_returnIf, Cond.code yX4_returnIf cX4_returnIf 2 (some .int), Cond.methodLink RX4 166 yX3_holds, Cond.instanceMethod yX3_holds, Cond.selects RX3 yX3_holds yX3_holds, Cond.code yX3_holds cX3_holds 3 (some .boolean), Cond.methodLink RX4 183 yX4_pop, Cond.instanceMethod yX4_pop, Cond.selects RX4 yX4_pop yX4_pop, Cond.code yX4_pop cX4_pop 2 (some .int)]
def wsX4_instruction_r8 : List Cond := [Cond.methodLink RX4 163 yX4_popOrReturn, Cond.instanceMethod yX4_popOrReturn, Cond.selects RX4 yX4_popOrReturn yX4_popOrReturn, Cond.code yX4_popOrReturn cX4_popOrReturn 2 (some .int), Cond.methodLink RX4 186 yX4_popAccumulator, Cond.instanceMethod yX4_popAccumulator, Cond.selects RX4 yX4_popAccumulator yX4_popAccumulator, Cond.code yX4_popAccumulator cX4_popAccumulator 2 (some .int), Cond.methodLink RX4 57 yX3_unpack, Cond.instanceMethod yX3_unpack, Cond.selects RX3 yX3_unpack yX3_unpack, Cond.code yX3_unpack cX3_unpack 2 none, Cond.methodLink RX4 170 yX4_jumpIf, Cond.instanceMethod yX4_jumpIf, Cond.selects RX4 yX4_jumpIf yX4_jumpIf, Cond.code yX4_jumpIf cX4_jumpIf 3 (some .int), Cond.methodLink RX4 174 yX4_portOrExchange, Cond.instanceMethod yX4_portOrExchange, Cond.selects RX4 yX4_portOrExchange yX4_portOrExchange, Cond.code yX4_portOrExchange cX4_portOrExchange 2 (some .int), Cond.fieldLink RX4 66 "DiskMachine$Processor" "interruptsOn" "Z", Cond.methodLink RX4 189 yX4_sendToPort, Cond.instanceMethod yX4_sendToPort, Cond.selects RX4 yX4_sendToPort yX4_sendToPort]
def wsX4_instruction_r9 : List Cond := [Cond.code yX4_sendToPort cX4_sendToPort 3 none, Cond.fieldLink RX4 39 "DiskMachine$Processor" "console" "LDiskMachine$Console;", Cond.fieldLink RX4 43 "DiskMachine$Processor" "controller" "LDiskMachine$Controller;", Cond.methodLink RX4 201 yX1_append, Cond.instanceMethod yX1_append, Cond.selects RX1 yX1_append yX1_append, Cond.initialized RX1, Cond.code yX1_append cX1_append 2 none, Cond.fieldLink RX1 15 "DiskMachine$Console" "output" "[I", Cond.fieldLink RX1 25 "DiskMachine$Console" "outputCount" "I", Cond.methodLink RX4 206 yX2_setSector, Cond.instanceMethod yX2_setSector, Cond.selects RX2 yX2_setSector yX2_setSector, Cond.initialized RX2, Cond.code yX2_setSector cX2_setSector 2 none, Cond.fieldLink RX2 18 "DiskMachine$Controller" "sector" "I", Cond.methodLink RX4 209 yX2_setLowAddress, Cond.instanceMethod yX2_setLowAddress, Cond.selects RX2 yX2_setLowAddress yX2_setLowAddress, Cond.code yX2_setLowAddress cX2_setLowAddress 2 none, Cond.fieldLink RX2 22 "DiskMachine$Controller" "address" "I", Cond.constant RX2 25 (65280), Cond.methodLink RX4 212 yX2_setHighAddress, Cond.instanceMethod yX2_setHighAddress]
def wsX4_instruction_r10 : List Cond := [Cond.selects RX2 yX2_setHighAddress yX2_setHighAddress, Cond.code yX2_setHighAddress cX2_setHighAddress 2 none, Cond.methodLink RX4 215 yX2_setCall, Cond.instanceMethod yX2_setCall, Cond.selects RX2 yX2_setCall yX2_setCall, Cond.code yX2_setCall cX2_setCall 2 none, Cond.fieldLink RX2 26 "DiskMachine$Controller" "call" "I", Cond.methodLink RX4 218 yX2_command, Cond.instanceMethod yX2_command, Cond.selects RX2 yX2_command yX2_command, Cond.code yX2_command cX2_command 3 none, Cond.fieldLink RX2 33 "DiskMachine$Controller" "state" "I", Cond.fieldLink RX2 36 "DiskMachine$Controller" "diskStart" "I", Cond.fieldLink RX2 39 "DiskMachine$Controller" "toDisk" "Z", Cond.fieldLink RX2 43 "DiskMachine$Controller" "moved" "I", Cond.fieldLink RX2 46 "DiskMachine$Controller" "cyclesLeftOver" "I", Cond.fieldLink RX2 49 "DiskMachine$Controller" "commandJustCame" "Z", Cond.methodLink RX2 29 yX2_isBusy, Cond.instanceMethod yX2_isBusy, Cond.selects RX2 yX2_isBusy yX2_isBusy, Cond.code yX2_isBusy cX2_isBusy 1 (some .boolean), Cond.methodLink RX4 192 yX4_takeFromPort, Cond.instanceMethod yX4_takeFromPort, Cond.selects RX4 yX4_takeFromPort yX4_takeFromPort]
def wsX4_instruction_r11 : List Cond := [Cond.code yX4_takeFromPort cX4_takeFromPort 2 (some .int), Cond.methodLink RX4 221 yX1_hasInput, Cond.instanceMethod yX1_hasInput, Cond.selects RX1 yX1_hasInput yX1_hasInput, Cond.code yX1_hasInput cX1_hasInput 1 (some .boolean), Cond.fieldLink RX1 18 "DiskMachine$Console" "inputCount" "I", Cond.methodLink RX4 225 yX1_nextInput, Cond.instanceMethod yX1_nextInput, Cond.selects RX1 yX1_nextInput yX1_nextInput, Cond.code yX1_nextInput cX1_nextInput 2 (some .int), Cond.fieldLink RX1 11 "DiskMachine$Console" "input" "[I", Cond.fieldLink RX1 22 "DiskMachine$Console" "firstInput" "I", Cond.methodLink RX4 228 yX2_takeState, Cond.instanceMethod yX2_takeState, Cond.selects RX2 yX2_takeState yX2_takeState, Cond.code yX2_takeState cX2_takeState 2 (some .int), Cond.methodLink RX4 195 yX4_swapWithStack, Cond.instanceMethod yX4_swapWithStack, Cond.selects RX4 yX4_swapWithStack yX4_swapWithStack, Cond.code yX4_swapWithStack cX4_swapWithStack 2 (some .int), Cond.methodLink RX4 198 yX4_swapPairs, Cond.instanceMethod yX4_swapPairs, Cond.selects RX4 yX4_swapPairs yX4_swapPairs, Cond.code yX4_swapPairs cX4_swapPairs 2 (some .int)]
def wsX4_instruction_r12 : List Cond := [Cond.methodLink RX4 177 yX4_callIf, Cond.instanceMethod yX4_callIf, Cond.selects RX4 yX4_callIf yX4_callIf, Cond.code yX4_callIf cX4_callIf 3 (some .int), Cond.methodLink RX4 88 yX4_push, Cond.instanceMethod yX4_push, Cond.selects RX4 yX4_push yX4_push, Cond.code yX4_push cX4_push 2 none, Cond.methodLink RX4 180 yX4_pushPair, Cond.instanceMethod yX4_pushPair, Cond.selects RX4 yX4_pushPair yX4_pushPair, Cond.code yX4_pushPair cX4_pushPair 2 (some .int), Cond.methodLink RX4 47 yX3_packed, Cond.instanceMethod yX3_packed, Cond.selects RX3 yX3_packed yX3_packed, Cond.code yX3_packed cX3_packed 1 (some .int)]
def wsX4_instruction : List Cond := .code yX4_instruction cX4_instruction 4 (some .int) :: ((wsX4_instruction_r1 ++ (wsX4_instruction_r2 ++ (wsX4_instruction_r3 ++ (wsX4_instruction_r4 ++ (wsX4_instruction_r5 ++ (wsX4_instruction_r6 ++ (wsX4_instruction_r7 ++ (wsX4_instruction_r8 ++ (wsX4_instruction_r9 ++ (wsX4_instruction_r10 ++ (wsX4_instruction_r11 ++ wsX4_instruction_r12))))))))))) ++ wsX40 ++ wsX50 ++ wsX30 ++ wsX00 ++ wsX10 ++ wsX20)
def wsX4_turn_r1 : List Cond := [Cond.fieldLink RX4 31 "DiskMachine$Processor" "wanted" "I", Cond.fieldLink RX4 66 "DiskMachine$Processor" "interruptsOn" "Z", Cond.fieldLink RX4 73 "DiskMachine$Processor" "justSetOn" "Z", Cond.fieldLink RX4 62 "DiskMachine$Processor" "halted" "Z", Cond.fieldLink RX4 69 "DiskMachine$Processor" "cyclesDone" "J", Cond.fieldLink RX4 43 "DiskMachine$Processor" "controller" "LDiskMachine$Controller;", Cond.methodLink RX4 76 yX4_answerInterrupt, Cond.instanceMethod yX4_answerInterrupt, Cond.selects RX4 yX4_answerInterrupt yX4_answerInterrupt, Cond.initialized RX4, Cond.code yX4_answerInterrupt cX4_answerInterrupt 2 (some .int), Cond.fieldLink RX4 51 "DiskMachine$Processor" "pc" "I", Cond.methodLink RX4 88 yX4_push, Cond.instanceMethod yX4_push, Cond.selects RX4 yX4_push yX4_push, Cond.code yX4_push cX4_push 2 none, Cond.fieldLink RX4 54 "DiskMachine$Processor" "sp" "I", Cond.constant RX4 61 (65535), Cond.fieldLink RX4 35 "DiskMachine$Processor" "memory" "LDiskMachine$Store;", Cond.methodLink RX4 154 yX5_setWord, Cond.instanceMethod yX5_setWord, Cond.selects RX5 yX5_setWord yX5_setWord, Cond.initialized RX5, Cond.code yX5_setWord cX5_setWord 3 none]
def wsX4_turn_r2 : List Cond := [Cond.fieldLink RX5 11 "DiskMachine$Store" "bytes" "[I", Cond.methodLink RX4 79 yX4_instruction, Cond.instanceMethod yX4_instruction, Cond.selects RX4 yX4_instruction yX4_instruction, Cond.code yX4_instruction cX4_instruction 4 (some .int), Cond.fieldLink RX4 27 "DiskMachine$Processor" "registers" "[I", Cond.fieldLink RX4 23 "DiskMachine$Processor" "arithmetic" "LDiskMachine$Arithmetic;", Cond.methodLink RX4 91 yX4_nextByte, Cond.instanceMethod yX4_nextByte, Cond.selects RX4 yX4_nextByte yX4_nextByte, Cond.code yX4_nextByte cX4_nextByte 2 (some .int), Cond.methodLink RX4 151 yX5_byteAt, Cond.instanceMethod yX5_byteAt, Cond.selects RX5 yX5_byteAt yX5_byteAt, Cond.code yX5_byteAt cX5_byteAt 2 (some .int), Cond.methodLink RX4 94 yX4_firstQuarter, Cond.instanceMethod yX4_firstQuarter, Cond.selects RX4 yX4_firstQuarter yX4_firstQuarter, Cond.code yX4_firstQuarter cX4_firstQuarter 3 (some .int), Cond.methodLink RX4 111 yX4_setOrAddPair, Cond.instanceMethod yX4_setOrAddPair, Cond.selects RX4 yX4_setOrAddPair yX4_setOrAddPair, Cond.code yX4_setOrAddPair cX4_setOrAddPair 4 (some .int), Cond.fieldLink RX4 12 "DiskMachine$Processor" "flags" "LDiskMachine$Flags;"]
def wsX4_turn_r3 : List Cond := [Cond.methodLink RX4 133 yX4_nextWord, Cond.instanceMethod yX4_nextWord, Cond.selects RX4 yX4_nextWord yX4_nextWord, Cond.code yX4_nextWord cX4_nextWord 2 (some .int), Cond.methodLink RX4 157 yX5_wordAt, Cond.instanceMethod yX5_wordAt, Cond.selects RX5 yX5_wordAt yX5_wordAt, Cond.code yX5_wordAt cX5_wordAt 2 (some .int), Cond.methodLink RX4 136 yX4_setPair, Cond.instanceMethod yX4_setPair, Cond.selects RX4 yX4_setPair yX4_setPair, Cond.code yX4_setPair cX4_setPair 3 none, Cond.methodLink RX4 139 yX4_pair, Cond.instanceMethod yX4_pair, Cond.selects RX4 yX4_pair yX4_pair, Cond.code yX4_pair cX4_pair 2 (some .int), Cond.methodLink RX4 142 yX3_setCarry, Cond.instanceMethod yX3_setCarry, Cond.selects RX3 yX3_setCarry yX3_setCarry, Cond.initialized RX3, Cond.code yX3_setCarry cX3_setCarry 2 none, Cond.fieldLink RX3 22 "DiskMachine$Flags" "carry" "Z", Cond.methodLink RX4 114 yX4_moveByAddress, Cond.instanceMethod yX4_moveByAddress]
def wsX4_turn_r4 : List Cond := [Cond.selects RX4 yX4_moveByAddress yX4_moveByAddress, Cond.code yX4_moveByAddress cX4_moveByAddress 2 (some .int), Cond.methodLink RX4 146 yX5_setByte, Cond.instanceMethod yX5_setByte, Cond.selects RX5 yX5_setByte yX5_setByte, Cond.code yX5_setByte cX5_setByte 3 none, Cond.methodLink RX4 117 yX4_stepPair, Cond.instanceMethod yX4_stepPair, Cond.selects RX4 yX4_stepPair yX4_stepPair, Cond.code yX4_stepPair cX4_stepPair 3 (some .int), Cond.methodLink RX4 101 yX4_value, Cond.instanceMethod yX4_value, Cond.selects RX4 yX4_value yX4_value, Cond.code yX4_value cX4_value 2 (some .int), Cond.methodLink RX4 120 yX0_oneMore, Cond.instanceMethod yX0_oneMore, Cond.selects RX0 yX0_oneMore yX0_oneMore, Cond.initialized RX0, Cond.code yX0_oneMore cX0_oneMore 3 (some .int), Cond.fieldLink RX0 9 "DiskMachine$Arithmetic" "flags" "LDiskMachine$Flags;", Cond.methodLink RX0 36 yX3_setHalf, Cond.instanceMethod yX3_setHalf, Cond.selects RX3 yX3_setHalf yX3_setHalf, Cond.code yX3_setHalf cX3_setHalf 2 none]
def wsX4_turn_r5 : List Cond := [Cond.fieldLink RX3 16 "DiskMachine$Flags" "half" "Z", Cond.methodLink RX0 39 yX3_setLogic, Cond.instanceMethod yX3_setLogic, Cond.selects RX3 yX3_setLogic yX3_setLogic, Cond.code yX3_setLogic cX3_setLogic 2 none, Cond.fieldLink RX3 7 "DiskMachine$Flags" "sign" "Z", Cond.fieldLink RX3 13 "DiskMachine$Flags" "zero" "Z", Cond.fieldLink RX3 19 "DiskMachine$Flags" "parity" "Z", Cond.methodLink RX3 25 yJ6_bitCount_0f7a4, Cond.static yJ6_bitCount_0f7a4, Cond.initialized RJ6, Cond.code yJ6_bitCount_0f7a4 cJ6_bitCount_0f7a4 1 (some .int), Cond.constant RJ6 265 (1431655765), Cond.constant RJ6 266 (858993459), Cond.constant RJ6 267 (252645135), Cond.methodLink RX4 123 yX4_setValue, Cond.instanceMethod yX4_setValue, Cond.selects RX4 yX4_setValue yX4_setValue, Cond.code yX4_setValue cX4_setValue 3 none, Cond.methodLink RX4 127 yX0_oneLess, Cond.instanceMethod yX0_oneLess, Cond.selects RX0 yX0_oneLess yX0_oneLess, Cond.code yX0_oneLess cX0_oneLess 3 (some .int), Cond.methodLink RX4 130 yX0_adjust]
def wsX4_turn_r6 : List Cond := [Cond.instanceMethod yX0_adjust, Cond.selects RX0 yX0_adjust yX0_adjust, Cond.code yX0_adjust cX0_adjust 3 (some .int), Cond.methodLink RX0 43 yX0_turnLeft, Cond.instanceMethod yX0_turnLeft, Cond.selects RX0 yX0_turnLeft yX0_turnLeft, Cond.code yX0_turnLeft cX0_turnLeft 3 (some .int), Cond.methodLink RX0 32 yX3_setCarry, Cond.methodLink RX0 47 yX0_turnRight, Cond.instanceMethod yX0_turnRight, Cond.selects RX0 yX0_turnRight yX0_turnRight, Cond.code yX0_turnRight cX0_turnRight 3 (some .int), Cond.methodLink RX0 19 yX3_carryBit, Cond.instanceMethod yX3_carryBit, Cond.selects RX3 yX3_carryBit yX3_carryBit, Cond.code yX3_carryBit cX3_carryBit 1 (some .int), Cond.methodLink RX0 50 yX0_toDecimal, Cond.instanceMethod yX0_toDecimal, Cond.selects RX0 yX0_toDecimal yX0_toDecimal, Cond.code yX0_toDecimal cX0_toDecimal 7 (some .int), Cond.methodLink RX0 58 yX3_hasHalf, Cond.instanceMethod yX3_hasHalf, Cond.selects RX3 yX3_hasHalf yX3_hasHalf, Cond.code yX3_hasHalf cX3_hasHalf 1 (some .boolean)]
def wsX4_turn_r7 : List Cond := [Cond.methodLink RX0 54 yX3_hasCarry, Cond.instanceMethod yX3_hasCarry, Cond.selects RX3 yX3_hasCarry yX3_hasCarry, Cond.code yX3_hasCarry cX3_hasCarry 1 (some .boolean), Cond.methodLink RX4 98 yX4_transfer, Cond.instanceMethod yX4_transfer, Cond.selects RX4 yX4_transfer yX4_transfer, Cond.code yX4_transfer cX4_transfer 3 (some .int), Cond.methodLink RX4 104 yX0_combine, Cond.instanceMethod yX0_combine, Cond.selects RX0 yX0_combine yX0_combine, Cond.code yX0_combine cX0_combine 4 (some .int), Cond.methodLink RX0 15 yX0_added, Cond.instanceMethod yX0_added, Cond.selects RX0 yX0_added yX0_added, Cond.code yX0_added cX0_added 5 (some .int), Cond.methodLink RX0 25 yX0_subtracted, Cond.instanceMethod yX0_subtracted, Cond.selects RX0 yX0_subtracted yX0_subtracted, Cond.code yX0_subtracted cX0_subtracted 5 (some .int), Cond.methodLink RX0 28 yX0_bitwise, Cond.instanceMethod yX0_bitwise, Cond.selects RX0 yX0_bitwise yX0_bitwise, Cond.code yX0_bitwise cX0_bitwise 3 (some .int)]
def wsX4_turn_r8 : List Cond := [Cond.methodLink RX4 108 yX4_lastQuarter, Cond.instanceMethod yX4_lastQuarter, Cond.selects RX4 yX4_lastQuarter yX4_lastQuarter, Cond.code yX4_lastQuarter cX4_lastQuarter 3 (some .int), Cond.methodLink RX4 160 yX4_returnIf, Cond.instanceMethod yX4_returnIf, Cond.selects RX4 yX4_returnIf yX4_returnIf, Cond.code yX4_returnIf cX4_returnIf 2 (some .int), Cond.methodLink RX4 166 yX3_holds, Cond.instanceMethod yX3_holds, Cond.selects RX3 yX3_holds yX3_holds, Cond.code yX3_holds cX3_holds 3 (some .boolean), Cond.methodLink RX4 183 yX4_pop, Cond.instanceMethod yX4_pop, Cond.selects RX4 yX4_pop yX4_pop, Cond.code yX4_pop cX4_pop 2 (some .int), Cond.methodLink RX4 163 yX4_popOrReturn, Cond.instanceMethod yX4_popOrReturn, Cond.selects RX4 yX4_popOrReturn yX4_popOrReturn, Cond.code yX4_popOrReturn cX4_popOrReturn 2 (some .int), Cond.methodLink RX4 186 yX4_popAccumulator, Cond.instanceMethod yX4_popAccumulator, Cond.selects RX4 yX4_popAccumulator yX4_popAccumulator, Cond.code yX4_popAccumulator cX4_popAccumulator 2 (some .int)]
def wsX4_turn_r9 : List Cond := [Cond.methodLink RX4 57 yX3_unpack, Cond.instanceMethod yX3_unpack, Cond.selects RX3 yX3_unpack yX3_unpack, Cond.code yX3_unpack cX3_unpack 2 none, Cond.methodLink RX4 170 yX4_jumpIf, Cond.instanceMethod yX4_jumpIf, Cond.selects RX4 yX4_jumpIf yX4_jumpIf, Cond.code yX4_jumpIf cX4_jumpIf 3 (some .int), Cond.methodLink RX4 174 yX4_portOrExchange, Cond.instanceMethod yX4_portOrExchange, Cond.selects RX4 yX4_portOrExchange yX4_portOrExchange, Cond.code yX4_portOrExchange cX4_portOrExchange 2 (some .int), Cond.methodLink RX4 189 yX4_sendToPort, Cond.instanceMethod yX4_sendToPort, Cond.selects RX4 yX4_sendToPort yX4_sendToPort, Cond.code yX4_sendToPort cX4_sendToPort 3 none, Cond.fieldLink RX4 39 "DiskMachine$Processor" "console" "LDiskMachine$Console;", Cond.methodLink RX4 201 yX1_append, Cond.instanceMethod yX1_append, Cond.selects RX1 yX1_append yX1_append, Cond.initialized RX1, Cond.code yX1_append cX1_append 2 none, Cond.fieldLink RX1 15 "DiskMachine$Console" "output" "[I", Cond.fieldLink RX1 25 "DiskMachine$Console" "outputCount" "I"]
def wsX4_turn_r10 : List Cond := [Cond.methodLink RX4 206 yX2_setSector, Cond.instanceMethod yX2_setSector, Cond.selects RX2 yX2_setSector yX2_setSector, Cond.initialized RX2, Cond.code yX2_setSector cX2_setSector 2 none, Cond.fieldLink RX2 18 "DiskMachine$Controller" "sector" "I", Cond.methodLink RX4 209 yX2_setLowAddress, Cond.instanceMethod yX2_setLowAddress, Cond.selects RX2 yX2_setLowAddress yX2_setLowAddress, Cond.code yX2_setLowAddress cX2_setLowAddress 2 none, Cond.fieldLink RX2 22 "DiskMachine$Controller" "address" "I", Cond.constant RX2 25 (65280), Cond.methodLink RX4 212 yX2_setHighAddress, Cond.instanceMethod yX2_setHighAddress, Cond.selects RX2 yX2_setHighAddress yX2_setHighAddress, Cond.code yX2_setHighAddress cX2_setHighAddress 2 none, Cond.methodLink RX4 215 yX2_setCall, Cond.instanceMethod yX2_setCall, Cond.selects RX2 yX2_setCall yX2_setCall, Cond.code yX2_setCall cX2_setCall 2 none, Cond.fieldLink RX2 26 "DiskMachine$Controller" "call" "I", Cond.methodLink RX4 218 yX2_command, Cond.instanceMethod yX2_command, Cond.selects RX2 yX2_command yX2_command]
def wsX4_turn_r11 : List Cond := [Cond.code yX2_command cX2_command 3 none, Cond.fieldLink RX2 33 "DiskMachine$Controller" "state" "I", Cond.fieldLink RX2 36 "DiskMachine$Controller" "diskStart" "I", Cond.fieldLink RX2 39 "DiskMachine$Controller" "toDisk" "Z", Cond.fieldLink RX2 43 "DiskMachine$Controller" "moved" "I", Cond.fieldLink RX2 46 "DiskMachine$Controller" "cyclesLeftOver" "I", Cond.fieldLink RX2 49 "DiskMachine$Controller" "commandJustCame" "Z", Cond.methodLink RX2 29 yX2_isBusy, Cond.instanceMethod yX2_isBusy, Cond.selects RX2 yX2_isBusy yX2_isBusy, Cond.code yX2_isBusy cX2_isBusy 1 (some .boolean), Cond.methodLink RX4 192 yX4_takeFromPort, Cond.instanceMethod yX4_takeFromPort, Cond.selects RX4 yX4_takeFromPort yX4_takeFromPort, Cond.code yX4_takeFromPort cX4_takeFromPort 2 (some .int), Cond.methodLink RX4 221 yX1_hasInput, Cond.instanceMethod yX1_hasInput, Cond.selects RX1 yX1_hasInput yX1_hasInput, Cond.code yX1_hasInput cX1_hasInput 1 (some .boolean), Cond.fieldLink RX1 18 "DiskMachine$Console" "inputCount" "I", Cond.methodLink RX4 225 yX1_nextInput, Cond.instanceMethod yX1_nextInput, Cond.selects RX1 yX1_nextInput yX1_nextInput, Cond.code yX1_nextInput cX1_nextInput 2 (some .int)]
def wsX4_turn_r12 : List Cond := [Cond.fieldLink RX1 11 "DiskMachine$Console" "input" "[I", Cond.fieldLink RX1 22 "DiskMachine$Console" "firstInput" "I", Cond.methodLink RX4 228 yX2_takeState, Cond.instanceMethod yX2_takeState, Cond.selects RX2 yX2_takeState yX2_takeState, Cond.code yX2_takeState cX2_takeState 2 (some .int), Cond.methodLink RX4 195 yX4_swapWithStack, Cond.instanceMethod yX4_swapWithStack, Cond.selects RX4 yX4_swapWithStack yX4_swapWithStack, Cond.code yX4_swapWithStack cX4_swapWithStack 2 (some .int), Cond.methodLink RX4 198 yX4_swapPairs, Cond.instanceMethod yX4_swapPairs, Cond.selects RX4 yX4_swapPairs yX4_swapPairs, Cond.code yX4_swapPairs cX4_swapPairs 2 (some .int), Cond.methodLink RX4 177 yX4_callIf, Cond.instanceMethod yX4_callIf, Cond.selects RX4 yX4_callIf yX4_callIf, Cond.code yX4_callIf cX4_callIf 3 (some .int), Cond.methodLink RX4 180 yX4_pushPair, Cond.instanceMethod yX4_pushPair, Cond.selects RX4 yX4_pushPair yX4_pushPair, Cond.code yX4_pushPair cX4_pushPair 2 (some .int), Cond.methodLink RX4 47 yX3_packed, Cond.instanceMethod yX3_packed]
def wsX4_turn_r13 : List Cond := [Cond.selects RX3 yX3_packed yX3_packed, Cond.code yX3_packed cX3_packed 1 (some .int), Cond.methodLink RX4 82 yX2_letPass, Cond.instanceMethod yX2_letPass, Cond.selects RX2 yX2_letPass yX2_letPass, Cond.code yX2_letPass cX2_letPass 4 (some .int), Cond.methodLink RX2 52 yX2_moveByte, Cond.instanceMethod yX2_moveByte, Cond.selects RX2 yX2_moveByte yX2_moveByte, Cond.code yX2_moveByte cX2_moveByte 2 none, Cond.fieldLink RX2 15 "DiskMachine$Controller" "disk" "LDiskMachine$Store;", Cond.fieldLink RX2 9 "DiskMachine$Controller" "memory" "LDiskMachine$Store;", Cond.constant RX2 69 (65535), Cond.methodLink RX2 59 yX5_byteAt, Cond.methodLink RX2 65 yX5_setByte, Cond.methodLink RX2 55 yX2_finish, Cond.instanceMethod yX2_finish, Cond.selects RX2 yX2_finish yX2_finish, Cond.code yX2_finish cX2_finish 1 (some .int)]
def wsX4_turn : List Cond := .code yX4_turn cX4_turn 3 (some .int) :: ((wsX4_turn_r1 ++ (wsX4_turn_r2 ++ (wsX4_turn_r3 ++ (wsX4_turn_r4 ++ (wsX4_turn_r5 ++ (wsX4_turn_r6 ++ (wsX4_turn_r7 ++ (wsX4_turn_r8 ++ (wsX4_turn_r9 ++ (wsX4_turn_r10 ++ (wsX4_turn_r11 ++ (wsX4_turn_r12 ++ wsX4_turn_r13)))))))))))) ++ wsX40 ++ wsX50 ++ wsX30 ++ wsX00 ++ wsX10 ++ wsX20)
def wsX5_init : List Cond := .code yX5_init cX5_init 1 none :: ([.methodLink RX5 5 objectInit, .instanceMethod objectInit, .code objectInit ⟨#[0xb1]⟩ 1 none, .arrayClass .int, .fieldLink RX5 11 "DiskMachine$Store" "bytes" "[I"] ++ wsX50)
def wsX5_exchange : List Cond := .code yX5_exchange cX5_exchange 4 (some .int) :: ([.methodLink RX5 15 yX5_byteAt, .instanceMethod yX5_byteAt, .selects RX5 yX5_byteAt yX5_byteAt, .initialized RX5, .code yX5_byteAt cX5_byteAt 2 (some .int), .fieldLink RX5 11 "DiskMachine$Store" "bytes" "[I", .methodLink RX5 19 yX5_setByte, .instanceMethod yX5_setByte, .selects RX5 yX5_setByte yX5_setByte, .code yX5_setByte cX5_setByte 3 none] ++ wsX50)
def wsX5_weighedTotal : List Cond := .code yX5_weighedTotal cX5_weighedTotal 3 (some .int) :: ([.fieldLink RX5 11 "DiskMachine$Store" "bytes" "[I"] ++ wsX50)
def wsX6_init_r1 : List Cond := [Cond.methodLink RX6 1 objectInit, Cond.instanceMethod objectInit, Cond.code objectInit ⟨#[0xb1]⟩ 1 none, Cond.classLink RX6 7 RX5, Cond.instantiable RX5 1, Cond.initialized RX5, Cond.fieldLink RX6 10 "DiskMachine" "memory" "LDiskMachine$Store;", Cond.fieldLink RX6 16 "DiskMachine" "disk" "LDiskMachine$Store;", Cond.classLink RX6 19 RX1, Cond.instantiable RX1 5, Cond.initialized RX1, Cond.fieldLink RX6 22 "DiskMachine" "console" "LDiskMachine$Console;", Cond.classLink RX6 26 RX2, Cond.instantiable RX2 11, Cond.initialized RX2, Cond.fieldLink RX6 31 "DiskMachine" "controller" "LDiskMachine$Controller;", Cond.classLink RX6 35 RX4, Cond.instantiable RX4 13, Cond.initialized RX4, Cond.fieldLink RX6 40 "DiskMachine" "processor" "LDiskMachine$Processor;", Cond.instanceMethod yX5_init, Cond.code yX5_init cX5_init 1 none, Cond.methodLink RX5 5 objectInit, Cond.arrayClass .int]
def wsX6_init_r2 : List Cond := [Cond.fieldLink RX5 11 "DiskMachine$Store" "bytes" "[I", Cond.instanceMethod yX1_init, Cond.code yX1_init cX1_init 1 none, Cond.methodLink RX1 5 objectInit, Cond.fieldLink RX1 11 "DiskMachine$Console" "input" "[I", Cond.fieldLink RX1 15 "DiskMachine$Console" "output" "[I", Cond.methodLink RX6 28 yX2_init, Cond.instanceMethod yX2_init, Cond.code yX2_init cX2_init 3 none, Cond.methodLink RX2 3 objectInit, Cond.fieldLink RX2 9 "DiskMachine$Controller" "memory" "LDiskMachine$Store;", Cond.fieldLink RX2 15 "DiskMachine$Controller" "disk" "LDiskMachine$Store;", Cond.methodLink RX6 37 yX4_init, Cond.instanceMethod yX4_init, Cond.code yX4_init cX4_init 4 none, Cond.methodLink RX4 3 objectInit, Cond.classLink RX4 9 RX3, Cond.instantiable RX3 5, Cond.initialized RX3, Cond.fieldLink RX4 12 "DiskMachine$Processor" "flags" "LDiskMachine$Flags;", Cond.classLink RX4 18 RX0, Cond.instantiable RX0 1, Cond.initialized RX0, Cond.fieldLink RX4 23 "DiskMachine$Processor" "arithmetic" "LDiskMachine$Arithmetic;"]
def wsX6_init_r3 : List Cond := [Cond.fieldLink RX4 27 "DiskMachine$Processor" "registers" "[I", Cond.fieldLink RX4 31 "DiskMachine$Processor" "wanted" "I", Cond.fieldLink RX4 35 "DiskMachine$Processor" "memory" "LDiskMachine$Store;", Cond.fieldLink RX4 39 "DiskMachine$Processor" "console" "LDiskMachine$Console;", Cond.fieldLink RX4 43 "DiskMachine$Processor" "controller" "LDiskMachine$Controller;", Cond.instanceMethod yX3_init, Cond.code yX3_init cX3_init 1 none, Cond.methodLink RX3 1 objectInit, Cond.methodLink RX4 20 yX0_init, Cond.instanceMethod yX0_init, Cond.code yX0_init cX0_init 2 none, Cond.methodLink RX0 3 objectInit, Cond.fieldLink RX0 9 "DiskMachine$Arithmetic" "flags" "LDiskMachine$Flags;"]
def wsX6_init : List Cond := .code yX6_init cX6_init 1 none :: ((wsX6_init_r1 ++ (wsX6_init_r2 ++ wsX6_init_r3)) ++ wsX50 ++ wsX60 ++ wsX10 ++ wsX20 ++ wsX40 ++ wsX30 ++ wsX00)
def wsX6_isPlace : List Cond := .code yX6_isPlace cX6_isPlace 1 (some .boolean) :: ([])
def wsX6_isByte : List Cond := .code yX6_isByte cX6_isByte 1 (some .boolean) :: ([])
def wsX6_write : List Cond := .code yX6_write cX6_write 3 (some .int) :: ([.classLink RX6 51 "java/lang/IllegalArgumentException", .initialized "java/lang/IllegalArgumentException", .fieldLink RX6 10 "DiskMachine" "memory" "LDiskMachine$Store;", .methodLink RX6 44 yX6_isPlace, .static yX6_isPlace, .initialized RX6, .code yX6_isPlace cX6_isPlace 1 (some .boolean), .methodLink RX6 48 yX6_isByte, .static yX6_isByte, .code yX6_isByte cX6_isByte 1 (some .boolean), .methodLink RX6 54 yX5_exchange, .instanceMethod yX5_exchange, .selects RX5 yX5_exchange yX5_exchange, .initialized RX5, .code yX5_exchange cX5_exchange 4 (some .int), .methodLink RX5 15 yX5_byteAt, .instanceMethod yX5_byteAt, .selects RX5 yX5_byteAt yX5_byteAt, .code yX5_byteAt cX5_byteAt 2 (some .int), .fieldLink RX5 11 "DiskMachine$Store" "bytes" "[I", .methodLink RX5 19 yX5_setByte, .instanceMethod yX5_setByte, .selects RX5 yX5_setByte yX5_setByte, .code yX5_setByte cX5_setByte 3 none] ++ wsX60 ++ wsX50 ++ (vx_at0 RX6 53 "java/lang/IllegalArgumentException" ["java/lang/RuntimeException", "java/lang/Exception"]).filter goodWord)
def wsX6_read : List Cond := .code yX6_read cX6_read 2 (some .int) :: ([.classLink RX6 51 "java/lang/IllegalArgumentException", .initialized "java/lang/IllegalArgumentException", .fieldLink RX6 10 "DiskMachine" "memory" "LDiskMachine$Store;", .methodLink RX6 44 yX6_isPlace, .static yX6_isPlace, .initialized RX6, .code yX6_isPlace cX6_isPlace 1 (some .boolean), .methodLink RX6 58 yX5_byteAt, .instanceMethod yX5_byteAt, .selects RX5 yX5_byteAt yX5_byteAt, .initialized RX5, .code yX5_byteAt cX5_byteAt 2 (some .int), .fieldLink RX5 11 "DiskMachine$Store" "bytes" "[I"] ++ wsX60 ++ wsX50 ++ (vx_at0 RX6 53 "java/lang/IllegalArgumentException" ["java/lang/RuntimeException", "java/lang/Exception"]).filter goodWord)
def wsX6_writeDisk : List Cond := .code yX6_writeDisk cX6_writeDisk 3 (some .int) :: ([.classLink RX6 51 "java/lang/IllegalArgumentException", .initialized "java/lang/IllegalArgumentException", .fieldLink RX6 16 "DiskMachine" "disk" "LDiskMachine$Store;", .methodLink RX6 44 yX6_isPlace, .static yX6_isPlace, .initialized RX6, .code yX6_isPlace cX6_isPlace 1 (some .boolean), .methodLink RX6 48 yX6_isByte, .static yX6_isByte, .code yX6_isByte cX6_isByte 1 (some .boolean), .methodLink RX6 54 yX5_exchange, .instanceMethod yX5_exchange, .selects RX5 yX5_exchange yX5_exchange, .initialized RX5, .code yX5_exchange cX5_exchange 4 (some .int), .methodLink RX5 15 yX5_byteAt, .instanceMethod yX5_byteAt, .selects RX5 yX5_byteAt yX5_byteAt, .code yX5_byteAt cX5_byteAt 2 (some .int), .fieldLink RX5 11 "DiskMachine$Store" "bytes" "[I", .methodLink RX5 19 yX5_setByte, .instanceMethod yX5_setByte, .selects RX5 yX5_setByte yX5_setByte, .code yX5_setByte cX5_setByte 3 none] ++ wsX60 ++ wsX50 ++ (vx_at0 RX6 53 "java/lang/IllegalArgumentException" ["java/lang/RuntimeException", "java/lang/Exception"]).filter goodWord)
def wsX6_readDisk : List Cond := .code yX6_readDisk cX6_readDisk 2 (some .int) :: ([.classLink RX6 51 "java/lang/IllegalArgumentException", .initialized "java/lang/IllegalArgumentException", .fieldLink RX6 16 "DiskMachine" "disk" "LDiskMachine$Store;", .methodLink RX6 44 yX6_isPlace, .static yX6_isPlace, .initialized RX6, .code yX6_isPlace cX6_isPlace 1 (some .boolean), .methodLink RX6 58 yX5_byteAt, .instanceMethod yX5_byteAt, .selects RX5 yX5_byteAt yX5_byteAt, .initialized RX5, .code yX5_byteAt cX5_byteAt 2 (some .int), .fieldLink RX5 11 "DiskMachine$Store" "bytes" "[I"] ++ wsX60 ++ wsX50 ++ (vx_at0 RX6 53 "java/lang/IllegalArgumentException" ["java/lang/RuntimeException", "java/lang/Exception"]).filter goodWord)
def wsX6_register_r1 : List Cond := [Cond.classLink RX6 65 "java/lang/IndexOutOfBoundsException", Cond.initialized "java/lang/IndexOutOfBoundsException", Cond.fieldLink RX6 40 "DiskMachine" "processor" "LDiskMachine$Processor;", Cond.methodLink RX6 62 yX4_shows, Cond.static yX4_shows, Cond.initialized RX4, Cond.code yX4_shows cX4_shows 1 (some .boolean), Cond.methodLink RX6 68 yX4_shown, Cond.instanceMethod yX4_shown, Cond.selects RX4 yX4_shown yX4_shown, Cond.code yX4_shown cX4_shown 2 (some .int), Cond.fieldLink RX4 12 "DiskMachine$Processor" "flags" "LDiskMachine$Flags;", Cond.fieldLink RX4 51 "DiskMachine$Processor" "pc" "I", Cond.fieldLink RX4 54 "DiskMachine$Processor" "sp" "I", Cond.fieldLink RX4 27 "DiskMachine$Processor" "registers" "[I", Cond.methodLink RX4 47 yX3_packed, Cond.instanceMethod yX3_packed, Cond.selects RX3 yX3_packed yX3_packed, Cond.initialized RX3, Cond.code yX3_packed cX3_packed 1 (some .int), Cond.fieldLink RX3 7 "DiskMachine$Flags" "sign" "Z", Cond.fieldLink RX3 13 "DiskMachine$Flags" "zero" "Z", Cond.fieldLink RX3 16 "DiskMachine$Flags" "half" "Z", Cond.fieldLink RX3 19 "DiskMachine$Flags" "parity" "Z"]
def wsX6_register_r2 : List Cond := [Cond.fieldLink RX3 22 "DiskMachine$Flags" "carry" "Z"]
def wsX6_register : List Cond := .code yX6_register cX6_register 2 (some .int) :: ((wsX6_register_r1 ++ wsX6_register_r2) ++ wsX60 ++ wsX40 ++ wsX30 ++ (vx_at0 RX6 67 "java/lang/IndexOutOfBoundsException" ["java/lang/RuntimeException", "java/lang/Exception"]).filter goodWord)
def wsX6_put_r1 : List Cond := [Cond.classLink RX6 65 "java/lang/IndexOutOfBoundsException", Cond.initialized "java/lang/IndexOutOfBoundsException", Cond.fieldLink RX6 40 "DiskMachine" "processor" "LDiskMachine$Processor;", Cond.methodLink RX6 62 yX4_shows, Cond.static yX4_shows, Cond.initialized RX4, Cond.code yX4_shows cX4_shows 1 (some .boolean), Cond.methodLink RX6 71 yX4_change, Cond.instanceMethod yX4_change, Cond.selects RX4 yX4_change yX4_change, Cond.code yX4_change cX4_change 3 none, Cond.fieldLink RX4 12 "DiskMachine$Processor" "flags" "LDiskMachine$Flags;", Cond.constant RX4 61 (65535), Cond.fieldLink RX4 51 "DiskMachine$Processor" "pc" "I", Cond.fieldLink RX4 54 "DiskMachine$Processor" "sp" "I", Cond.fieldLink RX4 27 "DiskMachine$Processor" "registers" "[I", Cond.methodLink RX4 57 yX3_unpack, Cond.instanceMethod yX3_unpack, Cond.selects RX3 yX3_unpack yX3_unpack, Cond.initialized RX3, Cond.code yX3_unpack cX3_unpack 2 none, Cond.fieldLink RX3 7 "DiskMachine$Flags" "sign" "Z", Cond.fieldLink RX3 13 "DiskMachine$Flags" "zero" "Z", Cond.fieldLink RX3 16 "DiskMachine$Flags" "half" "Z"]
def wsX6_put_r2 : List Cond := [Cond.fieldLink RX3 19 "DiskMachine$Flags" "parity" "Z", Cond.fieldLink RX3 22 "DiskMachine$Flags" "carry" "Z"]
def wsX6_put : List Cond := .code yX6_put cX6_put 3 none :: ((wsX6_put_r1 ++ wsX6_put_r2) ++ wsX60 ++ wsX40 ++ wsX30 ++ (vx_at0 RX6 67 "java/lang/IndexOutOfBoundsException" ["java/lang/RuntimeException", "java/lang/Exception"]).filter goodWord)
def wsX6_type : List Cond := .code yX6_type cX6_type 2 (some .int) :: ([.classLink RX6 51 "java/lang/IllegalArgumentException", .initialized "java/lang/IllegalArgumentException", .fieldLink RX6 22 "DiskMachine" "console" "LDiskMachine$Console;", .methodLink RX6 48 yX6_isByte, .static yX6_isByte, .initialized RX6, .code yX6_isByte cX6_isByte 1 (some .boolean), .methodLink RX6 75 yX1_takeKey, .instanceMethod yX1_takeKey, .selects RX1 yX1_takeKey yX1_takeKey, .initialized RX1, .code yX1_takeKey cX1_takeKey 2 (some .int), .fieldLink RX1 18 "DiskMachine$Console" "inputCount" "I", .fieldLink RX1 11 "DiskMachine$Console" "input" "[I", .fieldLink RX1 22 "DiskMachine$Console" "firstInput" "I"] ++ wsX60 ++ wsX10 ++ (vx_at0 RX6 53 "java/lang/IllegalArgumentException" ["java/lang/RuntimeException", "java/lang/Exception"]).filter goodWord)
def wsX6_written : List Cond := .code yX6_written cX6_written 1 (some .int) :: ([.fieldLink RX6 22 "DiskMachine" "console" "LDiskMachine$Console;", .methodLink RX6 78 yX1_writtenCount, .instanceMethod yX1_writtenCount, .selects RX1 yX1_writtenCount yX1_writtenCount, .initialized RX1, .code yX1_writtenCount cX1_writtenCount 1 (some .int), .fieldLink RX1 25 "DiskMachine$Console" "outputCount" "I"] ++ wsX60 ++ wsX10)
def wsX6_text : List Cond := .code yX6_text cX6_text 2 (some .int) :: ([.classLink RX6 65 "java/lang/IndexOutOfBoundsException", .initialized "java/lang/IndexOutOfBoundsException", .fieldLink RX6 22 "DiskMachine" "console" "LDiskMachine$Console;", .methodLink RX6 82 yX1_keeps, .instanceMethod yX1_keeps, .selects RX1 yX1_keeps yX1_keeps, .initialized RX1, .code yX1_keeps cX1_keeps 2 (some .boolean), .fieldLink RX1 25 "DiskMachine$Console" "outputCount" "I", .methodLink RX6 85 yX1_writtenByte, .instanceMethod yX1_writtenByte, .selects RX1 yX1_writtenByte yX1_writtenByte, .code yX1_writtenByte cX1_writtenByte 2 (some .int), .fieldLink RX1 15 "DiskMachine$Console" "output" "[I"] ++ wsX60 ++ wsX10 ++ (vx_at0 RX6 67 "java/lang/IndexOutOfBoundsException" ["java/lang/RuntimeException", "java/lang/Exception"]).filter goodWord)
def wsX6_want : List Cond := .code yX6_want cX6_want 2 none :: ([.classLink RX6 51 "java/lang/IllegalArgumentException", .initialized "java/lang/IllegalArgumentException", .fieldLink RX6 40 "DiskMachine" "processor" "LDiskMachine$Processor;", .methodLink RX6 88 yX4_callWith, .instanceMethod yX4_callWith, .selects RX4 yX4_callWith yX4_callWith, .initialized RX4, .code yX4_callWith cX4_callWith 2 none, .fieldLink RX4 31 "DiskMachine$Processor" "wanted" "I"] ++ wsX60 ++ wsX40 ++ (vx_at0 RX6 53 "java/lang/IllegalArgumentException" ["java/lang/RuntimeException", "java/lang/Exception"]).filter goodWord)
def wsX6_step_r1 : List Cond := [Cond.classLink RX6 51 "java/lang/IllegalArgumentException", Cond.initialized "java/lang/IllegalArgumentException", Cond.fieldLink RX6 40 "DiskMachine" "processor" "LDiskMachine$Processor;", Cond.methodLink RX6 92 yX4_turn, Cond.instanceMethod yX4_turn, Cond.selects RX4 yX4_turn yX4_turn, Cond.initialized RX4, Cond.code yX4_turn cX4_turn 3 (some .int), Cond.fieldLink RX4 31 "DiskMachine$Processor" "wanted" "I", Cond.fieldLink RX4 66 "DiskMachine$Processor" "interruptsOn" "Z", Cond.fieldLink RX4 73 "DiskMachine$Processor" "justSetOn" "Z", Cond.fieldLink RX4 62 "DiskMachine$Processor" "halted" "Z", Cond.fieldLink RX4 69 "DiskMachine$Processor" "cyclesDone" "J", Cond.fieldLink RX4 43 "DiskMachine$Processor" "controller" "LDiskMachine$Controller;", Cond.methodLink RX4 76 yX4_answerInterrupt, Cond.instanceMethod yX4_answerInterrupt, Cond.selects RX4 yX4_answerInterrupt yX4_answerInterrupt, Cond.code yX4_answerInterrupt cX4_answerInterrupt 2 (some .int), Cond.fieldLink RX4 51 "DiskMachine$Processor" "pc" "I", Cond.methodLink RX4 88 yX4_push, Cond.instanceMethod yX4_push, Cond.selects RX4 yX4_push yX4_push, Cond.code yX4_push cX4_push 2 none, Cond.fieldLink RX4 54 "DiskMachine$Processor" "sp" "I"]
def wsX6_step_r2 : List Cond := [Cond.constant RX4 61 (65535), Cond.fieldLink RX4 35 "DiskMachine$Processor" "memory" "LDiskMachine$Store;", Cond.methodLink RX4 154 yX5_setWord, Cond.instanceMethod yX5_setWord, Cond.selects RX5 yX5_setWord yX5_setWord, Cond.initialized RX5, Cond.code yX5_setWord cX5_setWord 3 none, Cond.fieldLink RX5 11 "DiskMachine$Store" "bytes" "[I", Cond.methodLink RX4 79 yX4_instruction, Cond.instanceMethod yX4_instruction, Cond.selects RX4 yX4_instruction yX4_instruction, Cond.code yX4_instruction cX4_instruction 4 (some .int), Cond.fieldLink RX4 27 "DiskMachine$Processor" "registers" "[I", Cond.fieldLink RX4 23 "DiskMachine$Processor" "arithmetic" "LDiskMachine$Arithmetic;", Cond.methodLink RX4 91 yX4_nextByte, Cond.instanceMethod yX4_nextByte, Cond.selects RX4 yX4_nextByte yX4_nextByte, Cond.code yX4_nextByte cX4_nextByte 2 (some .int), Cond.methodLink RX4 151 yX5_byteAt, Cond.instanceMethod yX5_byteAt, Cond.selects RX5 yX5_byteAt yX5_byteAt, Cond.code yX5_byteAt cX5_byteAt 2 (some .int), Cond.methodLink RX4 94 yX4_firstQuarter, Cond.instanceMethod yX4_firstQuarter]
def wsX6_step_r3 : List Cond := [Cond.selects RX4 yX4_firstQuarter yX4_firstQuarter, Cond.code yX4_firstQuarter cX4_firstQuarter 3 (some .int), Cond.methodLink RX4 111 yX4_setOrAddPair, Cond.instanceMethod yX4_setOrAddPair, Cond.selects RX4 yX4_setOrAddPair yX4_setOrAddPair, Cond.code yX4_setOrAddPair cX4_setOrAddPair 4 (some .int), Cond.fieldLink RX4 12 "DiskMachine$Processor" "flags" "LDiskMachine$Flags;", Cond.methodLink RX4 133 yX4_nextWord, Cond.instanceMethod yX4_nextWord, Cond.selects RX4 yX4_nextWord yX4_nextWord, Cond.code yX4_nextWord cX4_nextWord 2 (some .int), Cond.methodLink RX4 157 yX5_wordAt, Cond.instanceMethod yX5_wordAt, Cond.selects RX5 yX5_wordAt yX5_wordAt, Cond.code yX5_wordAt cX5_wordAt 2 (some .int), Cond.methodLink RX4 136 yX4_setPair, Cond.instanceMethod yX4_setPair, Cond.selects RX4 yX4_setPair yX4_setPair, Cond.code yX4_setPair cX4_setPair 3 none, Cond.methodLink RX4 139 yX4_pair, Cond.instanceMethod yX4_pair, Cond.selects RX4 yX4_pair yX4_pair, Cond.code yX4_pair cX4_pair 2 (some .int), Cond.methodLink RX4 142 yX3_setCarry]
def wsX6_step_r4 : List Cond := [Cond.instanceMethod yX3_setCarry, Cond.selects RX3 yX3_setCarry yX3_setCarry, Cond.initialized RX3, Cond.code yX3_setCarry cX3_setCarry 2 none, Cond.fieldLink RX3 22 "DiskMachine$Flags" "carry" "Z", Cond.methodLink RX4 114 yX4_moveByAddress, Cond.instanceMethod yX4_moveByAddress, Cond.selects RX4 yX4_moveByAddress yX4_moveByAddress, Cond.code yX4_moveByAddress cX4_moveByAddress 2 (some .int), Cond.methodLink RX4 146 yX5_setByte, Cond.instanceMethod yX5_setByte, Cond.selects RX5 yX5_setByte yX5_setByte, Cond.code yX5_setByte cX5_setByte 3 none, Cond.methodLink RX4 117 yX4_stepPair, Cond.instanceMethod yX4_stepPair, Cond.selects RX4 yX4_stepPair yX4_stepPair, Cond.code yX4_stepPair cX4_stepPair 3 (some .int), Cond.methodLink RX4 101 yX4_value, Cond.instanceMethod yX4_value, Cond.selects RX4 yX4_value yX4_value, Cond.code yX4_value cX4_value 2 (some .int), Cond.methodLink RX4 120 yX0_oneMore, Cond.instanceMethod yX0_oneMore, Cond.selects RX0 yX0_oneMore yX0_oneMore]
def wsX6_step_r5 : List Cond := [Cond.initialized RX0, Cond.code yX0_oneMore cX0_oneMore 3 (some .int), Cond.fieldLink RX0 9 "DiskMachine$Arithmetic" "flags" "LDiskMachine$Flags;", Cond.methodLink RX0 36 yX3_setHalf, Cond.instanceMethod yX3_setHalf, Cond.selects RX3 yX3_setHalf yX3_setHalf, Cond.code yX3_setHalf cX3_setHalf 2 none, Cond.fieldLink RX3 16 "DiskMachine$Flags" "half" "Z", Cond.methodLink RX0 39 yX3_setLogic, Cond.instanceMethod yX3_setLogic, Cond.selects RX3 yX3_setLogic yX3_setLogic, Cond.code yX3_setLogic cX3_setLogic 2 none, Cond.fieldLink RX3 7 "DiskMachine$Flags" "sign" "Z", Cond.fieldLink RX3 13 "DiskMachine$Flags" "zero" "Z", Cond.fieldLink RX3 19 "DiskMachine$Flags" "parity" "Z", Cond.methodLink RX3 25 yJ6_bitCount_0f7a4, Cond.static yJ6_bitCount_0f7a4, Cond.initialized RJ6, Cond.code yJ6_bitCount_0f7a4 cJ6_bitCount_0f7a4 1 (some .int), Cond.constant RJ6 265 (1431655765), Cond.constant RJ6 266 (858993459), Cond.constant RJ6 267 (252645135), Cond.methodLink RX4 123 yX4_setValue, Cond.instanceMethod yX4_setValue]
def wsX6_step_r6 : List Cond := [Cond.selects RX4 yX4_setValue yX4_setValue, Cond.code yX4_setValue cX4_setValue 3 none, Cond.methodLink RX4 127 yX0_oneLess, Cond.instanceMethod yX0_oneLess, Cond.selects RX0 yX0_oneLess yX0_oneLess, Cond.code yX0_oneLess cX0_oneLess 3 (some .int), Cond.methodLink RX4 130 yX0_adjust, Cond.instanceMethod yX0_adjust, Cond.selects RX0 yX0_adjust yX0_adjust, Cond.code yX0_adjust cX0_adjust 3 (some .int), Cond.methodLink RX0 43 yX0_turnLeft, Cond.instanceMethod yX0_turnLeft, Cond.selects RX0 yX0_turnLeft yX0_turnLeft, Cond.code yX0_turnLeft cX0_turnLeft 3 (some .int), Cond.methodLink RX0 32 yX3_setCarry, Cond.methodLink RX0 47 yX0_turnRight, Cond.instanceMethod yX0_turnRight, Cond.selects RX0 yX0_turnRight yX0_turnRight, Cond.code yX0_turnRight cX0_turnRight 3 (some .int), Cond.methodLink RX0 19 yX3_carryBit, Cond.instanceMethod yX3_carryBit, Cond.selects RX3 yX3_carryBit yX3_carryBit, Cond.code yX3_carryBit cX3_carryBit 1 (some .int), Cond.methodLink RX0 50 yX0_toDecimal]
def wsX6_step_r7 : List Cond := [Cond.instanceMethod yX0_toDecimal, Cond.selects RX0 yX0_toDecimal yX0_toDecimal, Cond.code yX0_toDecimal cX0_toDecimal 7 (some .int), Cond.methodLink RX0 58 yX3_hasHalf, Cond.instanceMethod yX3_hasHalf, Cond.selects RX3 yX3_hasHalf yX3_hasHalf, Cond.code yX3_hasHalf cX3_hasHalf 1 (some .boolean), Cond.methodLink RX0 54 yX3_hasCarry, Cond.instanceMethod yX3_hasCarry, Cond.selects RX3 yX3_hasCarry yX3_hasCarry, Cond.code yX3_hasCarry cX3_hasCarry 1 (some .boolean), Cond.methodLink RX4 98 yX4_transfer, Cond.instanceMethod yX4_transfer, Cond.selects RX4 yX4_transfer yX4_transfer, Cond.code yX4_transfer cX4_transfer 3 (some .int), Cond.methodLink RX4 104 yX0_combine, Cond.instanceMethod yX0_combine, Cond.selects RX0 yX0_combine yX0_combine, Cond.code yX0_combine cX0_combine 4 (some .int), Cond.methodLink RX0 15 yX0_added, Cond.instanceMethod yX0_added, Cond.selects RX0 yX0_added yX0_added, Cond.code yX0_added cX0_added 5 (some .int), Cond.methodLink RX0 25 yX0_subtracted]
def wsX6_step_r8 : List Cond := [Cond.instanceMethod yX0_subtracted, Cond.selects RX0 yX0_subtracted yX0_subtracted, Cond.code yX0_subtracted cX0_subtracted 5 (some .int), Cond.methodLink RX0 28 yX0_bitwise, Cond.instanceMethod yX0_bitwise, Cond.selects RX0 yX0_bitwise yX0_bitwise, Cond.code yX0_bitwise cX0_bitwise 3 (some .int), Cond.methodLink RX4 108 yX4_lastQuarter, Cond.instanceMethod yX4_lastQuarter, Cond.selects RX4 yX4_lastQuarter yX4_lastQuarter, Cond.code yX4_lastQuarter cX4_lastQuarter 3 (some .int), Cond.methodLink RX4 160 yX4_returnIf, Cond.instanceMethod yX4_returnIf, Cond.selects RX4 yX4_returnIf yX4_returnIf, Cond.code yX4_returnIf cX4_returnIf 2 (some .int), Cond.methodLink RX4 166 yX3_holds, Cond.instanceMethod yX3_holds, Cond.selects RX3 yX3_holds yX3_holds, Cond.code yX3_holds cX3_holds 3 (some .boolean), Cond.methodLink RX4 183 yX4_pop, Cond.instanceMethod yX4_pop, Cond.selects RX4 yX4_pop yX4_pop, Cond.code yX4_pop cX4_pop 2 (some .int), Cond.methodLink RX4 163 yX4_popOrReturn]
def wsX6_step_r9 : List Cond := [Cond.instanceMethod yX4_popOrReturn, Cond.selects RX4 yX4_popOrReturn yX4_popOrReturn, Cond.code yX4_popOrReturn cX4_popOrReturn 2 (some .int), Cond.methodLink RX4 186 yX4_popAccumulator, Cond.instanceMethod yX4_popAccumulator, Cond.selects RX4 yX4_popAccumulator yX4_popAccumulator, Cond.code yX4_popAccumulator cX4_popAccumulator 2 (some .int), Cond.methodLink RX4 57 yX3_unpack, Cond.instanceMethod yX3_unpack, Cond.selects RX3 yX3_unpack yX3_unpack, Cond.code yX3_unpack cX3_unpack 2 none, Cond.methodLink RX4 170 yX4_jumpIf, Cond.instanceMethod yX4_jumpIf, Cond.selects RX4 yX4_jumpIf yX4_jumpIf, Cond.code yX4_jumpIf cX4_jumpIf 3 (some .int), Cond.methodLink RX4 174 yX4_portOrExchange, Cond.instanceMethod yX4_portOrExchange, Cond.selects RX4 yX4_portOrExchange yX4_portOrExchange, Cond.code yX4_portOrExchange cX4_portOrExchange 2 (some .int), Cond.methodLink RX4 189 yX4_sendToPort, Cond.instanceMethod yX4_sendToPort, Cond.selects RX4 yX4_sendToPort yX4_sendToPort, Cond.code yX4_sendToPort cX4_sendToPort 3 none, Cond.fieldLink RX4 39 "DiskMachine$Processor" "console" "LDiskMachine$Console;"]
def wsX6_step_r10 : List Cond := [Cond.methodLink RX4 201 yX1_append, Cond.instanceMethod yX1_append, Cond.selects RX1 yX1_append yX1_append, Cond.initialized RX1, Cond.code yX1_append cX1_append 2 none, Cond.fieldLink RX1 15 "DiskMachine$Console" "output" "[I", Cond.fieldLink RX1 25 "DiskMachine$Console" "outputCount" "I", Cond.methodLink RX4 206 yX2_setSector, Cond.instanceMethod yX2_setSector, Cond.selects RX2 yX2_setSector yX2_setSector, Cond.initialized RX2, Cond.code yX2_setSector cX2_setSector 2 none, Cond.fieldLink RX2 18 "DiskMachine$Controller" "sector" "I", Cond.methodLink RX4 209 yX2_setLowAddress, Cond.instanceMethod yX2_setLowAddress, Cond.selects RX2 yX2_setLowAddress yX2_setLowAddress, Cond.code yX2_setLowAddress cX2_setLowAddress 2 none, Cond.fieldLink RX2 22 "DiskMachine$Controller" "address" "I", Cond.constant RX2 25 (65280), Cond.methodLink RX4 212 yX2_setHighAddress, Cond.instanceMethod yX2_setHighAddress, Cond.selects RX2 yX2_setHighAddress yX2_setHighAddress, Cond.code yX2_setHighAddress cX2_setHighAddress 2 none, Cond.methodLink RX4 215 yX2_setCall]
def wsX6_step_r11 : List Cond := [Cond.instanceMethod yX2_setCall, Cond.selects RX2 yX2_setCall yX2_setCall, Cond.code yX2_setCall cX2_setCall 2 none, Cond.fieldLink RX2 26 "DiskMachine$Controller" "call" "I", Cond.methodLink RX4 218 yX2_command, Cond.instanceMethod yX2_command, Cond.selects RX2 yX2_command yX2_command, Cond.code yX2_command cX2_command 3 none, Cond.fieldLink RX2 33 "DiskMachine$Controller" "state" "I", Cond.fieldLink RX2 36 "DiskMachine$Controller" "diskStart" "I", Cond.fieldLink RX2 39 "DiskMachine$Controller" "toDisk" "Z", Cond.fieldLink RX2 43 "DiskMachine$Controller" "moved" "I", Cond.fieldLink RX2 46 "DiskMachine$Controller" "cyclesLeftOver" "I", Cond.fieldLink RX2 49 "DiskMachine$Controller" "commandJustCame" "Z", Cond.methodLink RX2 29 yX2_isBusy, Cond.instanceMethod yX2_isBusy, Cond.selects RX2 yX2_isBusy yX2_isBusy, Cond.code yX2_isBusy cX2_isBusy 1 (some .boolean), Cond.methodLink RX4 192 yX4_takeFromPort, Cond.instanceMethod yX4_takeFromPort, Cond.selects RX4 yX4_takeFromPort yX4_takeFromPort, Cond.code yX4_takeFromPort cX4_takeFromPort 2 (some .int), Cond.methodLink RX4 221 yX1_hasInput, Cond.instanceMethod yX1_hasInput]
def wsX6_step_r12 : List Cond := [Cond.selects RX1 yX1_hasInput yX1_hasInput, Cond.code yX1_hasInput cX1_hasInput 1 (some .boolean), Cond.fieldLink RX1 18 "DiskMachine$Console" "inputCount" "I", Cond.methodLink RX4 225 yX1_nextInput, Cond.instanceMethod yX1_nextInput, Cond.selects RX1 yX1_nextInput yX1_nextInput, Cond.code yX1_nextInput cX1_nextInput 2 (some .int), Cond.fieldLink RX1 11 "DiskMachine$Console" "input" "[I", Cond.fieldLink RX1 22 "DiskMachine$Console" "firstInput" "I", Cond.methodLink RX4 228 yX2_takeState, Cond.instanceMethod yX2_takeState, Cond.selects RX2 yX2_takeState yX2_takeState, Cond.code yX2_takeState cX2_takeState 2 (some .int), Cond.methodLink RX4 195 yX4_swapWithStack, Cond.instanceMethod yX4_swapWithStack, Cond.selects RX4 yX4_swapWithStack yX4_swapWithStack, Cond.code yX4_swapWithStack cX4_swapWithStack 2 (some .int), Cond.methodLink RX4 198 yX4_swapPairs, Cond.instanceMethod yX4_swapPairs, Cond.selects RX4 yX4_swapPairs yX4_swapPairs, Cond.code yX4_swapPairs cX4_swapPairs 2 (some .int), Cond.methodLink RX4 177 yX4_callIf, Cond.instanceMethod yX4_callIf, Cond.selects RX4 yX4_callIf yX4_callIf]
def wsX6_step_r13 : List Cond := [Cond.code yX4_callIf cX4_callIf 3 (some .int), Cond.methodLink RX4 180 yX4_pushPair, Cond.instanceMethod yX4_pushPair, Cond.selects RX4 yX4_pushPair yX4_pushPair, Cond.code yX4_pushPair cX4_pushPair 2 (some .int), Cond.methodLink RX4 47 yX3_packed, Cond.instanceMethod yX3_packed, Cond.selects RX3 yX3_packed yX3_packed, Cond.code yX3_packed cX3_packed 1 (some .int), Cond.methodLink RX4 82 yX2_letPass, Cond.instanceMethod yX2_letPass, Cond.selects RX2 yX2_letPass yX2_letPass, Cond.code yX2_letPass cX2_letPass 4 (some .int), Cond.methodLink RX2 52 yX2_moveByte, Cond.instanceMethod yX2_moveByte, Cond.selects RX2 yX2_moveByte yX2_moveByte, Cond.code yX2_moveByte cX2_moveByte 2 none, Cond.fieldLink RX2 15 "DiskMachine$Controller" "disk" "LDiskMachine$Store;", Cond.fieldLink RX2 9 "DiskMachine$Controller" "memory" "LDiskMachine$Store;", Cond.constant RX2 69 (65535), Cond.methodLink RX2 59 yX5_byteAt, Cond.methodLink RX2 65 yX5_setByte, Cond.methodLink RX2 55 yX2_finish, Cond.instanceMethod yX2_finish]
def wsX6_step_r14 : List Cond := [Cond.selects RX2 yX2_finish yX2_finish, Cond.code yX2_finish cX2_finish 1 (some .int)]
def wsX6_step : List Cond := .code yX6_step cX6_step 4 (some .int) :: ((wsX6_step_r1 ++ (wsX6_step_r2 ++ (wsX6_step_r3 ++ (wsX6_step_r4 ++ (wsX6_step_r5 ++ (wsX6_step_r6 ++ (wsX6_step_r7 ++ (wsX6_step_r8 ++ (wsX6_step_r9 ++ (wsX6_step_r10 ++ (wsX6_step_r11 ++ (wsX6_step_r12 ++ (wsX6_step_r13 ++ wsX6_step_r14))))))))))))) ++ wsX60 ++ wsX40 ++ wsX50 ++ wsX30 ++ wsX00 ++ wsX10 ++ wsX20 ++ (vx_at0 RX6 53 "java/lang/IllegalArgumentException" ["java/lang/RuntimeException", "java/lang/Exception"]).filter goodWord)
def wsX6_cycles : List Cond := .code yX6_cycles cX6_cycles 1 (some .long) :: ([.fieldLink RX6 40 "DiskMachine" "processor" "LDiskMachine$Processor;", .methodLink RX6 95 yX4_cyclesDone, .instanceMethod yX4_cyclesDone, .selects RX4 yX4_cyclesDone yX4_cyclesDone, .initialized RX4, .code yX4_cyclesDone cX4_cyclesDone 1 (some .long), .fieldLink RX4 69 "DiskMachine$Processor" "cyclesDone" "J"] ++ wsX60 ++ wsX40)
def wsX6_told_r1 : List Cond := [Cond.classLink RX6 51 "java/lang/IllegalArgumentException", Cond.initialized "java/lang/IllegalArgumentException", Cond.fieldLink RX6 40 "DiskMachine" "processor" "LDiskMachine$Processor;", Cond.fieldLink RX6 31 "DiskMachine" "controller" "LDiskMachine$Controller;", Cond.methodLink RX6 99 yX4_isHalted, Cond.instanceMethod yX4_isHalted, Cond.selects RX4 yX4_isHalted yX4_isHalted, Cond.initialized RX4, Cond.code yX4_isHalted cX4_isHalted 1 (some .boolean), Cond.fieldLink RX4 62 "DiskMachine$Processor" "halted" "Z", Cond.methodLink RX6 103 yX4_hasInterruptsOn, Cond.instanceMethod yX4_hasInterruptsOn, Cond.selects RX4 yX4_hasInterruptsOn yX4_hasInterruptsOn, Cond.code yX4_hasInterruptsOn cX4_hasInterruptsOn 1 (some .boolean), Cond.fieldLink RX4 66 "DiskMachine$Processor" "interruptsOn" "Z", Cond.methodLink RX6 106 yX4_wantedInterrupt, Cond.instanceMethod yX4_wantedInterrupt, Cond.selects RX4 yX4_wantedInterrupt yX4_wantedInterrupt, Cond.code yX4_wantedInterrupt cX4_wantedInterrupt 1 (some .int), Cond.fieldLink RX4 31 "DiskMachine$Processor" "wanted" "I", Cond.methodLink RX6 109 yX2_stateByte, Cond.instanceMethod yX2_stateByte, Cond.selects RX2 yX2_stateByte yX2_stateByte, Cond.initialized RX2]
def wsX6_told_r2 : List Cond := [Cond.code yX2_stateByte cX2_stateByte 1 (some .int), Cond.fieldLink RX2 33 "DiskMachine$Controller" "state" "I", Cond.methodLink RX6 112 yX2_movedCount, Cond.instanceMethod yX2_movedCount, Cond.selects RX2 yX2_movedCount yX2_movedCount, Cond.code yX2_movedCount cX2_movedCount 1 (some .int), Cond.fieldLink RX2 43 "DiskMachine$Controller" "moved" "I", Cond.methodLink RX6 115 yX2_addressWord, Cond.instanceMethod yX2_addressWord, Cond.selects RX2 yX2_addressWord yX2_addressWord, Cond.code yX2_addressWord cX2_addressWord 1 (some .int), Cond.fieldLink RX2 22 "DiskMachine$Controller" "address" "I"]
def wsX6_told : List Cond := .code yX6_told cX6_told 2 (some .int) :: ((wsX6_told_r1 ++ wsX6_told_r2) ++ wsX60 ++ wsX40 ++ wsX20 ++ (vx_at0 RX6 53 "java/lang/IllegalArgumentException" ["java/lang/RuntimeException", "java/lang/Exception"]).filter goodWord)
def wsX6_sum : List Cond := .code yX6_sum cX6_sum 1 (some .int) :: ([.fieldLink RX6 10 "DiskMachine" "memory" "LDiskMachine$Store;", .methodLink RX6 118 yX5_weighedTotal, .instanceMethod yX5_weighedTotal, .selects RX5 yX5_weighedTotal yX5_weighedTotal, .initialized RX5, .code yX5_weighedTotal cX5_weighedTotal 3 (some .int), .fieldLink RX5 11 "DiskMachine$Store" "bytes" "[I"] ++ wsX60 ++ wsX50)
def wsX7_init : List Cond := .code yX7_init cX7_init 1 none :: ([.methodLink RX7 1 objectInit, .instanceMethod objectInit, .code objectInit ⟨#[0xb1]⟩ 1 none, .arrayClass .int, .fieldLink RX7 7 "DiskMachineModel" "memory" "[I", .fieldLink RX7 13 "DiskMachineModel" "disk" "[I", .fieldLink RX7 16 "DiskMachineModel" "\x72" "[I", .fieldLink RX7 19 "DiskMachineModel" "wanted" "I", .fieldLink RX7 23 "DiskMachineModel" "input" "[I", .fieldLink RX7 26 "DiskMachineModel" "output" "[I"] ++ wsX70)
def wsX7_thrown : List Cond := .code yX7_thrown cX7_thrown 1 (some .int) :: ([.fieldLink RX7 29 "DiskMachineModel" "thrown" "I"] ++ wsX70)
def wsX7_noByte : List Cond := .code yX7_noByte cX7_noByte 1 (some .boolean) :: ([])
def wsX7_noPlace : List Cond := .code yX7_noPlace cX7_noPlace 1 (some .boolean) :: ([])
def wsX7_write : List Cond := .code yX7_write cX7_write 4 (some .int) :: ([.fieldLink RX7 29 "DiskMachineModel" "thrown" "I", .fieldLink RX7 7 "DiskMachineModel" "memory" "[I", .methodLink RX7 32 yX7_noPlace, .static yX7_noPlace, .initialized RX7, .code yX7_noPlace cX7_noPlace 1 (some .boolean), .methodLink RX7 36 yX7_noByte, .static yX7_noByte, .code yX7_noByte cX7_noByte 1 (some .boolean)] ++ wsX70)
def wsX7_read : List Cond := .code yX7_read cX7_read 2 (some .int) :: ([.fieldLink RX7 29 "DiskMachineModel" "thrown" "I", .fieldLink RX7 7 "DiskMachineModel" "memory" "[I", .methodLink RX7 32 yX7_noPlace, .static yX7_noPlace, .initialized RX7, .code yX7_noPlace cX7_noPlace 1 (some .boolean)] ++ wsX70)
def wsX7_writeDisk : List Cond := .code yX7_writeDisk cX7_writeDisk 4 (some .int) :: ([.fieldLink RX7 29 "DiskMachineModel" "thrown" "I", .fieldLink RX7 13 "DiskMachineModel" "disk" "[I", .methodLink RX7 32 yX7_noPlace, .static yX7_noPlace, .initialized RX7, .code yX7_noPlace cX7_noPlace 1 (some .boolean), .methodLink RX7 36 yX7_noByte, .static yX7_noByte, .code yX7_noByte cX7_noByte 1 (some .boolean)] ++ wsX70)
def wsX7_readDisk : List Cond := .code yX7_readDisk cX7_readDisk 2 (some .int) :: ([.fieldLink RX7 29 "DiskMachineModel" "thrown" "I", .fieldLink RX7 13 "DiskMachineModel" "disk" "[I", .methodLink RX7 32 yX7_noPlace, .static yX7_noPlace, .initialized RX7, .code yX7_noPlace cX7_noPlace 1 (some .boolean)] ++ wsX70)
def wsX7_sum : List Cond := .code yX7_sum cX7_sum 3 (some .int) :: ([.fieldLink RX7 29 "DiskMachineModel" "thrown" "I", .fieldLink RX7 7 "DiskMachineModel" "memory" "[I"] ++ wsX70)
def wsX7_get : List Cond := .code yX7_get cX7_get 2 (some .int) :: ([.fieldLink RX7 7 "DiskMachineModel" "memory" "[I"] ++ wsX70)
def wsX7_set : List Cond := .code yX7_set cX7_set 3 none :: ([.fieldLink RX7 7 "DiskMachineModel" "memory" "[I"] ++ wsX70)
def wsX7_getWord : List Cond := .code yX7_getWord cX7_getWord 2 (some .int) :: ([.methodLink RX7 39 yX7_get, .instanceMethod yX7_get, .selects RX7 yX7_get yX7_get, .initialized RX7, .code yX7_get cX7_get 2 (some .int), .fieldLink RX7 7 "DiskMachineModel" "memory" "[I"] ++ wsX70)
def wsX7_setWord : List Cond := .code yX7_setWord cX7_setWord 3 none :: ([.methodLink RX7 43 yX7_set, .instanceMethod yX7_set, .selects RX7 yX7_set yX7_set, .initialized RX7, .code yX7_set cX7_set 3 none, .fieldLink RX7 7 "DiskMachineModel" "memory" "[I"] ++ wsX70)
def wsX7_next : List Cond := .code yX7_next cX7_next 2 (some .int) :: ([.fieldLink RX7 47 "DiskMachineModel" "pc" "I", .constant RX7 50 (65535), .methodLink RX7 39 yX7_get, .instanceMethod yX7_get, .selects RX7 yX7_get yX7_get, .initialized RX7, .code yX7_get cX7_get 2 (some .int), .fieldLink RX7 7 "DiskMachineModel" "memory" "[I"] ++ wsX70)
def wsX7_nextWord : List Cond := .code yX7_nextWord cX7_nextWord 2 (some .int) :: ([.methodLink RX7 51 yX7_next, .instanceMethod yX7_next, .selects RX7 yX7_next yX7_next, .initialized RX7, .code yX7_next cX7_next 2 (some .int), .fieldLink RX7 47 "DiskMachineModel" "pc" "I", .constant RX7 50 (65535), .methodLink RX7 39 yX7_get, .instanceMethod yX7_get, .selects RX7 yX7_get yX7_get, .code yX7_get cX7_get 2 (some .int), .fieldLink RX7 7 "DiskMachineModel" "memory" "[I"] ++ wsX70)
def wsX7_push : List Cond := .code yX7_push cX7_push 2 none :: ([.fieldLink RX7 55 "DiskMachineModel" "sp" "I", .constant RX7 50 (65535), .methodLink RX7 58 yX7_setWord, .instanceMethod yX7_setWord, .selects RX7 yX7_setWord yX7_setWord, .initialized RX7, .code yX7_setWord cX7_setWord 3 none, .methodLink RX7 43 yX7_set, .instanceMethod yX7_set, .selects RX7 yX7_set yX7_set, .code yX7_set cX7_set 3 none, .fieldLink RX7 7 "DiskMachineModel" "memory" "[I"] ++ wsX70)
def wsX7_pop : List Cond := .code yX7_pop cX7_pop 2 (some .int) :: ([.fieldLink RX7 55 "DiskMachineModel" "sp" "I", .constant RX7 50 (65535), .methodLink RX7 61 yX7_getWord, .instanceMethod yX7_getWord, .selects RX7 yX7_getWord yX7_getWord, .initialized RX7, .code yX7_getWord cX7_getWord 2 (some .int), .methodLink RX7 39 yX7_get, .instanceMethod yX7_get, .selects RX7 yX7_get yX7_get, .code yX7_get cX7_get 2 (some .int), .fieldLink RX7 7 "DiskMachineModel" "memory" "[I"] ++ wsX70)
def wsX7_hl : List Cond := .code yX7_hl cX7_hl 1 (some .int) :: ([.fieldLink RX7 16 "DiskMachineModel" "\x72" "[I"] ++ wsX70)
def wsX7_pair : List Cond := .code yX7_pair cX7_pair 2 (some .int) :: ([.fieldLink RX7 55 "DiskMachineModel" "sp" "I", .fieldLink RX7 16 "DiskMachineModel" "\x72" "[I"] ++ wsX70)
def wsX7_setPair : List Cond := .code yX7_setPair cX7_setPair 3 none :: ([.constant RX7 50 (65535), .fieldLink RX7 55 "DiskMachineModel" "sp" "I", .fieldLink RX7 16 "DiskMachineModel" "\x72" "[I"] ++ wsX70)
def wsX7_reg : List Cond := .code yX7_reg cX7_reg 2 (some .int) :: ([.fieldLink RX7 16 "DiskMachineModel" "\x72" "[I", .methodLink RX7 64 yX7_hl, .instanceMethod yX7_hl, .selects RX7 yX7_hl yX7_hl, .initialized RX7, .code yX7_hl cX7_hl 1 (some .int), .methodLink RX7 39 yX7_get, .instanceMethod yX7_get, .selects RX7 yX7_get yX7_get, .code yX7_get cX7_get 2 (some .int), .fieldLink RX7 7 "DiskMachineModel" "memory" "[I"] ++ wsX70)
def wsX7_setReg : List Cond := .code yX7_setReg cX7_setReg 3 none :: ([.fieldLink RX7 16 "DiskMachineModel" "\x72" "[I", .methodLink RX7 64 yX7_hl, .instanceMethod yX7_hl, .selects RX7 yX7_hl yX7_hl, .initialized RX7, .code yX7_hl cX7_hl 1 (some .int), .methodLink RX7 43 yX7_set, .instanceMethod yX7_set, .selects RX7 yX7_set yX7_set, .code yX7_set cX7_set 3 none, .fieldLink RX7 7 "DiskMachineModel" "memory" "[I"] ++ wsX70)
def wsX7_flags : List Cond := .code yX7_flags cX7_flags 1 (some .int) :: ([.fieldLink RX7 67 "DiskMachineModel" "sign" "Z", .fieldLink RX7 71 "DiskMachineModel" "zero" "Z", .fieldLink RX7 74 "DiskMachineModel" "half" "Z", .fieldLink RX7 77 "DiskMachineModel" "parity" "Z", .fieldLink RX7 80 "DiskMachineModel" "carry" "Z"] ++ wsX70)
def wsX7_setFlags : List Cond := .code yX7_setFlags cX7_setFlags 2 none :: ([.fieldLink RX7 67 "DiskMachineModel" "sign" "Z", .fieldLink RX7 71 "DiskMachineModel" "zero" "Z", .fieldLink RX7 74 "DiskMachineModel" "half" "Z", .fieldLink RX7 77 "DiskMachineModel" "parity" "Z", .fieldLink RX7 80 "DiskMachineModel" "carry" "Z"] ++ wsX70)
def wsX7_register : List Cond := .code yX7_register cX7_register 2 (some .int) :: ([.fieldLink RX7 29 "DiskMachineModel" "thrown" "I", .fieldLink RX7 47 "DiskMachineModel" "pc" "I", .fieldLink RX7 55 "DiskMachineModel" "sp" "I", .fieldLink RX7 16 "DiskMachineModel" "\x72" "[I", .methodLink RX7 83 yX7_flags, .instanceMethod yX7_flags, .selects RX7 yX7_flags yX7_flags, .initialized RX7, .code yX7_flags cX7_flags 1 (some .int), .fieldLink RX7 67 "DiskMachineModel" "sign" "Z", .fieldLink RX7 71 "DiskMachineModel" "zero" "Z", .fieldLink RX7 74 "DiskMachineModel" "half" "Z", .fieldLink RX7 77 "DiskMachineModel" "parity" "Z", .fieldLink RX7 80 "DiskMachineModel" "carry" "Z"] ++ wsX70)
def wsX7_put : List Cond := .code yX7_put cX7_put 3 none :: ([.fieldLink RX7 29 "DiskMachineModel" "thrown" "I", .constant RX7 50 (65535), .fieldLink RX7 47 "DiskMachineModel" "pc" "I", .fieldLink RX7 55 "DiskMachineModel" "sp" "I", .fieldLink RX7 16 "DiskMachineModel" "\x72" "[I", .methodLink RX7 86 yX7_setFlags, .instanceMethod yX7_setFlags, .selects RX7 yX7_setFlags yX7_setFlags, .initialized RX7, .code yX7_setFlags cX7_setFlags 2 none, .fieldLink RX7 67 "DiskMachineModel" "sign" "Z", .fieldLink RX7 71 "DiskMachineModel" "zero" "Z", .fieldLink RX7 74 "DiskMachineModel" "half" "Z", .fieldLink RX7 77 "DiskMachineModel" "parity" "Z", .fieldLink RX7 80 "DiskMachineModel" "carry" "Z"] ++ wsX70)
def wsX7_logic : List Cond := .code yX7_logic cX7_logic 4 none :: ([.fieldLink RX7 67 "DiskMachineModel" "sign" "Z", .fieldLink RX7 71 "DiskMachineModel" "zero" "Z", .fieldLink RX7 77 "DiskMachineModel" "parity" "Z"] ++ wsX70)
def wsX7_holds : List Cond := .code yX7_holds cX7_holds 3 (some .boolean) :: ([.fieldLink RX7 71 "DiskMachineModel" "zero" "Z", .fieldLink RX7 80 "DiskMachineModel" "carry" "Z", .fieldLink RX7 77 "DiskMachineModel" "parity" "Z", .fieldLink RX7 67 "DiskMachineModel" "sign" "Z"] ++ wsX70)
def wsX7_sum_ : List Cond := .code yX7_sum_ cX7_sum_ 4 none :: ([.fieldLink RX7 16 "DiskMachineModel" "\x72" "[I", .fieldLink RX7 74 "DiskMachineModel" "half" "Z", .fieldLink RX7 80 "DiskMachineModel" "carry" "Z", .methodLink RX7 90 yX7_logic, .instanceMethod yX7_logic, .selects RX7 yX7_logic yX7_logic, .initialized RX7, .code yX7_logic cX7_logic 4 none, .fieldLink RX7 67 "DiskMachineModel" "sign" "Z", .fieldLink RX7 71 "DiskMachineModel" "zero" "Z", .fieldLink RX7 77 "DiskMachineModel" "parity" "Z"] ++ wsX70)
def wsX7_less : List Cond := .code yX7_less cX7_less 4 (some .int) :: ([.fieldLink RX7 16 "DiskMachineModel" "\x72" "[I", .fieldLink RX7 74 "DiskMachineModel" "half" "Z", .fieldLink RX7 80 "DiskMachineModel" "carry" "Z", .methodLink RX7 90 yX7_logic, .instanceMethod yX7_logic, .selects RX7 yX7_logic yX7_logic, .initialized RX7, .code yX7_logic cX7_logic 4 none, .fieldLink RX7 67 "DiskMachineModel" "sign" "Z", .fieldLink RX7 71 "DiskMachineModel" "zero" "Z", .fieldLink RX7 77 "DiskMachineModel" "parity" "Z"] ++ wsX70)
def wsX7_reckon : List Cond := .code yX7_reckon cX7_reckon 6 none :: ([.fieldLink RX7 16 "DiskMachineModel" "\x72" "[I", .fieldLink RX7 80 "DiskMachineModel" "carry" "Z", .fieldLink RX7 74 "DiskMachineModel" "half" "Z", .methodLink RX7 93 yX7_sum_, .instanceMethod yX7_sum_, .selects RX7 yX7_sum_ yX7_sum_, .initialized RX7, .code yX7_sum_ cX7_sum_ 4 none, .methodLink RX7 90 yX7_logic, .instanceMethod yX7_logic, .selects RX7 yX7_logic yX7_logic, .code yX7_logic cX7_logic 4 none, .fieldLink RX7 67 "DiskMachineModel" "sign" "Z", .fieldLink RX7 71 "DiskMachineModel" "zero" "Z", .fieldLink RX7 77 "DiskMachineModel" "parity" "Z", .methodLink RX7 96 yX7_less, .instanceMethod yX7_less, .selects RX7 yX7_less yX7_less, .code yX7_less cX7_less 4 (some .int)] ++ wsX70)
def wsX7_adjust : List Cond := .code yX7_adjust cX7_adjust 5 none :: ([.fieldLink RX7 16 "DiskMachineModel" "\x72" "[I", .fieldLink RX7 80 "DiskMachineModel" "carry" "Z", .fieldLink RX7 74 "DiskMachineModel" "half" "Z", .methodLink RX7 90 yX7_logic, .instanceMethod yX7_logic, .selects RX7 yX7_logic yX7_logic, .initialized RX7, .code yX7_logic cX7_logic 4 none, .fieldLink RX7 67 "DiskMachineModel" "sign" "Z", .fieldLink RX7 71 "DiskMachineModel" "zero" "Z", .fieldLink RX7 77 "DiskMachineModel" "parity" "Z"] ++ wsX70)
def wsX7_turn : List Cond := .code yX7_turn cX7_turn 4 none :: ([.fieldLink RX7 16 "DiskMachineModel" "\x72" "[I", .fieldLink RX7 80 "DiskMachineModel" "carry" "Z", .methodLink RX7 100 yX7_adjust, .instanceMethod yX7_adjust, .selects RX7 yX7_adjust yX7_adjust, .initialized RX7, .code yX7_adjust cX7_adjust 5 none, .fieldLink RX7 74 "DiskMachineModel" "half" "Z", .methodLink RX7 90 yX7_logic, .instanceMethod yX7_logic, .selects RX7 yX7_logic yX7_logic, .code yX7_logic cX7_logic 4 none, .fieldLink RX7 67 "DiskMachineModel" "sign" "Z", .fieldLink RX7 71 "DiskMachineModel" "zero" "Z", .fieldLink RX7 77 "DiskMachineModel" "parity" "Z"] ++ wsX70)
def wsX7_in : List Cond := .code yX7_in cX7_in 4 (some .int) :: ([.fieldLink RX7 103 "DiskMachineModel" "inputs" "I", .fieldLink RX7 23 "DiskMachineModel" "input" "[I", .fieldLink RX7 106 "DiskMachineModel" "state" "I"] ++ wsX70)
def wsX7_out : List Cond := .code yX7_out cX7_out 3 none :: ([.fieldLink RX7 26 "DiskMachineModel" "output" "[I", .fieldLink RX7 109 "DiskMachineModel" "outputs" "I", .fieldLink RX7 112 "DiskMachineModel" "sector" "I", .fieldLink RX7 115 "DiskMachineModel" "address" "I", .constant RX7 118 (65280), .fieldLink RX7 119 "DiskMachineModel" "call" "I", .fieldLink RX7 106 "DiskMachineModel" "state" "I", .fieldLink RX7 122 "DiskMachineModel" "command" "I", .fieldLink RX7 125 "DiskMachineModel" "from" "I", .fieldLink RX7 128 "DiskMachineModel" "moved" "I", .fieldLink RX7 131 "DiskMachineModel" "due" "I", .fieldLink RX7 134 "DiskMachineModel" "fresh" "Z"] ++ wsX70)
def wsX7_moveOne : List Cond := .code yX7_moveOne cX7_moveOne 1 none :: ([.fieldLink RX7 122 "DiskMachineModel" "command" "I", .fieldLink RX7 115 "DiskMachineModel" "address" "I", .fieldLink RX7 13 "DiskMachineModel" "disk" "[I", .fieldLink RX7 125 "DiskMachineModel" "from" "I", .fieldLink RX7 128 "DiskMachineModel" "moved" "I", .constant RX7 50 (65535), .fieldLink RX7 106 "DiskMachineModel" "state" "I", .fieldLink RX7 119 "DiskMachineModel" "call" "I", .fieldLink RX7 19 "DiskMachineModel" "wanted" "I", .methodLink RX7 43 yX7_set, .instanceMethod yX7_set, .selects RX7 yX7_set yX7_set, .initialized RX7, .code yX7_set cX7_set 3 none, .fieldLink RX7 7 "DiskMachineModel" "memory" "[I", .methodLink RX7 39 yX7_get, .instanceMethod yX7_get, .selects RX7 yX7_get yX7_get, .code yX7_get cX7_get 2 (some .int)] ++ wsX70)
def wsX7_pass_r1 : List Cond := [Cond.fieldLink RX7 137 "DiskMachineModel" "cycles" "J", Cond.fieldLink RX7 141 "DiskMachineModel" "spent" "I", Cond.fieldLink RX7 106 "DiskMachineModel" "state" "I", Cond.fieldLink RX7 134 "DiskMachineModel" "fresh" "Z", Cond.fieldLink RX7 131 "DiskMachineModel" "due" "I", Cond.methodLink RX7 144 yX7_moveOne, Cond.instanceMethod yX7_moveOne, Cond.selects RX7 yX7_moveOne yX7_moveOne, Cond.initialized RX7, Cond.code yX7_moveOne cX7_moveOne 1 none, Cond.fieldLink RX7 122 "DiskMachineModel" "command" "I", Cond.fieldLink RX7 115 "DiskMachineModel" "address" "I", Cond.fieldLink RX7 13 "DiskMachineModel" "disk" "[I", Cond.fieldLink RX7 125 "DiskMachineModel" "from" "I", Cond.fieldLink RX7 128 "DiskMachineModel" "moved" "I", Cond.constant RX7 50 (65535), Cond.fieldLink RX7 119 "DiskMachineModel" "call" "I", Cond.fieldLink RX7 19 "DiskMachineModel" "wanted" "I", Cond.methodLink RX7 43 yX7_set, Cond.instanceMethod yX7_set, Cond.selects RX7 yX7_set yX7_set, Cond.code yX7_set cX7_set 3 none, Cond.fieldLink RX7 7 "DiskMachineModel" "memory" "[I", Cond.methodLink RX7 39 yX7_get]
def wsX7_pass_r2 : List Cond := [Cond.instanceMethod yX7_get, Cond.selects RX7 yX7_get yX7_get, Cond.code yX7_get cX7_get 2 (some .int)]
def wsX7_pass : List Cond := .code yX7_pass cX7_pass 1 none :: ((wsX7_pass_r1 ++ wsX7_pass_r2) ++ wsX70)
def wsX7_byAddress_r1 : List Cond := [Cond.fieldLink RX7 141 "DiskMachineModel" "spent" "I", Cond.fieldLink RX7 16 "DiskMachineModel" "\x72" "[I", Cond.methodLink RX7 147 yX7_pair, Cond.instanceMethod yX7_pair, Cond.selects RX7 yX7_pair yX7_pair, Cond.initialized RX7, Cond.code yX7_pair cX7_pair 2 (some .int), Cond.fieldLink RX7 55 "DiskMachineModel" "sp" "I", Cond.methodLink RX7 153 yX7_nextWord, Cond.instanceMethod yX7_nextWord, Cond.selects RX7 yX7_nextWord yX7_nextWord, Cond.code yX7_nextWord cX7_nextWord 2 (some .int), Cond.methodLink RX7 51 yX7_next, Cond.instanceMethod yX7_next, Cond.selects RX7 yX7_next yX7_next, Cond.code yX7_next cX7_next 2 (some .int), Cond.fieldLink RX7 47 "DiskMachineModel" "pc" "I", Cond.constant RX7 50 (65535), Cond.methodLink RX7 39 yX7_get, Cond.instanceMethod yX7_get, Cond.selects RX7 yX7_get yX7_get, Cond.code yX7_get cX7_get 2 (some .int), Cond.fieldLink RX7 7 "DiskMachineModel" "memory" "[I", Cond.methodLink RX7 64 yX7_hl]
def wsX7_byAddress_r2 : List Cond := [Cond.instanceMethod yX7_hl, Cond.selects RX7 yX7_hl yX7_hl, Cond.code yX7_hl cX7_hl 1 (some .int), Cond.methodLink RX7 58 yX7_setWord, Cond.instanceMethod yX7_setWord, Cond.selects RX7 yX7_setWord yX7_setWord, Cond.code yX7_setWord cX7_setWord 3 none, Cond.methodLink RX7 43 yX7_set, Cond.instanceMethod yX7_set, Cond.selects RX7 yX7_set yX7_set, Cond.code yX7_set cX7_set 3 none, Cond.methodLink RX7 61 yX7_getWord, Cond.instanceMethod yX7_getWord, Cond.selects RX7 yX7_getWord yX7_getWord, Cond.code yX7_getWord cX7_getWord 2 (some .int), Cond.methodLink RX7 150 yX7_setPair, Cond.instanceMethod yX7_setPair, Cond.selects RX7 yX7_setPair yX7_setPair, Cond.code yX7_setPair cX7_setPair 3 none]
def wsX7_byAddress : List Cond := .code yX7_byAddress cX7_byAddress 3 none :: ((wsX7_byAddress_r1 ++ wsX7_byAddress_r2) ++ wsX70)
def wsX7_zero_r1 : List Cond := [Cond.fieldLink RX7 141 "DiskMachineModel" "spent" "I", Cond.constant RX7 50 (65535), Cond.fieldLink RX7 80 "DiskMachineModel" "carry" "Z", Cond.fieldLink RX7 74 "DiskMachineModel" "half" "Z", Cond.methodLink RX7 64 yX7_hl, Cond.instanceMethod yX7_hl, Cond.selects RX7 yX7_hl yX7_hl, Cond.initialized RX7, Cond.code yX7_hl cX7_hl 1 (some .int), Cond.fieldLink RX7 16 "DiskMachineModel" "\x72" "[I", Cond.methodLink RX7 147 yX7_pair, Cond.instanceMethod yX7_pair, Cond.selects RX7 yX7_pair yX7_pair, Cond.code yX7_pair cX7_pair 2 (some .int), Cond.fieldLink RX7 55 "DiskMachineModel" "sp" "I", Cond.methodLink RX7 150 yX7_setPair, Cond.instanceMethod yX7_setPair, Cond.selects RX7 yX7_setPair yX7_setPair, Cond.code yX7_setPair cX7_setPair 3 none, Cond.methodLink RX7 153 yX7_nextWord, Cond.instanceMethod yX7_nextWord, Cond.selects RX7 yX7_nextWord yX7_nextWord, Cond.code yX7_nextWord cX7_nextWord 2 (some .int), Cond.methodLink RX7 51 yX7_next]
def wsX7_zero_r2 : List Cond := [Cond.instanceMethod yX7_next, Cond.selects RX7 yX7_next yX7_next, Cond.code yX7_next cX7_next 2 (some .int), Cond.fieldLink RX7 47 "DiskMachineModel" "pc" "I", Cond.methodLink RX7 39 yX7_get, Cond.instanceMethod yX7_get, Cond.selects RX7 yX7_get yX7_get, Cond.code yX7_get cX7_get 2 (some .int), Cond.fieldLink RX7 7 "DiskMachineModel" "memory" "[I", Cond.methodLink RX7 156 yX7_byAddress, Cond.instanceMethod yX7_byAddress, Cond.selects RX7 yX7_byAddress yX7_byAddress, Cond.code yX7_byAddress cX7_byAddress 3 none, Cond.methodLink RX7 58 yX7_setWord, Cond.instanceMethod yX7_setWord, Cond.selects RX7 yX7_setWord yX7_setWord, Cond.code yX7_setWord cX7_setWord 3 none, Cond.methodLink RX7 43 yX7_set, Cond.instanceMethod yX7_set, Cond.selects RX7 yX7_set yX7_set, Cond.code yX7_set cX7_set 3 none, Cond.methodLink RX7 61 yX7_getWord, Cond.instanceMethod yX7_getWord, Cond.selects RX7 yX7_getWord yX7_getWord]
def wsX7_zero_r3 : List Cond := [Cond.code yX7_getWord cX7_getWord 2 (some .int), Cond.methodLink RX7 159 yX7_reg, Cond.instanceMethod yX7_reg, Cond.selects RX7 yX7_reg yX7_reg, Cond.code yX7_reg cX7_reg 2 (some .int), Cond.methodLink RX7 162 yX7_setReg, Cond.instanceMethod yX7_setReg, Cond.selects RX7 yX7_setReg yX7_setReg, Cond.code yX7_setReg cX7_setReg 3 none, Cond.methodLink RX7 90 yX7_logic, Cond.instanceMethod yX7_logic, Cond.selects RX7 yX7_logic yX7_logic, Cond.code yX7_logic cX7_logic 4 none, Cond.fieldLink RX7 67 "DiskMachineModel" "sign" "Z", Cond.fieldLink RX7 71 "DiskMachineModel" "zero" "Z", Cond.fieldLink RX7 77 "DiskMachineModel" "parity" "Z", Cond.methodLink RX7 165 yX7_turn, Cond.instanceMethod yX7_turn, Cond.selects RX7 yX7_turn yX7_turn, Cond.code yX7_turn cX7_turn 4 none, Cond.methodLink RX7 100 yX7_adjust, Cond.instanceMethod yX7_adjust, Cond.selects RX7 yX7_adjust yX7_adjust, Cond.code yX7_adjust cX7_adjust 5 none]
def wsX7_zero : List Cond := .code yX7_zero cX7_zero 6 none :: ((wsX7_zero_r1 ++ (wsX7_zero_r2 ++ wsX7_zero_r3)) ++ wsX70)
def wsX7_jumpTo_r1 : List Cond := [Cond.fieldLink RX7 141 "DiskMachineModel" "spent" "I", Cond.fieldLink RX7 47 "DiskMachineModel" "pc" "I", Cond.methodLink RX7 153 yX7_nextWord, Cond.instanceMethod yX7_nextWord, Cond.selects RX7 yX7_nextWord yX7_nextWord, Cond.initialized RX7, Cond.code yX7_nextWord cX7_nextWord 2 (some .int), Cond.methodLink RX7 51 yX7_next, Cond.instanceMethod yX7_next, Cond.selects RX7 yX7_next yX7_next, Cond.code yX7_next cX7_next 2 (some .int), Cond.constant RX7 50 (65535), Cond.methodLink RX7 39 yX7_get, Cond.instanceMethod yX7_get, Cond.selects RX7 yX7_get yX7_get, Cond.code yX7_get cX7_get 2 (some .int), Cond.fieldLink RX7 7 "DiskMachineModel" "memory" "[I", Cond.methodLink RX7 168 yX7_push, Cond.instanceMethod yX7_push, Cond.selects RX7 yX7_push yX7_push, Cond.code yX7_push cX7_push 2 none, Cond.fieldLink RX7 55 "DiskMachineModel" "sp" "I", Cond.methodLink RX7 58 yX7_setWord, Cond.instanceMethod yX7_setWord]
def wsX7_jumpTo_r2 : List Cond := [Cond.selects RX7 yX7_setWord yX7_setWord, Cond.code yX7_setWord cX7_setWord 3 none, Cond.methodLink RX7 43 yX7_set, Cond.instanceMethod yX7_set, Cond.selects RX7 yX7_set yX7_set, Cond.code yX7_set cX7_set 3 none]
def wsX7_jumpTo : List Cond := .code yX7_jumpTo cX7_jumpTo 5 none :: ((wsX7_jumpTo_r1 ++ wsX7_jumpTo_r2) ++ wsX70)
def wsX7_single_r1 : List Cond := [Cond.fieldLink RX7 141 "DiskMachineModel" "spent" "I", Cond.fieldLink RX7 16 "DiskMachineModel" "\x72" "[I", Cond.fieldLink RX7 47 "DiskMachineModel" "pc" "I", Cond.fieldLink RX7 55 "DiskMachineModel" "sp" "I", Cond.methodLink RX7 174 yX7_pop, Cond.instanceMethod yX7_pop, Cond.selects RX7 yX7_pop yX7_pop, Cond.initialized RX7, Cond.code yX7_pop cX7_pop 2 (some .int), Cond.constant RX7 50 (65535), Cond.methodLink RX7 61 yX7_getWord, Cond.instanceMethod yX7_getWord, Cond.selects RX7 yX7_getWord yX7_getWord, Cond.code yX7_getWord cX7_getWord 2 (some .int), Cond.methodLink RX7 39 yX7_get, Cond.instanceMethod yX7_get, Cond.selects RX7 yX7_get yX7_get, Cond.code yX7_get cX7_get 2 (some .int), Cond.fieldLink RX7 7 "DiskMachineModel" "memory" "[I", Cond.methodLink RX7 86 yX7_setFlags, Cond.instanceMethod yX7_setFlags, Cond.selects RX7 yX7_setFlags yX7_setFlags, Cond.code yX7_setFlags cX7_setFlags 2 none, Cond.fieldLink RX7 67 "DiskMachineModel" "sign" "Z"]
def wsX7_single_r2 : List Cond := [Cond.fieldLink RX7 71 "DiskMachineModel" "zero" "Z", Cond.fieldLink RX7 74 "DiskMachineModel" "half" "Z", Cond.fieldLink RX7 77 "DiskMachineModel" "parity" "Z", Cond.fieldLink RX7 80 "DiskMachineModel" "carry" "Z", Cond.methodLink RX7 150 yX7_setPair, Cond.instanceMethod yX7_setPair, Cond.selects RX7 yX7_setPair yX7_setPair, Cond.code yX7_setPair cX7_setPair 3 none, Cond.methodLink RX7 64 yX7_hl, Cond.instanceMethod yX7_hl, Cond.selects RX7 yX7_hl yX7_hl, Cond.code yX7_hl cX7_hl 1 (some .int)]
def wsX7_single : List Cond := .code yX7_single cX7_single 3 none :: ((wsX7_single_r1 ++ wsX7_single_r2) ++ wsX70)
def wsX7_special_r1 : List Cond := [Cond.fieldLink RX7 141 "DiskMachineModel" "spent" "I", Cond.fieldLink RX7 47 "DiskMachineModel" "pc" "I", Cond.fieldLink RX7 16 "DiskMachineModel" "\x72" "[I", Cond.fieldLink RX7 55 "DiskMachineModel" "sp" "I", Cond.fieldLink RX7 196 "DiskMachineModel" "on" "Z", Cond.fieldLink RX7 199 "DiskMachineModel" "justOn" "Z", Cond.methodLink RX7 153 yX7_nextWord, Cond.instanceMethod yX7_nextWord, Cond.selects RX7 yX7_nextWord yX7_nextWord, Cond.initialized RX7, Cond.code yX7_nextWord cX7_nextWord 2 (some .int), Cond.methodLink RX7 51 yX7_next, Cond.instanceMethod yX7_next, Cond.selects RX7 yX7_next yX7_next, Cond.code yX7_next cX7_next 2 (some .int), Cond.constant RX7 50 (65535), Cond.methodLink RX7 39 yX7_get, Cond.instanceMethod yX7_get, Cond.selects RX7 yX7_get yX7_get, Cond.code yX7_get cX7_get 2 (some .int), Cond.fieldLink RX7 7 "DiskMachineModel" "memory" "[I", Cond.methodLink RX7 190 yX7_out, Cond.instanceMethod yX7_out, Cond.selects RX7 yX7_out yX7_out]
def wsX7_special_r2 : List Cond := [Cond.code yX7_out cX7_out 3 none, Cond.fieldLink RX7 26 "DiskMachineModel" "output" "[I", Cond.fieldLink RX7 109 "DiskMachineModel" "outputs" "I", Cond.fieldLink RX7 112 "DiskMachineModel" "sector" "I", Cond.fieldLink RX7 115 "DiskMachineModel" "address" "I", Cond.constant RX7 118 (65280), Cond.fieldLink RX7 119 "DiskMachineModel" "call" "I", Cond.fieldLink RX7 106 "DiskMachineModel" "state" "I", Cond.fieldLink RX7 122 "DiskMachineModel" "command" "I", Cond.fieldLink RX7 125 "DiskMachineModel" "from" "I", Cond.fieldLink RX7 128 "DiskMachineModel" "moved" "I", Cond.fieldLink RX7 131 "DiskMachineModel" "due" "I", Cond.fieldLink RX7 134 "DiskMachineModel" "fresh" "Z", Cond.methodLink RX7 193 yX7_in, Cond.instanceMethod yX7_in, Cond.selects RX7 yX7_in yX7_in, Cond.code yX7_in cX7_in 4 (some .int), Cond.fieldLink RX7 103 "DiskMachineModel" "inputs" "I", Cond.fieldLink RX7 23 "DiskMachineModel" "input" "[I", Cond.methodLink RX7 61 yX7_getWord, Cond.instanceMethod yX7_getWord, Cond.selects RX7 yX7_getWord yX7_getWord, Cond.code yX7_getWord cX7_getWord 2 (some .int), Cond.methodLink RX7 64 yX7_hl]
def wsX7_special_r3 : List Cond := [Cond.instanceMethod yX7_hl, Cond.selects RX7 yX7_hl yX7_hl, Cond.code yX7_hl cX7_hl 1 (some .int), Cond.methodLink RX7 58 yX7_setWord, Cond.instanceMethod yX7_setWord, Cond.selects RX7 yX7_setWord yX7_setWord, Cond.code yX7_setWord cX7_setWord 3 none, Cond.methodLink RX7 43 yX7_set, Cond.instanceMethod yX7_set, Cond.selects RX7 yX7_set yX7_set, Cond.code yX7_set cX7_set 3 none, Cond.methodLink RX7 150 yX7_setPair, Cond.instanceMethod yX7_setPair, Cond.selects RX7 yX7_setPair yX7_setPair, Cond.code yX7_setPair cX7_setPair 3 none, Cond.methodLink RX7 147 yX7_pair, Cond.instanceMethod yX7_pair, Cond.selects RX7 yX7_pair yX7_pair, Cond.code yX7_pair cX7_pair 2 (some .int)]
def wsX7_special : List Cond := .code yX7_special cX7_special 3 none :: ((wsX7_special_r1 ++ (wsX7_special_r2 ++ wsX7_special_r3)) ++ wsX70)
def wsX7_three_r1 : List Cond := [Cond.fieldLink RX7 141 "DiskMachineModel" "spent" "I", Cond.fieldLink RX7 47 "DiskMachineModel" "pc" "I", Cond.fieldLink RX7 16 "DiskMachineModel" "\x72" "[I", Cond.methodLink RX7 171 yX7_holds, Cond.instanceMethod yX7_holds, Cond.selects RX7 yX7_holds yX7_holds, Cond.initialized RX7, Cond.code yX7_holds cX7_holds 3 (some .boolean), Cond.fieldLink RX7 71 "DiskMachineModel" "zero" "Z", Cond.fieldLink RX7 80 "DiskMachineModel" "carry" "Z", Cond.fieldLink RX7 77 "DiskMachineModel" "parity" "Z", Cond.fieldLink RX7 67 "DiskMachineModel" "sign" "Z", Cond.methodLink RX7 174 yX7_pop, Cond.instanceMethod yX7_pop, Cond.selects RX7 yX7_pop yX7_pop, Cond.code yX7_pop cX7_pop 2 (some .int), Cond.fieldLink RX7 55 "DiskMachineModel" "sp" "I", Cond.constant RX7 50 (65535), Cond.methodLink RX7 61 yX7_getWord, Cond.instanceMethod yX7_getWord, Cond.selects RX7 yX7_getWord yX7_getWord, Cond.code yX7_getWord cX7_getWord 2 (some .int), Cond.methodLink RX7 39 yX7_get, Cond.instanceMethod yX7_get]
def wsX7_three_r2 : List Cond := [Cond.selects RX7 yX7_get yX7_get, Cond.code yX7_get cX7_get 2 (some .int), Cond.fieldLink RX7 7 "DiskMachineModel" "memory" "[I", Cond.methodLink RX7 177 yX7_single, Cond.instanceMethod yX7_single, Cond.selects RX7 yX7_single yX7_single, Cond.code yX7_single cX7_single 3 none, Cond.methodLink RX7 86 yX7_setFlags, Cond.instanceMethod yX7_setFlags, Cond.selects RX7 yX7_setFlags yX7_setFlags, Cond.code yX7_setFlags cX7_setFlags 2 none, Cond.fieldLink RX7 74 "DiskMachineModel" "half" "Z", Cond.methodLink RX7 150 yX7_setPair, Cond.instanceMethod yX7_setPair, Cond.selects RX7 yX7_setPair yX7_setPair, Cond.code yX7_setPair cX7_setPair 3 none, Cond.methodLink RX7 64 yX7_hl, Cond.instanceMethod yX7_hl, Cond.selects RX7 yX7_hl yX7_hl, Cond.code yX7_hl cX7_hl 1 (some .int), Cond.methodLink RX7 180 yX7_jumpTo, Cond.instanceMethod yX7_jumpTo, Cond.selects RX7 yX7_jumpTo yX7_jumpTo, Cond.code yX7_jumpTo cX7_jumpTo 5 none]
def wsX7_three_r3 : List Cond := [Cond.methodLink RX7 153 yX7_nextWord, Cond.instanceMethod yX7_nextWord, Cond.selects RX7 yX7_nextWord yX7_nextWord, Cond.code yX7_nextWord cX7_nextWord 2 (some .int), Cond.methodLink RX7 51 yX7_next, Cond.instanceMethod yX7_next, Cond.selects RX7 yX7_next yX7_next, Cond.code yX7_next cX7_next 2 (some .int), Cond.methodLink RX7 168 yX7_push, Cond.instanceMethod yX7_push, Cond.selects RX7 yX7_push yX7_push, Cond.code yX7_push cX7_push 2 none, Cond.methodLink RX7 58 yX7_setWord, Cond.instanceMethod yX7_setWord, Cond.selects RX7 yX7_setWord yX7_setWord, Cond.code yX7_setWord cX7_setWord 3 none, Cond.methodLink RX7 43 yX7_set, Cond.instanceMethod yX7_set, Cond.selects RX7 yX7_set yX7_set, Cond.code yX7_set cX7_set 3 none, Cond.methodLink RX7 184 yX7_special, Cond.instanceMethod yX7_special, Cond.selects RX7 yX7_special yX7_special, Cond.code yX7_special cX7_special 3 none]
def wsX7_three_r4 : List Cond := [Cond.fieldLink RX7 196 "DiskMachineModel" "on" "Z", Cond.fieldLink RX7 199 "DiskMachineModel" "justOn" "Z", Cond.methodLink RX7 190 yX7_out, Cond.instanceMethod yX7_out, Cond.selects RX7 yX7_out yX7_out, Cond.code yX7_out cX7_out 3 none, Cond.fieldLink RX7 26 "DiskMachineModel" "output" "[I", Cond.fieldLink RX7 109 "DiskMachineModel" "outputs" "I", Cond.fieldLink RX7 112 "DiskMachineModel" "sector" "I", Cond.fieldLink RX7 115 "DiskMachineModel" "address" "I", Cond.constant RX7 118 (65280), Cond.fieldLink RX7 119 "DiskMachineModel" "call" "I", Cond.fieldLink RX7 106 "DiskMachineModel" "state" "I", Cond.fieldLink RX7 122 "DiskMachineModel" "command" "I", Cond.fieldLink RX7 125 "DiskMachineModel" "from" "I", Cond.fieldLink RX7 128 "DiskMachineModel" "moved" "I", Cond.fieldLink RX7 131 "DiskMachineModel" "due" "I", Cond.fieldLink RX7 134 "DiskMachineModel" "fresh" "Z", Cond.methodLink RX7 193 yX7_in, Cond.instanceMethod yX7_in, Cond.selects RX7 yX7_in yX7_in, Cond.code yX7_in cX7_in 4 (some .int), Cond.fieldLink RX7 103 "DiskMachineModel" "inputs" "I", Cond.fieldLink RX7 23 "DiskMachineModel" "input" "[I"]
def wsX7_three_r5 : List Cond := [Cond.methodLink RX7 147 yX7_pair, Cond.instanceMethod yX7_pair, Cond.selects RX7 yX7_pair yX7_pair, Cond.code yX7_pair cX7_pair 2 (some .int), Cond.methodLink RX7 83 yX7_flags, Cond.instanceMethod yX7_flags, Cond.selects RX7 yX7_flags yX7_flags, Cond.code yX7_flags cX7_flags 1 (some .int), Cond.methodLink RX7 187 yX7_reckon, Cond.instanceMethod yX7_reckon, Cond.selects RX7 yX7_reckon yX7_reckon, Cond.code yX7_reckon cX7_reckon 6 none, Cond.methodLink RX7 93 yX7_sum_, Cond.instanceMethod yX7_sum_, Cond.selects RX7 yX7_sum_ yX7_sum_, Cond.code yX7_sum_ cX7_sum_ 4 none, Cond.methodLink RX7 90 yX7_logic, Cond.instanceMethod yX7_logic, Cond.selects RX7 yX7_logic yX7_logic, Cond.code yX7_logic cX7_logic 4 none, Cond.methodLink RX7 96 yX7_less, Cond.instanceMethod yX7_less, Cond.selects RX7 yX7_less yX7_less, Cond.code yX7_less cX7_less 4 (some .int)]
def wsX7_three : List Cond := .code yX7_three cX7_three 4 none :: ((wsX7_three_r1 ++ (wsX7_three_r2 ++ (wsX7_three_r3 ++ (wsX7_three_r4 ++ wsX7_three_r5)))) ++ wsX70)
def wsX7_instruction_r1 : List Cond := [Cond.fieldLink RX7 199 "DiskMachineModel" "justOn" "Z", Cond.fieldLink RX7 141 "DiskMachineModel" "spent" "I", Cond.fieldLink RX7 204 "DiskMachineModel" "halted" "Z", Cond.methodLink RX7 51 yX7_next, Cond.instanceMethod yX7_next, Cond.selects RX7 yX7_next yX7_next, Cond.initialized RX7, Cond.code yX7_next cX7_next 2 (some .int), Cond.fieldLink RX7 47 "DiskMachineModel" "pc" "I", Cond.constant RX7 50 (65535), Cond.methodLink RX7 39 yX7_get, Cond.instanceMethod yX7_get, Cond.selects RX7 yX7_get yX7_get, Cond.code yX7_get cX7_get 2 (some .int), Cond.fieldLink RX7 7 "DiskMachineModel" "memory" "[I", Cond.methodLink RX7 202 yX7_zero, Cond.instanceMethod yX7_zero, Cond.selects RX7 yX7_zero yX7_zero, Cond.code yX7_zero cX7_zero 6 none, Cond.fieldLink RX7 80 "DiskMachineModel" "carry" "Z", Cond.fieldLink RX7 74 "DiskMachineModel" "half" "Z", Cond.methodLink RX7 64 yX7_hl, Cond.instanceMethod yX7_hl, Cond.selects RX7 yX7_hl yX7_hl]
def wsX7_instruction_r2 : List Cond := [Cond.code yX7_hl cX7_hl 1 (some .int), Cond.fieldLink RX7 16 "DiskMachineModel" "\x72" "[I", Cond.methodLink RX7 147 yX7_pair, Cond.instanceMethod yX7_pair, Cond.selects RX7 yX7_pair yX7_pair, Cond.code yX7_pair cX7_pair 2 (some .int), Cond.fieldLink RX7 55 "DiskMachineModel" "sp" "I", Cond.methodLink RX7 150 yX7_setPair, Cond.instanceMethod yX7_setPair, Cond.selects RX7 yX7_setPair yX7_setPair, Cond.code yX7_setPair cX7_setPair 3 none, Cond.methodLink RX7 153 yX7_nextWord, Cond.instanceMethod yX7_nextWord, Cond.selects RX7 yX7_nextWord yX7_nextWord, Cond.code yX7_nextWord cX7_nextWord 2 (some .int), Cond.methodLink RX7 156 yX7_byAddress, Cond.instanceMethod yX7_byAddress, Cond.selects RX7 yX7_byAddress yX7_byAddress, Cond.code yX7_byAddress cX7_byAddress 3 none, Cond.methodLink RX7 58 yX7_setWord, Cond.instanceMethod yX7_setWord, Cond.selects RX7 yX7_setWord yX7_setWord, Cond.code yX7_setWord cX7_setWord 3 none, Cond.methodLink RX7 43 yX7_set]
def wsX7_instruction_r3 : List Cond := [Cond.instanceMethod yX7_set, Cond.selects RX7 yX7_set yX7_set, Cond.code yX7_set cX7_set 3 none, Cond.methodLink RX7 61 yX7_getWord, Cond.instanceMethod yX7_getWord, Cond.selects RX7 yX7_getWord yX7_getWord, Cond.code yX7_getWord cX7_getWord 2 (some .int), Cond.methodLink RX7 159 yX7_reg, Cond.instanceMethod yX7_reg, Cond.selects RX7 yX7_reg yX7_reg, Cond.code yX7_reg cX7_reg 2 (some .int), Cond.methodLink RX7 162 yX7_setReg, Cond.instanceMethod yX7_setReg, Cond.selects RX7 yX7_setReg yX7_setReg, Cond.code yX7_setReg cX7_setReg 3 none, Cond.methodLink RX7 90 yX7_logic, Cond.instanceMethod yX7_logic, Cond.selects RX7 yX7_logic yX7_logic, Cond.code yX7_logic cX7_logic 4 none, Cond.fieldLink RX7 67 "DiskMachineModel" "sign" "Z", Cond.fieldLink RX7 71 "DiskMachineModel" "zero" "Z", Cond.fieldLink RX7 77 "DiskMachineModel" "parity" "Z", Cond.methodLink RX7 165 yX7_turn, Cond.instanceMethod yX7_turn]
def wsX7_instruction_r4 : List Cond := [Cond.selects RX7 yX7_turn yX7_turn, Cond.code yX7_turn cX7_turn 4 none, Cond.methodLink RX7 100 yX7_adjust, Cond.instanceMethod yX7_adjust, Cond.selects RX7 yX7_adjust yX7_adjust, Cond.code yX7_adjust cX7_adjust 5 none, Cond.methodLink RX7 187 yX7_reckon, Cond.instanceMethod yX7_reckon, Cond.selects RX7 yX7_reckon yX7_reckon, Cond.code yX7_reckon cX7_reckon 6 none, Cond.methodLink RX7 93 yX7_sum_, Cond.instanceMethod yX7_sum_, Cond.selects RX7 yX7_sum_ yX7_sum_, Cond.code yX7_sum_ cX7_sum_ 4 none, Cond.methodLink RX7 96 yX7_less, Cond.instanceMethod yX7_less, Cond.selects RX7 yX7_less yX7_less, Cond.code yX7_less cX7_less 4 (some .int), Cond.methodLink RX7 207 yX7_three, Cond.instanceMethod yX7_three, Cond.selects RX7 yX7_three yX7_three, Cond.code yX7_three cX7_three 4 none, Cond.methodLink RX7 171 yX7_holds, Cond.instanceMethod yX7_holds]
def wsX7_instruction_r5 : List Cond := [Cond.selects RX7 yX7_holds yX7_holds, Cond.code yX7_holds cX7_holds 3 (some .boolean), Cond.methodLink RX7 174 yX7_pop, Cond.instanceMethod yX7_pop, Cond.selects RX7 yX7_pop yX7_pop, Cond.code yX7_pop cX7_pop 2 (some .int), Cond.methodLink RX7 177 yX7_single, Cond.instanceMethod yX7_single, Cond.selects RX7 yX7_single yX7_single, Cond.code yX7_single cX7_single 3 none, Cond.methodLink RX7 86 yX7_setFlags, Cond.instanceMethod yX7_setFlags, Cond.selects RX7 yX7_setFlags yX7_setFlags, Cond.code yX7_setFlags cX7_setFlags 2 none, Cond.methodLink RX7 180 yX7_jumpTo, Cond.instanceMethod yX7_jumpTo, Cond.selects RX7 yX7_jumpTo yX7_jumpTo, Cond.code yX7_jumpTo cX7_jumpTo 5 none, Cond.methodLink RX7 168 yX7_push, Cond.instanceMethod yX7_push, Cond.selects RX7 yX7_push yX7_push, Cond.code yX7_push cX7_push 2 none, Cond.methodLink RX7 184 yX7_special, Cond.instanceMethod yX7_special]
def wsX7_instruction_r6 : List Cond := [Cond.selects RX7 yX7_special yX7_special, Cond.code yX7_special cX7_special 3 none, Cond.fieldLink RX7 196 "DiskMachineModel" "on" "Z", Cond.methodLink RX7 190 yX7_out, Cond.instanceMethod yX7_out, Cond.selects RX7 yX7_out yX7_out, Cond.code yX7_out cX7_out 3 none, Cond.fieldLink RX7 26 "DiskMachineModel" "output" "[I", Cond.fieldLink RX7 109 "DiskMachineModel" "outputs" "I", Cond.fieldLink RX7 112 "DiskMachineModel" "sector" "I", Cond.fieldLink RX7 115 "DiskMachineModel" "address" "I", Cond.constant RX7 118 (65280), Cond.fieldLink RX7 119 "DiskMachineModel" "call" "I", Cond.fieldLink RX7 106 "DiskMachineModel" "state" "I", Cond.fieldLink RX7 122 "DiskMachineModel" "command" "I", Cond.fieldLink RX7 125 "DiskMachineModel" "from" "I", Cond.fieldLink RX7 128 "DiskMachineModel" "moved" "I", Cond.fieldLink RX7 131 "DiskMachineModel" "due" "I", Cond.fieldLink RX7 134 "DiskMachineModel" "fresh" "Z", Cond.methodLink RX7 193 yX7_in, Cond.instanceMethod yX7_in, Cond.selects RX7 yX7_in yX7_in, Cond.code yX7_in cX7_in 4 (some .int), Cond.fieldLink RX7 103 "DiskMachineModel" "inputs" "I"]
def wsX7_instruction_r7 : List Cond := [Cond.fieldLink RX7 23 "DiskMachineModel" "input" "[I", Cond.methodLink RX7 83 yX7_flags, Cond.instanceMethod yX7_flags, Cond.selects RX7 yX7_flags yX7_flags, Cond.code yX7_flags cX7_flags 1 (some .int)]
def wsX7_instruction : List Cond := .code yX7_instruction cX7_instruction 4 none :: ((wsX7_instruction_r1 ++ (wsX7_instruction_r2 ++ (wsX7_instruction_r3 ++ (wsX7_instruction_r4 ++ (wsX7_instruction_r5 ++ (wsX7_instruction_r6 ++ wsX7_instruction_r7)))))) ++ wsX70)
def wsX7_step_r1 : List Cond := [Cond.fieldLink RX7 29 "DiskMachineModel" "thrown" "I", Cond.fieldLink RX7 19 "DiskMachineModel" "wanted" "I", Cond.fieldLink RX7 196 "DiskMachineModel" "on" "Z", Cond.fieldLink RX7 199 "DiskMachineModel" "justOn" "Z", Cond.fieldLink RX7 141 "DiskMachineModel" "spent" "I", Cond.fieldLink RX7 204 "DiskMachineModel" "halted" "Z", Cond.fieldLink RX7 47 "DiskMachineModel" "pc" "I", Cond.methodLink RX7 168 yX7_push, Cond.instanceMethod yX7_push, Cond.selects RX7 yX7_push yX7_push, Cond.initialized RX7, Cond.code yX7_push cX7_push 2 none, Cond.fieldLink RX7 55 "DiskMachineModel" "sp" "I", Cond.constant RX7 50 (65535), Cond.methodLink RX7 58 yX7_setWord, Cond.instanceMethod yX7_setWord, Cond.selects RX7 yX7_setWord yX7_setWord, Cond.code yX7_setWord cX7_setWord 3 none, Cond.methodLink RX7 43 yX7_set, Cond.instanceMethod yX7_set, Cond.selects RX7 yX7_set yX7_set, Cond.code yX7_set cX7_set 3 none, Cond.fieldLink RX7 7 "DiskMachineModel" "memory" "[I", Cond.methodLink RX7 210 yX7_instruction]
def wsX7_step_r2 : List Cond := [Cond.instanceMethod yX7_instruction, Cond.selects RX7 yX7_instruction yX7_instruction, Cond.code yX7_instruction cX7_instruction 4 none, Cond.methodLink RX7 51 yX7_next, Cond.instanceMethod yX7_next, Cond.selects RX7 yX7_next yX7_next, Cond.code yX7_next cX7_next 2 (some .int), Cond.methodLink RX7 39 yX7_get, Cond.instanceMethod yX7_get, Cond.selects RX7 yX7_get yX7_get, Cond.code yX7_get cX7_get 2 (some .int), Cond.methodLink RX7 202 yX7_zero, Cond.instanceMethod yX7_zero, Cond.selects RX7 yX7_zero yX7_zero, Cond.code yX7_zero cX7_zero 6 none, Cond.fieldLink RX7 80 "DiskMachineModel" "carry" "Z", Cond.fieldLink RX7 74 "DiskMachineModel" "half" "Z", Cond.methodLink RX7 64 yX7_hl, Cond.instanceMethod yX7_hl, Cond.selects RX7 yX7_hl yX7_hl, Cond.code yX7_hl cX7_hl 1 (some .int), Cond.fieldLink RX7 16 "DiskMachineModel" "\x72" "[I", Cond.methodLink RX7 147 yX7_pair, Cond.instanceMethod yX7_pair]
def wsX7_step_r3 : List Cond := [Cond.selects RX7 yX7_pair yX7_pair, Cond.code yX7_pair cX7_pair 2 (some .int), Cond.methodLink RX7 150 yX7_setPair, Cond.instanceMethod yX7_setPair, Cond.selects RX7 yX7_setPair yX7_setPair, Cond.code yX7_setPair cX7_setPair 3 none, Cond.methodLink RX7 153 yX7_nextWord, Cond.instanceMethod yX7_nextWord, Cond.selects RX7 yX7_nextWord yX7_nextWord, Cond.code yX7_nextWord cX7_nextWord 2 (some .int), Cond.methodLink RX7 156 yX7_byAddress, Cond.instanceMethod yX7_byAddress, Cond.selects RX7 yX7_byAddress yX7_byAddress, Cond.code yX7_byAddress cX7_byAddress 3 none, Cond.methodLink RX7 61 yX7_getWord, Cond.instanceMethod yX7_getWord, Cond.selects RX7 yX7_getWord yX7_getWord, Cond.code yX7_getWord cX7_getWord 2 (some .int), Cond.methodLink RX7 159 yX7_reg, Cond.instanceMethod yX7_reg, Cond.selects RX7 yX7_reg yX7_reg, Cond.code yX7_reg cX7_reg 2 (some .int), Cond.methodLink RX7 162 yX7_setReg, Cond.instanceMethod yX7_setReg]
def wsX7_step_r4 : List Cond := [Cond.selects RX7 yX7_setReg yX7_setReg, Cond.code yX7_setReg cX7_setReg 3 none, Cond.methodLink RX7 90 yX7_logic, Cond.instanceMethod yX7_logic, Cond.selects RX7 yX7_logic yX7_logic, Cond.code yX7_logic cX7_logic 4 none, Cond.fieldLink RX7 67 "DiskMachineModel" "sign" "Z", Cond.fieldLink RX7 71 "DiskMachineModel" "zero" "Z", Cond.fieldLink RX7 77 "DiskMachineModel" "parity" "Z", Cond.methodLink RX7 165 yX7_turn, Cond.instanceMethod yX7_turn, Cond.selects RX7 yX7_turn yX7_turn, Cond.code yX7_turn cX7_turn 4 none, Cond.methodLink RX7 100 yX7_adjust, Cond.instanceMethod yX7_adjust, Cond.selects RX7 yX7_adjust yX7_adjust, Cond.code yX7_adjust cX7_adjust 5 none, Cond.methodLink RX7 187 yX7_reckon, Cond.instanceMethod yX7_reckon, Cond.selects RX7 yX7_reckon yX7_reckon, Cond.code yX7_reckon cX7_reckon 6 none, Cond.methodLink RX7 93 yX7_sum_, Cond.instanceMethod yX7_sum_, Cond.selects RX7 yX7_sum_ yX7_sum_]
def wsX7_step_r5 : List Cond := [Cond.code yX7_sum_ cX7_sum_ 4 none, Cond.methodLink RX7 96 yX7_less, Cond.instanceMethod yX7_less, Cond.selects RX7 yX7_less yX7_less, Cond.code yX7_less cX7_less 4 (some .int), Cond.methodLink RX7 207 yX7_three, Cond.instanceMethod yX7_three, Cond.selects RX7 yX7_three yX7_three, Cond.code yX7_three cX7_three 4 none, Cond.methodLink RX7 171 yX7_holds, Cond.instanceMethod yX7_holds, Cond.selects RX7 yX7_holds yX7_holds, Cond.code yX7_holds cX7_holds 3 (some .boolean), Cond.methodLink RX7 174 yX7_pop, Cond.instanceMethod yX7_pop, Cond.selects RX7 yX7_pop yX7_pop, Cond.code yX7_pop cX7_pop 2 (some .int), Cond.methodLink RX7 177 yX7_single, Cond.instanceMethod yX7_single, Cond.selects RX7 yX7_single yX7_single, Cond.code yX7_single cX7_single 3 none, Cond.methodLink RX7 86 yX7_setFlags, Cond.instanceMethod yX7_setFlags, Cond.selects RX7 yX7_setFlags yX7_setFlags]
def wsX7_step_r6 : List Cond := [Cond.code yX7_setFlags cX7_setFlags 2 none, Cond.methodLink RX7 180 yX7_jumpTo, Cond.instanceMethod yX7_jumpTo, Cond.selects RX7 yX7_jumpTo yX7_jumpTo, Cond.code yX7_jumpTo cX7_jumpTo 5 none, Cond.methodLink RX7 184 yX7_special, Cond.instanceMethod yX7_special, Cond.selects RX7 yX7_special yX7_special, Cond.code yX7_special cX7_special 3 none, Cond.methodLink RX7 190 yX7_out, Cond.instanceMethod yX7_out, Cond.selects RX7 yX7_out yX7_out, Cond.code yX7_out cX7_out 3 none, Cond.fieldLink RX7 26 "DiskMachineModel" "output" "[I", Cond.fieldLink RX7 109 "DiskMachineModel" "outputs" "I", Cond.fieldLink RX7 112 "DiskMachineModel" "sector" "I", Cond.fieldLink RX7 115 "DiskMachineModel" "address" "I", Cond.constant RX7 118 (65280), Cond.fieldLink RX7 119 "DiskMachineModel" "call" "I", Cond.fieldLink RX7 106 "DiskMachineModel" "state" "I", Cond.fieldLink RX7 122 "DiskMachineModel" "command" "I", Cond.fieldLink RX7 125 "DiskMachineModel" "from" "I", Cond.fieldLink RX7 128 "DiskMachineModel" "moved" "I", Cond.fieldLink RX7 131 "DiskMachineModel" "due" "I"]
def wsX7_step_r7 : List Cond := [Cond.fieldLink RX7 134 "DiskMachineModel" "fresh" "Z", Cond.methodLink RX7 193 yX7_in, Cond.instanceMethod yX7_in, Cond.selects RX7 yX7_in yX7_in, Cond.code yX7_in cX7_in 4 (some .int), Cond.fieldLink RX7 103 "DiskMachineModel" "inputs" "I", Cond.fieldLink RX7 23 "DiskMachineModel" "input" "[I", Cond.methodLink RX7 83 yX7_flags, Cond.instanceMethod yX7_flags, Cond.selects RX7 yX7_flags yX7_flags, Cond.code yX7_flags cX7_flags 1 (some .int), Cond.methodLink RX7 213 yX7_pass, Cond.instanceMethod yX7_pass, Cond.selects RX7 yX7_pass yX7_pass, Cond.code yX7_pass cX7_pass 1 none, Cond.fieldLink RX7 137 "DiskMachineModel" "cycles" "J", Cond.methodLink RX7 144 yX7_moveOne, Cond.instanceMethod yX7_moveOne, Cond.selects RX7 yX7_moveOne yX7_moveOne, Cond.code yX7_moveOne cX7_moveOne 1 none, Cond.fieldLink RX7 13 "DiskMachineModel" "disk" "[I"]
def wsX7_step : List Cond := .code yX7_step cX7_step 4 (some .int) :: ((wsX7_step_r1 ++ (wsX7_step_r2 ++ (wsX7_step_r3 ++ (wsX7_step_r4 ++ (wsX7_step_r5 ++ (wsX7_step_r6 ++ wsX7_step_r7)))))) ++ wsX70)
def wsX7_type : List Cond := .code yX7_type cX7_type 2 (some .int) :: ([.fieldLink RX7 29 "DiskMachineModel" "thrown" "I", .fieldLink RX7 103 "DiskMachineModel" "inputs" "I", .fieldLink RX7 23 "DiskMachineModel" "input" "[I", .methodLink RX7 36 yX7_noByte, .static yX7_noByte, .initialized RX7, .code yX7_noByte cX7_noByte 1 (some .boolean)] ++ wsX70)
def wsX7_written : List Cond := .code yX7_written cX7_written 1 (some .int) :: ([.fieldLink RX7 29 "DiskMachineModel" "thrown" "I", .fieldLink RX7 109 "DiskMachineModel" "outputs" "I"] ++ wsX70)
def wsX7_text : List Cond := .code yX7_text cX7_text 2 (some .int) :: ([.fieldLink RX7 109 "DiskMachineModel" "outputs" "I", .fieldLink RX7 29 "DiskMachineModel" "thrown" "I", .fieldLink RX7 26 "DiskMachineModel" "output" "[I"] ++ wsX70)
def wsX7_want : List Cond := .code yX7_want cX7_want 2 none :: ([.fieldLink RX7 29 "DiskMachineModel" "thrown" "I", .fieldLink RX7 19 "DiskMachineModel" "wanted" "I"] ++ wsX70)
def wsX7_cycles : List Cond := .code yX7_cycles cX7_cycles 1 (some .long) :: ([.fieldLink RX7 29 "DiskMachineModel" "thrown" "I", .fieldLink RX7 137 "DiskMachineModel" "cycles" "J"] ++ wsX70)
def wsX7_told : List Cond := .code yX7_told cX7_told 2 (some .int) :: ([.fieldLink RX7 29 "DiskMachineModel" "thrown" "I", .fieldLink RX7 204 "DiskMachineModel" "halted" "Z", .fieldLink RX7 196 "DiskMachineModel" "on" "Z", .fieldLink RX7 19 "DiskMachineModel" "wanted" "I", .fieldLink RX7 106 "DiskMachineModel" "state" "I", .fieldLink RX7 128 "DiskMachineModel" "moved" "I", .fieldLink RX7 115 "DiskMachineModel" "address" "I"] ++ wsX70)
def wsL_write_r1 : List Cond := [Cond.classLink RL 13 "java/lang/IllegalArgumentException", Cond.methodLink RL 7 yX6_write, Cond.instanceMethod yX6_write, Cond.selects RX6 yX6_write yX6_write, Cond.initialized RX6, Cond.code yX6_write cX6_write 3 (some .int), Cond.classLink RX6 51 "java/lang/IllegalArgumentException", Cond.initialized "java/lang/IllegalArgumentException", Cond.fieldLink RX6 10 "DiskMachine" "memory" "LDiskMachine$Store;", Cond.methodLink RX6 44 yX6_isPlace, Cond.static yX6_isPlace, Cond.code yX6_isPlace cX6_isPlace 1 (some .boolean), Cond.methodLink RX6 48 yX6_isByte, Cond.static yX6_isByte, Cond.code yX6_isByte cX6_isByte 1 (some .boolean), Cond.methodLink RX6 54 yX5_exchange, Cond.instanceMethod yX5_exchange, Cond.selects RX5 yX5_exchange yX5_exchange, Cond.initialized RX5, Cond.code yX5_exchange cX5_exchange 4 (some .int), Cond.methodLink RX5 15 yX5_byteAt, Cond.instanceMethod yX5_byteAt, Cond.selects RX5 yX5_byteAt yX5_byteAt, Cond.code yX5_byteAt cX5_byteAt 2 (some .int)]
def wsL_write_r2 : List Cond := [Cond.fieldLink RX5 11 "DiskMachine$Store" "bytes" "[I", Cond.methodLink RX5 19 yX5_setByte, Cond.instanceMethod yX5_setByte, Cond.selects RX5 yX5_setByte yX5_setByte, Cond.code yX5_setByte cX5_setByte 3 none]
def wsL_write : List Cond := .codeWith yL_write cL_write 5 (some .int) [(0, 10, 13, 13)] :: ((wsL_write_r1 ++ wsL_write_r2) ++ wsX60 ++ wsX50 ++ (vx_at0 RX6 53 "java/lang/IllegalArgumentException" ["java/lang/RuntimeException", "java/lang/Exception"]).filter goodWord)
def wsL_read : List Cond := .codeWith yL_read cL_read 4 (some .int) [(0, 9, 12, 13)] :: ([.classLink RL 13 "java/lang/IllegalArgumentException", .methodLink RL 15 yX6_read, .instanceMethod yX6_read, .selects RX6 yX6_read yX6_read, .initialized RX6, .code yX6_read cX6_read 2 (some .int), .classLink RX6 51 "java/lang/IllegalArgumentException", .initialized "java/lang/IllegalArgumentException", .fieldLink RX6 10 "DiskMachine" "memory" "LDiskMachine$Store;", .methodLink RX6 44 yX6_isPlace, .static yX6_isPlace, .code yX6_isPlace cX6_isPlace 1 (some .boolean), .methodLink RX6 58 yX5_byteAt, .instanceMethod yX5_byteAt, .selects RX5 yX5_byteAt yX5_byteAt, .initialized RX5, .code yX5_byteAt cX5_byteAt 2 (some .int), .fieldLink RX5 11 "DiskMachine$Store" "bytes" "[I"] ++ wsX60 ++ wsX50 ++ (vx_at0 RX6 53 "java/lang/IllegalArgumentException" ["java/lang/RuntimeException", "java/lang/Exception"]).filter goodWord)
def wsL_writeDisk_r1 : List Cond := [Cond.classLink RL 13 "java/lang/IllegalArgumentException", Cond.methodLink RL 19 yX6_writeDisk, Cond.instanceMethod yX6_writeDisk, Cond.selects RX6 yX6_writeDisk yX6_writeDisk, Cond.initialized RX6, Cond.code yX6_writeDisk cX6_writeDisk 3 (some .int), Cond.classLink RX6 51 "java/lang/IllegalArgumentException", Cond.initialized "java/lang/IllegalArgumentException", Cond.fieldLink RX6 16 "DiskMachine" "disk" "LDiskMachine$Store;", Cond.methodLink RX6 44 yX6_isPlace, Cond.static yX6_isPlace, Cond.code yX6_isPlace cX6_isPlace 1 (some .boolean), Cond.methodLink RX6 48 yX6_isByte, Cond.static yX6_isByte, Cond.code yX6_isByte cX6_isByte 1 (some .boolean), Cond.methodLink RX6 54 yX5_exchange, Cond.instanceMethod yX5_exchange, Cond.selects RX5 yX5_exchange yX5_exchange, Cond.initialized RX5, Cond.code yX5_exchange cX5_exchange 4 (some .int), Cond.methodLink RX5 15 yX5_byteAt, Cond.instanceMethod yX5_byteAt, Cond.selects RX5 yX5_byteAt yX5_byteAt, Cond.code yX5_byteAt cX5_byteAt 2 (some .int)]
def wsL_writeDisk_r2 : List Cond := [Cond.fieldLink RX5 11 "DiskMachine$Store" "bytes" "[I", Cond.methodLink RX5 19 yX5_setByte, Cond.instanceMethod yX5_setByte, Cond.selects RX5 yX5_setByte yX5_setByte, Cond.code yX5_setByte cX5_setByte 3 none]
def wsL_writeDisk : List Cond := .codeWith yL_writeDisk cL_writeDisk 5 (some .int) [(0, 10, 13, 13)] :: ((wsL_writeDisk_r1 ++ wsL_writeDisk_r2) ++ wsX60 ++ wsX50 ++ (vx_at0 RX6 53 "java/lang/IllegalArgumentException" ["java/lang/RuntimeException", "java/lang/Exception"]).filter goodWord)
def wsL_readDisk : List Cond := .codeWith yL_readDisk cL_readDisk 4 (some .int) [(0, 9, 12, 13)] :: ([.classLink RL 13 "java/lang/IllegalArgumentException", .methodLink RL 22 yX6_readDisk, .instanceMethod yX6_readDisk, .selects RX6 yX6_readDisk yX6_readDisk, .initialized RX6, .code yX6_readDisk cX6_readDisk 2 (some .int), .classLink RX6 51 "java/lang/IllegalArgumentException", .initialized "java/lang/IllegalArgumentException", .fieldLink RX6 16 "DiskMachine" "disk" "LDiskMachine$Store;", .methodLink RX6 44 yX6_isPlace, .static yX6_isPlace, .code yX6_isPlace cX6_isPlace 1 (some .boolean), .methodLink RX6 58 yX5_byteAt, .instanceMethod yX5_byteAt, .selects RX5 yX5_byteAt yX5_byteAt, .initialized RX5, .code yX5_byteAt cX5_byteAt 2 (some .int), .fieldLink RX5 11 "DiskMachine$Store" "bytes" "[I"] ++ wsX60 ++ wsX50 ++ (vx_at0 RX6 53 "java/lang/IllegalArgumentException" ["java/lang/RuntimeException", "java/lang/Exception"]).filter goodWord)
def wsL_register_r1 : List Cond := [Cond.classLink RL 28 "java/lang/IndexOutOfBoundsException", Cond.methodLink RL 25 yX6_register, Cond.instanceMethod yX6_register, Cond.selects RX6 yX6_register yX6_register, Cond.initialized RX6, Cond.code yX6_register cX6_register 2 (some .int), Cond.classLink RX6 65 "java/lang/IndexOutOfBoundsException", Cond.initialized "java/lang/IndexOutOfBoundsException", Cond.fieldLink RX6 40 "DiskMachine" "processor" "LDiskMachine$Processor;", Cond.methodLink RX6 62 yX4_shows, Cond.static yX4_shows, Cond.initialized RX4, Cond.code yX4_shows cX4_shows 1 (some .boolean), Cond.methodLink RX6 68 yX4_shown, Cond.instanceMethod yX4_shown, Cond.selects RX4 yX4_shown yX4_shown, Cond.code yX4_shown cX4_shown 2 (some .int), Cond.fieldLink RX4 12 "DiskMachine$Processor" "flags" "LDiskMachine$Flags;", Cond.fieldLink RX4 51 "DiskMachine$Processor" "pc" "I", Cond.fieldLink RX4 54 "DiskMachine$Processor" "sp" "I", Cond.fieldLink RX4 27 "DiskMachine$Processor" "registers" "[I", Cond.methodLink RX4 47 yX3_packed, Cond.instanceMethod yX3_packed, Cond.selects RX3 yX3_packed yX3_packed]
def wsL_register_r2 : List Cond := [Cond.initialized RX3, Cond.code yX3_packed cX3_packed 1 (some .int), Cond.fieldLink RX3 7 "DiskMachine$Flags" "sign" "Z", Cond.fieldLink RX3 13 "DiskMachine$Flags" "zero" "Z", Cond.fieldLink RX3 16 "DiskMachine$Flags" "half" "Z", Cond.fieldLink RX3 19 "DiskMachine$Flags" "parity" "Z", Cond.fieldLink RX3 22 "DiskMachine$Flags" "carry" "Z"]
def wsL_register : List Cond := .codeWith yL_register cL_register 4 (some .int) [(0, 9, 12, 28)] :: ((wsL_register_r1 ++ wsL_register_r2) ++ wsX60 ++ wsX40 ++ wsX30 ++ (vx_at0 RX6 67 "java/lang/IndexOutOfBoundsException" ["java/lang/RuntimeException", "java/lang/Exception"]).filter goodWord)
def wsL_put_r1 : List Cond := [Cond.classLink RL 28 "java/lang/IndexOutOfBoundsException", Cond.methodLink RL 30 yX6_put, Cond.instanceMethod yX6_put, Cond.selects RX6 yX6_put yX6_put, Cond.initialized RX6, Cond.code yX6_put cX6_put 3 none, Cond.classLink RX6 65 "java/lang/IndexOutOfBoundsException", Cond.initialized "java/lang/IndexOutOfBoundsException", Cond.fieldLink RX6 40 "DiskMachine" "processor" "LDiskMachine$Processor;", Cond.methodLink RX6 62 yX4_shows, Cond.static yX4_shows, Cond.initialized RX4, Cond.code yX4_shows cX4_shows 1 (some .boolean), Cond.methodLink RX6 71 yX4_change, Cond.instanceMethod yX4_change, Cond.selects RX4 yX4_change yX4_change, Cond.code yX4_change cX4_change 3 none, Cond.fieldLink RX4 12 "DiskMachine$Processor" "flags" "LDiskMachine$Flags;", Cond.constant RX4 61 (65535), Cond.fieldLink RX4 51 "DiskMachine$Processor" "pc" "I", Cond.fieldLink RX4 54 "DiskMachine$Processor" "sp" "I", Cond.fieldLink RX4 27 "DiskMachine$Processor" "registers" "[I", Cond.methodLink RX4 57 yX3_unpack, Cond.instanceMethod yX3_unpack]
def wsL_put_r2 : List Cond := [Cond.selects RX3 yX3_unpack yX3_unpack, Cond.initialized RX3, Cond.code yX3_unpack cX3_unpack 2 none, Cond.fieldLink RX3 7 "DiskMachine$Flags" "sign" "Z", Cond.fieldLink RX3 13 "DiskMachine$Flags" "zero" "Z", Cond.fieldLink RX3 16 "DiskMachine$Flags" "half" "Z", Cond.fieldLink RX3 19 "DiskMachine$Flags" "parity" "Z", Cond.fieldLink RX3 22 "DiskMachine$Flags" "carry" "Z"]
def wsL_put : List Cond := .codeWith yL_put cL_put 4 (some .int) [(0, 6, 9, 28)] :: ((wsL_put_r1 ++ wsL_put_r2) ++ wsX60 ++ wsX40 ++ wsX30 ++ (vx_at0 RX6 67 "java/lang/IndexOutOfBoundsException" ["java/lang/RuntimeException", "java/lang/Exception"]).filter goodWord)
def wsL_type : List Cond := .codeWith yL_type cL_type 4 (some .int) [(0, 9, 12, 13)] :: ([.classLink RL 13 "java/lang/IllegalArgumentException", .methodLink RL 34 yX6_type, .instanceMethod yX6_type, .selects RX6 yX6_type yX6_type, .initialized RX6, .code yX6_type cX6_type 2 (some .int), .classLink RX6 51 "java/lang/IllegalArgumentException", .initialized "java/lang/IllegalArgumentException", .fieldLink RX6 22 "DiskMachine" "console" "LDiskMachine$Console;", .methodLink RX6 48 yX6_isByte, .static yX6_isByte, .code yX6_isByte cX6_isByte 1 (some .boolean), .methodLink RX6 75 yX1_takeKey, .instanceMethod yX1_takeKey, .selects RX1 yX1_takeKey yX1_takeKey, .initialized RX1, .code yX1_takeKey cX1_takeKey 2 (some .int), .fieldLink RX1 18 "DiskMachine$Console" "inputCount" "I", .fieldLink RX1 11 "DiskMachine$Console" "input" "[I", .fieldLink RX1 22 "DiskMachine$Console" "firstInput" "I"] ++ wsX60 ++ wsX10 ++ (vx_at0 RX6 53 "java/lang/IllegalArgumentException" ["java/lang/RuntimeException", "java/lang/Exception"]).filter goodWord)
def wsL_text : List Cond := .codeWith yL_text cL_text 4 (some .int) [(0, 9, 12, 28)] :: ([.classLink RL 28 "java/lang/IndexOutOfBoundsException", .methodLink RL 37 yX6_text, .instanceMethod yX6_text, .selects RX6 yX6_text yX6_text, .initialized RX6, .code yX6_text cX6_text 2 (some .int), .classLink RX6 65 "java/lang/IndexOutOfBoundsException", .initialized "java/lang/IndexOutOfBoundsException", .fieldLink RX6 22 "DiskMachine" "console" "LDiskMachine$Console;", .methodLink RX6 82 yX1_keeps, .instanceMethod yX1_keeps, .selects RX1 yX1_keeps yX1_keeps, .initialized RX1, .code yX1_keeps cX1_keeps 2 (some .boolean), .fieldLink RX1 25 "DiskMachine$Console" "outputCount" "I", .methodLink RX6 85 yX1_writtenByte, .instanceMethod yX1_writtenByte, .selects RX1 yX1_writtenByte yX1_writtenByte, .code yX1_writtenByte cX1_writtenByte 2 (some .int), .fieldLink RX1 15 "DiskMachine$Console" "output" "[I"] ++ wsX60 ++ wsX10 ++ (vx_at0 RX6 67 "java/lang/IndexOutOfBoundsException" ["java/lang/RuntimeException", "java/lang/Exception"]).filter goodWord)
def wsL_want : List Cond := .codeWith yL_want cL_want 3 (some .int) [(0, 5, 8, 13)] :: ([.classLink RL 13 "java/lang/IllegalArgumentException", .methodLink RL 40 yX6_want, .instanceMethod yX6_want, .selects RX6 yX6_want yX6_want, .initialized RX6, .code yX6_want cX6_want 2 none, .classLink RX6 51 "java/lang/IllegalArgumentException", .initialized "java/lang/IllegalArgumentException", .fieldLink RX6 40 "DiskMachine" "processor" "LDiskMachine$Processor;", .methodLink RX6 88 yX4_callWith, .instanceMethod yX4_callWith, .selects RX4 yX4_callWith yX4_callWith, .initialized RX4, .code yX4_callWith cX4_callWith 2 none, .fieldLink RX4 31 "DiskMachine$Processor" "wanted" "I"] ++ wsX60 ++ wsX40 ++ (vx_at0 RX6 53 "java/lang/IllegalArgumentException" ["java/lang/RuntimeException", "java/lang/Exception"]).filter goodWord)
def wsL_step_r1 : List Cond := [Cond.classLink RL 13 "java/lang/IllegalArgumentException", Cond.methodLink RL 44 yX6_step, Cond.instanceMethod yX6_step, Cond.selects RX6 yX6_step yX6_step, Cond.initialized RX6, Cond.code yX6_step cX6_step 4 (some .int), Cond.classLink RX6 51 "java/lang/IllegalArgumentException", Cond.initialized "java/lang/IllegalArgumentException", Cond.fieldLink RX6 40 "DiskMachine" "processor" "LDiskMachine$Processor;", Cond.methodLink RX6 92 yX4_turn, Cond.instanceMethod yX4_turn, Cond.selects RX4 yX4_turn yX4_turn, Cond.initialized RX4, Cond.code yX4_turn cX4_turn 3 (some .int), Cond.fieldLink RX4 31 "DiskMachine$Processor" "wanted" "I", Cond.fieldLink RX4 66 "DiskMachine$Processor" "interruptsOn" "Z", Cond.fieldLink RX4 73 "DiskMachine$Processor" "justSetOn" "Z", Cond.fieldLink RX4 62 "DiskMachine$Processor" "halted" "Z", Cond.fieldLink RX4 69 "DiskMachine$Processor" "cyclesDone" "J", Cond.fieldLink RX4 43 "DiskMachine$Processor" "controller" "LDiskMachine$Controller;", Cond.methodLink RX4 76 yX4_answerInterrupt, Cond.instanceMethod yX4_answerInterrupt, Cond.selects RX4 yX4_answerInterrupt yX4_answerInterrupt, Cond.code yX4_answerInterrupt cX4_answerInterrupt 2 (some .int)]
def wsL_step_r2 : List Cond := [Cond.fieldLink RX4 51 "DiskMachine$Processor" "pc" "I", Cond.methodLink RX4 88 yX4_push, Cond.instanceMethod yX4_push, Cond.selects RX4 yX4_push yX4_push, Cond.code yX4_push cX4_push 2 none, Cond.fieldLink RX4 54 "DiskMachine$Processor" "sp" "I", Cond.constant RX4 61 (65535), Cond.fieldLink RX4 35 "DiskMachine$Processor" "memory" "LDiskMachine$Store;", Cond.methodLink RX4 154 yX5_setWord, Cond.instanceMethod yX5_setWord, Cond.selects RX5 yX5_setWord yX5_setWord, Cond.initialized RX5, Cond.code yX5_setWord cX5_setWord 3 none, Cond.fieldLink RX5 11 "DiskMachine$Store" "bytes" "[I", Cond.methodLink RX4 79 yX4_instruction, Cond.instanceMethod yX4_instruction, Cond.selects RX4 yX4_instruction yX4_instruction, Cond.code yX4_instruction cX4_instruction 4 (some .int), Cond.fieldLink RX4 27 "DiskMachine$Processor" "registers" "[I", Cond.fieldLink RX4 23 "DiskMachine$Processor" "arithmetic" "LDiskMachine$Arithmetic;", Cond.methodLink RX4 91 yX4_nextByte, Cond.instanceMethod yX4_nextByte, Cond.selects RX4 yX4_nextByte yX4_nextByte, Cond.code yX4_nextByte cX4_nextByte 2 (some .int)]
def wsL_step_r3 : List Cond := [Cond.methodLink RX4 151 yX5_byteAt, Cond.instanceMethod yX5_byteAt, Cond.selects RX5 yX5_byteAt yX5_byteAt, Cond.code yX5_byteAt cX5_byteAt 2 (some .int), Cond.methodLink RX4 94 yX4_firstQuarter, Cond.instanceMethod yX4_firstQuarter, Cond.selects RX4 yX4_firstQuarter yX4_firstQuarter, Cond.code yX4_firstQuarter cX4_firstQuarter 3 (some .int), Cond.methodLink RX4 111 yX4_setOrAddPair, Cond.instanceMethod yX4_setOrAddPair, Cond.selects RX4 yX4_setOrAddPair yX4_setOrAddPair, Cond.code yX4_setOrAddPair cX4_setOrAddPair 4 (some .int), Cond.fieldLink RX4 12 "DiskMachine$Processor" "flags" "LDiskMachine$Flags;", Cond.methodLink RX4 133 yX4_nextWord, Cond.instanceMethod yX4_nextWord, Cond.selects RX4 yX4_nextWord yX4_nextWord, Cond.code yX4_nextWord cX4_nextWord 2 (some .int), Cond.methodLink RX4 157 yX5_wordAt, Cond.instanceMethod yX5_wordAt, Cond.selects RX5 yX5_wordAt yX5_wordAt, Cond.code yX5_wordAt cX5_wordAt 2 (some .int), Cond.methodLink RX4 136 yX4_setPair, Cond.instanceMethod yX4_setPair, Cond.selects RX4 yX4_setPair yX4_setPair]
def wsL_step_r4 : List Cond := [Cond.code yX4_setPair cX4_setPair 3 none, Cond.methodLink RX4 139 yX4_pair, Cond.instanceMethod yX4_pair, Cond.selects RX4 yX4_pair yX4_pair, Cond.code yX4_pair cX4_pair 2 (some .int), Cond.methodLink RX4 142 yX3_setCarry, Cond.instanceMethod yX3_setCarry, Cond.selects RX3 yX3_setCarry yX3_setCarry, Cond.initialized RX3, Cond.code yX3_setCarry cX3_setCarry 2 none, Cond.fieldLink RX3 22 "DiskMachine$Flags" "carry" "Z", Cond.methodLink RX4 114 yX4_moveByAddress, Cond.instanceMethod yX4_moveByAddress, Cond.selects RX4 yX4_moveByAddress yX4_moveByAddress, Cond.code yX4_moveByAddress cX4_moveByAddress 2 (some .int), Cond.methodLink RX4 146 yX5_setByte, Cond.instanceMethod yX5_setByte, Cond.selects RX5 yX5_setByte yX5_setByte, Cond.code yX5_setByte cX5_setByte 3 none, Cond.methodLink RX4 117 yX4_stepPair, Cond.instanceMethod yX4_stepPair, Cond.selects RX4 yX4_stepPair yX4_stepPair, Cond.code yX4_stepPair cX4_stepPair 3 (some .int), Cond.methodLink RX4 101 yX4_value]
def wsL_step_r5 : List Cond := [Cond.instanceMethod yX4_value, Cond.selects RX4 yX4_value yX4_value, Cond.code yX4_value cX4_value 2 (some .int), Cond.methodLink RX4 120 yX0_oneMore, Cond.instanceMethod yX0_oneMore, Cond.selects RX0 yX0_oneMore yX0_oneMore, Cond.initialized RX0, Cond.code yX0_oneMore cX0_oneMore 3 (some .int), Cond.fieldLink RX0 9 "DiskMachine$Arithmetic" "flags" "LDiskMachine$Flags;", Cond.methodLink RX0 36 yX3_setHalf, Cond.instanceMethod yX3_setHalf, Cond.selects RX3 yX3_setHalf yX3_setHalf, Cond.code yX3_setHalf cX3_setHalf 2 none, Cond.fieldLink RX3 16 "DiskMachine$Flags" "half" "Z", Cond.methodLink RX0 39 yX3_setLogic, Cond.instanceMethod yX3_setLogic, Cond.selects RX3 yX3_setLogic yX3_setLogic, Cond.code yX3_setLogic cX3_setLogic 2 none, Cond.fieldLink RX3 7 "DiskMachine$Flags" "sign" "Z", Cond.fieldLink RX3 13 "DiskMachine$Flags" "zero" "Z", Cond.fieldLink RX3 19 "DiskMachine$Flags" "parity" "Z", Cond.methodLink RX3 25 yJ6_bitCount_0f7a4, Cond.static yJ6_bitCount_0f7a4, Cond.initialized RJ6]
def wsL_step_r6 : List Cond := [Cond.code yJ6_bitCount_0f7a4 cJ6_bitCount_0f7a4 1 (some .int), Cond.constant RJ6 265 (1431655765), Cond.constant RJ6 266 (858993459), Cond.constant RJ6 267 (252645135), Cond.methodLink RX4 123 yX4_setValue, Cond.instanceMethod yX4_setValue, Cond.selects RX4 yX4_setValue yX4_setValue, Cond.code yX4_setValue cX4_setValue 3 none, Cond.methodLink RX4 127 yX0_oneLess, Cond.instanceMethod yX0_oneLess, Cond.selects RX0 yX0_oneLess yX0_oneLess, Cond.code yX0_oneLess cX0_oneLess 3 (some .int), Cond.methodLink RX4 130 yX0_adjust, Cond.instanceMethod yX0_adjust, Cond.selects RX0 yX0_adjust yX0_adjust, Cond.code yX0_adjust cX0_adjust 3 (some .int), Cond.methodLink RX0 43 yX0_turnLeft, Cond.instanceMethod yX0_turnLeft, Cond.selects RX0 yX0_turnLeft yX0_turnLeft, Cond.code yX0_turnLeft cX0_turnLeft 3 (some .int), Cond.methodLink RX0 32 yX3_setCarry, Cond.methodLink RX0 47 yX0_turnRight, Cond.instanceMethod yX0_turnRight, Cond.selects RX0 yX0_turnRight yX0_turnRight]
def wsL_step_r7 : List Cond := [Cond.code yX0_turnRight cX0_turnRight 3 (some .int), Cond.methodLink RX0 19 yX3_carryBit, Cond.instanceMethod yX3_carryBit, Cond.selects RX3 yX3_carryBit yX3_carryBit, Cond.code yX3_carryBit cX3_carryBit 1 (some .int), Cond.methodLink RX0 50 yX0_toDecimal, Cond.instanceMethod yX0_toDecimal, Cond.selects RX0 yX0_toDecimal yX0_toDecimal, Cond.code yX0_toDecimal cX0_toDecimal 7 (some .int), Cond.methodLink RX0 58 yX3_hasHalf, Cond.instanceMethod yX3_hasHalf, Cond.selects RX3 yX3_hasHalf yX3_hasHalf, Cond.code yX3_hasHalf cX3_hasHalf 1 (some .boolean), Cond.methodLink RX0 54 yX3_hasCarry, Cond.instanceMethod yX3_hasCarry, Cond.selects RX3 yX3_hasCarry yX3_hasCarry, Cond.code yX3_hasCarry cX3_hasCarry 1 (some .boolean), Cond.methodLink RX4 98 yX4_transfer, Cond.instanceMethod yX4_transfer, Cond.selects RX4 yX4_transfer yX4_transfer, Cond.code yX4_transfer cX4_transfer 3 (some .int), Cond.methodLink RX4 104 yX0_combine, Cond.instanceMethod yX0_combine, Cond.selects RX0 yX0_combine yX0_combine]
def wsL_step_r8 : List Cond := [Cond.code yX0_combine cX0_combine 4 (some .int), Cond.methodLink RX0 15 yX0_added, Cond.instanceMethod yX0_added, Cond.selects RX0 yX0_added yX0_added, Cond.code yX0_added cX0_added 5 (some .int), Cond.methodLink RX0 25 yX0_subtracted, Cond.instanceMethod yX0_subtracted, Cond.selects RX0 yX0_subtracted yX0_subtracted, Cond.code yX0_subtracted cX0_subtracted 5 (some .int), Cond.methodLink RX0 28 yX0_bitwise, Cond.instanceMethod yX0_bitwise, Cond.selects RX0 yX0_bitwise yX0_bitwise, Cond.code yX0_bitwise cX0_bitwise 3 (some .int), Cond.methodLink RX4 108 yX4_lastQuarter, Cond.instanceMethod yX4_lastQuarter, Cond.selects RX4 yX4_lastQuarter yX4_lastQuarter, Cond.code yX4_lastQuarter cX4_lastQuarter 3 (some .int), Cond.methodLink RX4 160 yX4_returnIf, Cond.instanceMethod yX4_returnIf, Cond.selects RX4 yX4_returnIf yX4_returnIf, Cond.code yX4_returnIf cX4_returnIf 2 (some .int), Cond.methodLink RX4 166 yX3_holds, Cond.instanceMethod yX3_holds, Cond.selects RX3 yX3_holds yX3_holds]
def wsL_step_r9 : List Cond := [Cond.code yX3_holds cX3_holds 3 (some .boolean), Cond.methodLink RX4 183 yX4_pop, Cond.instanceMethod yX4_pop, Cond.selects RX4 yX4_pop yX4_pop, Cond.code yX4_pop cX4_pop 2 (some .int), Cond.methodLink RX4 163 yX4_popOrReturn, Cond.instanceMethod yX4_popOrReturn, Cond.selects RX4 yX4_popOrReturn yX4_popOrReturn, Cond.code yX4_popOrReturn cX4_popOrReturn 2 (some .int), Cond.methodLink RX4 186 yX4_popAccumulator, Cond.instanceMethod yX4_popAccumulator, Cond.selects RX4 yX4_popAccumulator yX4_popAccumulator, Cond.code yX4_popAccumulator cX4_popAccumulator 2 (some .int), Cond.methodLink RX4 57 yX3_unpack, Cond.instanceMethod yX3_unpack, Cond.selects RX3 yX3_unpack yX3_unpack, Cond.code yX3_unpack cX3_unpack 2 none, Cond.methodLink RX4 170 yX4_jumpIf, Cond.instanceMethod yX4_jumpIf, Cond.selects RX4 yX4_jumpIf yX4_jumpIf, Cond.code yX4_jumpIf cX4_jumpIf 3 (some .int), Cond.methodLink RX4 174 yX4_portOrExchange, Cond.instanceMethod yX4_portOrExchange, Cond.selects RX4 yX4_portOrExchange yX4_portOrExchange]
def wsL_step_r10 : List Cond := [Cond.code yX4_portOrExchange cX4_portOrExchange 2 (some .int), Cond.methodLink RX4 189 yX4_sendToPort, Cond.instanceMethod yX4_sendToPort, Cond.selects RX4 yX4_sendToPort yX4_sendToPort, Cond.code yX4_sendToPort cX4_sendToPort 3 none, Cond.fieldLink RX4 39 "DiskMachine$Processor" "console" "LDiskMachine$Console;", Cond.methodLink RX4 201 yX1_append, Cond.instanceMethod yX1_append, Cond.selects RX1 yX1_append yX1_append, Cond.initialized RX1, Cond.code yX1_append cX1_append 2 none, Cond.fieldLink RX1 15 "DiskMachine$Console" "output" "[I", Cond.fieldLink RX1 25 "DiskMachine$Console" "outputCount" "I", Cond.methodLink RX4 206 yX2_setSector, Cond.instanceMethod yX2_setSector, Cond.selects RX2 yX2_setSector yX2_setSector, Cond.initialized RX2, Cond.code yX2_setSector cX2_setSector 2 none, Cond.fieldLink RX2 18 "DiskMachine$Controller" "sector" "I", Cond.methodLink RX4 209 yX2_setLowAddress, Cond.instanceMethod yX2_setLowAddress, Cond.selects RX2 yX2_setLowAddress yX2_setLowAddress, Cond.code yX2_setLowAddress cX2_setLowAddress 2 none, Cond.fieldLink RX2 22 "DiskMachine$Controller" "address" "I"]
def wsL_step_r11 : List Cond := [Cond.constant RX2 25 (65280), Cond.methodLink RX4 212 yX2_setHighAddress, Cond.instanceMethod yX2_setHighAddress, Cond.selects RX2 yX2_setHighAddress yX2_setHighAddress, Cond.code yX2_setHighAddress cX2_setHighAddress 2 none, Cond.methodLink RX4 215 yX2_setCall, Cond.instanceMethod yX2_setCall, Cond.selects RX2 yX2_setCall yX2_setCall, Cond.code yX2_setCall cX2_setCall 2 none, Cond.fieldLink RX2 26 "DiskMachine$Controller" "call" "I", Cond.methodLink RX4 218 yX2_command, Cond.instanceMethod yX2_command, Cond.selects RX2 yX2_command yX2_command, Cond.code yX2_command cX2_command 3 none, Cond.fieldLink RX2 33 "DiskMachine$Controller" "state" "I", Cond.fieldLink RX2 36 "DiskMachine$Controller" "diskStart" "I", Cond.fieldLink RX2 39 "DiskMachine$Controller" "toDisk" "Z", Cond.fieldLink RX2 43 "DiskMachine$Controller" "moved" "I", Cond.fieldLink RX2 46 "DiskMachine$Controller" "cyclesLeftOver" "I", Cond.fieldLink RX2 49 "DiskMachine$Controller" "commandJustCame" "Z", Cond.methodLink RX2 29 yX2_isBusy, Cond.instanceMethod yX2_isBusy, Cond.selects RX2 yX2_isBusy yX2_isBusy, Cond.code yX2_isBusy cX2_isBusy 1 (some .boolean)]
def wsL_step_r12 : List Cond := [Cond.methodLink RX4 192 yX4_takeFromPort, Cond.instanceMethod yX4_takeFromPort, Cond.selects RX4 yX4_takeFromPort yX4_takeFromPort, Cond.code yX4_takeFromPort cX4_takeFromPort 2 (some .int), Cond.methodLink RX4 221 yX1_hasInput, Cond.instanceMethod yX1_hasInput, Cond.selects RX1 yX1_hasInput yX1_hasInput, Cond.code yX1_hasInput cX1_hasInput 1 (some .boolean), Cond.fieldLink RX1 18 "DiskMachine$Console" "inputCount" "I", Cond.methodLink RX4 225 yX1_nextInput, Cond.instanceMethod yX1_nextInput, Cond.selects RX1 yX1_nextInput yX1_nextInput, Cond.code yX1_nextInput cX1_nextInput 2 (some .int), Cond.fieldLink RX1 11 "DiskMachine$Console" "input" "[I", Cond.fieldLink RX1 22 "DiskMachine$Console" "firstInput" "I", Cond.methodLink RX4 228 yX2_takeState, Cond.instanceMethod yX2_takeState, Cond.selects RX2 yX2_takeState yX2_takeState, Cond.code yX2_takeState cX2_takeState 2 (some .int), Cond.methodLink RX4 195 yX4_swapWithStack, Cond.instanceMethod yX4_swapWithStack, Cond.selects RX4 yX4_swapWithStack yX4_swapWithStack, Cond.code yX4_swapWithStack cX4_swapWithStack 2 (some .int), Cond.methodLink RX4 198 yX4_swapPairs]
def wsL_step_r13 : List Cond := [Cond.instanceMethod yX4_swapPairs, Cond.selects RX4 yX4_swapPairs yX4_swapPairs, Cond.code yX4_swapPairs cX4_swapPairs 2 (some .int), Cond.methodLink RX4 177 yX4_callIf, Cond.instanceMethod yX4_callIf, Cond.selects RX4 yX4_callIf yX4_callIf, Cond.code yX4_callIf cX4_callIf 3 (some .int), Cond.methodLink RX4 180 yX4_pushPair, Cond.instanceMethod yX4_pushPair, Cond.selects RX4 yX4_pushPair yX4_pushPair, Cond.code yX4_pushPair cX4_pushPair 2 (some .int), Cond.methodLink RX4 47 yX3_packed, Cond.instanceMethod yX3_packed, Cond.selects RX3 yX3_packed yX3_packed, Cond.code yX3_packed cX3_packed 1 (some .int), Cond.methodLink RX4 82 yX2_letPass, Cond.instanceMethod yX2_letPass, Cond.selects RX2 yX2_letPass yX2_letPass, Cond.code yX2_letPass cX2_letPass 4 (some .int), Cond.methodLink RX2 52 yX2_moveByte, Cond.instanceMethod yX2_moveByte, Cond.selects RX2 yX2_moveByte yX2_moveByte, Cond.code yX2_moveByte cX2_moveByte 2 none, Cond.fieldLink RX2 15 "DiskMachine$Controller" "disk" "LDiskMachine$Store;"]
def wsL_step_r14 : List Cond := [Cond.fieldLink RX2 9 "DiskMachine$Controller" "memory" "LDiskMachine$Store;", Cond.constant RX2 69 (65535), Cond.methodLink RX2 59 yX5_byteAt, Cond.methodLink RX2 65 yX5_setByte, Cond.methodLink RX2 55 yX2_finish, Cond.instanceMethod yX2_finish, Cond.selects RX2 yX2_finish yX2_finish, Cond.code yX2_finish cX2_finish 1 (some .int)]
def wsL_step : List Cond := .codeWith yL_step cL_step 4 (some .int) [(0, 9, 12, 13)] :: ((wsL_step_r1 ++ (wsL_step_r2 ++ (wsL_step_r3 ++ (wsL_step_r4 ++ (wsL_step_r5 ++ (wsL_step_r6 ++ (wsL_step_r7 ++ (wsL_step_r8 ++ (wsL_step_r9 ++ (wsL_step_r10 ++ (wsL_step_r11 ++ (wsL_step_r12 ++ (wsL_step_r13 ++ wsL_step_r14))))))))))))) ++ wsX60 ++ wsX40 ++ wsX50 ++ wsX30 ++ wsX00 ++ wsX10 ++ wsX20 ++ (vx_at0 RX6 53 "java/lang/IllegalArgumentException" ["java/lang/RuntimeException", "java/lang/Exception"]).filter goodWord)
def wsL_told_r1 : List Cond := [Cond.classLink RL 13 "java/lang/IllegalArgumentException", Cond.methodLink RL 47 yX6_told, Cond.instanceMethod yX6_told, Cond.selects RX6 yX6_told yX6_told, Cond.initialized RX6, Cond.code yX6_told cX6_told 2 (some .int), Cond.classLink RX6 51 "java/lang/IllegalArgumentException", Cond.initialized "java/lang/IllegalArgumentException", Cond.fieldLink RX6 40 "DiskMachine" "processor" "LDiskMachine$Processor;", Cond.fieldLink RX6 31 "DiskMachine" "controller" "LDiskMachine$Controller;", Cond.methodLink RX6 99 yX4_isHalted, Cond.instanceMethod yX4_isHalted, Cond.selects RX4 yX4_isHalted yX4_isHalted, Cond.initialized RX4, Cond.code yX4_isHalted cX4_isHalted 1 (some .boolean), Cond.fieldLink RX4 62 "DiskMachine$Processor" "halted" "Z", Cond.methodLink RX6 103 yX4_hasInterruptsOn, Cond.instanceMethod yX4_hasInterruptsOn, Cond.selects RX4 yX4_hasInterruptsOn yX4_hasInterruptsOn, Cond.code yX4_hasInterruptsOn cX4_hasInterruptsOn 1 (some .boolean), Cond.fieldLink RX4 66 "DiskMachine$Processor" "interruptsOn" "Z", Cond.methodLink RX6 106 yX4_wantedInterrupt, Cond.instanceMethod yX4_wantedInterrupt, Cond.selects RX4 yX4_wantedInterrupt yX4_wantedInterrupt]
def wsL_told_r2 : List Cond := [Cond.code yX4_wantedInterrupt cX4_wantedInterrupt 1 (some .int), Cond.fieldLink RX4 31 "DiskMachine$Processor" "wanted" "I", Cond.methodLink RX6 109 yX2_stateByte, Cond.instanceMethod yX2_stateByte, Cond.selects RX2 yX2_stateByte yX2_stateByte, Cond.initialized RX2, Cond.code yX2_stateByte cX2_stateByte 1 (some .int), Cond.fieldLink RX2 33 "DiskMachine$Controller" "state" "I", Cond.methodLink RX6 112 yX2_movedCount, Cond.instanceMethod yX2_movedCount, Cond.selects RX2 yX2_movedCount yX2_movedCount, Cond.code yX2_movedCount cX2_movedCount 1 (some .int), Cond.fieldLink RX2 43 "DiskMachine$Controller" "moved" "I", Cond.methodLink RX6 115 yX2_addressWord, Cond.instanceMethod yX2_addressWord, Cond.selects RX2 yX2_addressWord yX2_addressWord, Cond.code yX2_addressWord cX2_addressWord 1 (some .int), Cond.fieldLink RX2 22 "DiskMachine$Controller" "address" "I"]
def wsL_told : List Cond := .codeWith yL_told cL_told 4 (some .int) [(0, 9, 12, 13)] :: ((wsL_told_r1 ++ wsL_told_r2) ++ wsX60 ++ wsX40 ++ wsX20 ++ (vx_at0 RX6 53 "java/lang/IllegalArgumentException" ["java/lang/RuntimeException", "java/lang/Exception"]).filter goodWord)
def wsL_law0_r1 : List Cond := [Cond.classLink RL 8 RX6, Cond.instantiable RX6 5, Cond.initialized RX6, Cond.classLink RL 51 RX7, Cond.instantiable RX7 30, Cond.initialized RX7, Cond.arrayClass .long, Cond.methodLink RL 50 yX6_init, Cond.instanceMethod yX6_init, Cond.code yX6_init cX6_init 1 none, Cond.methodLink RX6 1 objectInit, Cond.instanceMethod objectInit, Cond.code objectInit ⟨#[0xb1]⟩ 1 none, Cond.classLink RX6 7 RX5, Cond.instantiable RX5 1, Cond.initialized RX5, Cond.fieldLink RX6 10 "DiskMachine" "memory" "LDiskMachine$Store;", Cond.fieldLink RX6 16 "DiskMachine" "disk" "LDiskMachine$Store;", Cond.classLink RX6 19 RX1, Cond.instantiable RX1 5, Cond.initialized RX1, Cond.fieldLink RX6 22 "DiskMachine" "console" "LDiskMachine$Console;", Cond.classLink RX6 26 RX2, Cond.instantiable RX2 11]
def wsL_law0_r2 : List Cond := [Cond.initialized RX2, Cond.fieldLink RX6 31 "DiskMachine" "controller" "LDiskMachine$Controller;", Cond.classLink RX6 35 RX4, Cond.instantiable RX4 13, Cond.initialized RX4, Cond.fieldLink RX6 40 "DiskMachine" "processor" "LDiskMachine$Processor;", Cond.instanceMethod yX5_init, Cond.code yX5_init cX5_init 1 none, Cond.methodLink RX5 5 objectInit, Cond.arrayClass .int, Cond.fieldLink RX5 11 "DiskMachine$Store" "bytes" "[I", Cond.instanceMethod yX1_init, Cond.code yX1_init cX1_init 1 none, Cond.methodLink RX1 5 objectInit, Cond.fieldLink RX1 11 "DiskMachine$Console" "input" "[I", Cond.fieldLink RX1 15 "DiskMachine$Console" "output" "[I", Cond.methodLink RX6 28 yX2_init, Cond.instanceMethod yX2_init, Cond.code yX2_init cX2_init 3 none, Cond.methodLink RX2 3 objectInit, Cond.fieldLink RX2 9 "DiskMachine$Controller" "memory" "LDiskMachine$Store;", Cond.fieldLink RX2 15 "DiskMachine$Controller" "disk" "LDiskMachine$Store;", Cond.methodLink RX6 37 yX4_init, Cond.instanceMethod yX4_init]
def wsL_law0_r3 : List Cond := [Cond.code yX4_init cX4_init 4 none, Cond.methodLink RX4 3 objectInit, Cond.classLink RX4 9 RX3, Cond.instantiable RX3 5, Cond.initialized RX3, Cond.fieldLink RX4 12 "DiskMachine$Processor" "flags" "LDiskMachine$Flags;", Cond.classLink RX4 18 RX0, Cond.instantiable RX0 1, Cond.initialized RX0, Cond.fieldLink RX4 23 "DiskMachine$Processor" "arithmetic" "LDiskMachine$Arithmetic;", Cond.fieldLink RX4 27 "DiskMachine$Processor" "registers" "[I", Cond.fieldLink RX4 31 "DiskMachine$Processor" "wanted" "I", Cond.fieldLink RX4 35 "DiskMachine$Processor" "memory" "LDiskMachine$Store;", Cond.fieldLink RX4 39 "DiskMachine$Processor" "console" "LDiskMachine$Console;", Cond.fieldLink RX4 43 "DiskMachine$Processor" "controller" "LDiskMachine$Controller;", Cond.instanceMethod yX3_init, Cond.code yX3_init cX3_init 1 none, Cond.methodLink RX3 1 objectInit, Cond.methodLink RX4 20 yX0_init, Cond.instanceMethod yX0_init, Cond.code yX0_init cX0_init 2 none, Cond.methodLink RX0 3 objectInit, Cond.fieldLink RX0 9 "DiskMachine$Arithmetic" "flags" "LDiskMachine$Flags;", Cond.methodLink RL 53 yX7_init]
def wsL_law0_r4 : List Cond := [Cond.instanceMethod yX7_init, Cond.code yX7_init cX7_init 1 none, Cond.methodLink RX7 1 objectInit, Cond.fieldLink RX7 7 "DiskMachineModel" "memory" "[I", Cond.fieldLink RX7 13 "DiskMachineModel" "disk" "[I", Cond.fieldLink RX7 16 "DiskMachineModel" "\x72" "[I", Cond.fieldLink RX7 19 "DiskMachineModel" "wanted" "I", Cond.fieldLink RX7 23 "DiskMachineModel" "input" "[I", Cond.fieldLink RX7 26 "DiskMachineModel" "output" "[I", Cond.methodLink RL 54 yL_write, Cond.static yL_write, Cond.initialized RL, Cond.codeWith yL_write cL_write 5 (some .int) [(0, 10, 13, 13)], Cond.classLink RL 13 "java/lang/IllegalArgumentException", Cond.methodLink RL 7 yX6_write, Cond.instanceMethod yX6_write, Cond.selects RX6 yX6_write yX6_write, Cond.code yX6_write cX6_write 3 (some .int), Cond.classLink RX6 51 "java/lang/IllegalArgumentException", Cond.initialized "java/lang/IllegalArgumentException", Cond.methodLink RX6 44 yX6_isPlace, Cond.static yX6_isPlace, Cond.code yX6_isPlace cX6_isPlace 1 (some .boolean), Cond.methodLink RX6 48 yX6_isByte]
def wsL_law0_r5 : List Cond := [Cond.static yX6_isByte, Cond.code yX6_isByte cX6_isByte 1 (some .boolean), Cond.methodLink RX6 54 yX5_exchange, Cond.instanceMethod yX5_exchange, Cond.selects RX5 yX5_exchange yX5_exchange, Cond.code yX5_exchange cX5_exchange 4 (some .int), Cond.methodLink RX5 15 yX5_byteAt, Cond.instanceMethod yX5_byteAt, Cond.selects RX5 yX5_byteAt yX5_byteAt, Cond.code yX5_byteAt cX5_byteAt 2 (some .int), Cond.methodLink RX5 19 yX5_setByte, Cond.instanceMethod yX5_setByte, Cond.selects RX5 yX5_setByte yX5_setByte, Cond.code yX5_setByte cX5_setByte 3 none, Cond.methodLink RL 59 yX7_write, Cond.instanceMethod yX7_write, Cond.selects RX7 yX7_write yX7_write, Cond.code yX7_write cX7_write 4 (some .int), Cond.fieldLink RX7 29 "DiskMachineModel" "thrown" "I", Cond.methodLink RX7 32 yX7_noPlace, Cond.static yX7_noPlace, Cond.code yX7_noPlace cX7_noPlace 1 (some .boolean), Cond.methodLink RX7 36 yX7_noByte, Cond.static yX7_noByte]
def wsL_law0_r6 : List Cond := [Cond.code yX7_noByte cX7_noByte 1 (some .boolean), Cond.methodLink RL 60 yX7_thrown, Cond.instanceMethod yX7_thrown, Cond.selects RX7 yX7_thrown yX7_thrown, Cond.code yX7_thrown cX7_thrown 1 (some .int), Cond.methodLink RL 64 yL_read, Cond.static yL_read, Cond.codeWith yL_read cL_read 4 (some .int) [(0, 9, 12, 13)], Cond.methodLink RL 15 yX6_read, Cond.instanceMethod yX6_read, Cond.selects RX6 yX6_read yX6_read, Cond.code yX6_read cX6_read 2 (some .int), Cond.methodLink RX6 58 yX5_byteAt, Cond.methodLink RL 67 yX7_read, Cond.instanceMethod yX7_read, Cond.selects RX7 yX7_read yX7_read, Cond.code yX7_read cX7_read 2 (some .int), Cond.methodLink RL 68 yL_writeDisk, Cond.static yL_writeDisk, Cond.codeWith yL_writeDisk cL_writeDisk 5 (some .int) [(0, 10, 13, 13)], Cond.methodLink RL 19 yX6_writeDisk, Cond.instanceMethod yX6_writeDisk, Cond.selects RX6 yX6_writeDisk yX6_writeDisk, Cond.code yX6_writeDisk cX6_writeDisk 3 (some .int)]
def wsL_law0_r7 : List Cond := [Cond.methodLink RL 70 yX7_writeDisk, Cond.instanceMethod yX7_writeDisk, Cond.selects RX7 yX7_writeDisk yX7_writeDisk, Cond.code yX7_writeDisk cX7_writeDisk 4 (some .int), Cond.methodLink RL 71 yL_readDisk, Cond.static yL_readDisk, Cond.codeWith yL_readDisk cL_readDisk 4 (some .int) [(0, 9, 12, 13)], Cond.methodLink RL 22 yX6_readDisk, Cond.instanceMethod yX6_readDisk, Cond.selects RX6 yX6_readDisk yX6_readDisk, Cond.code yX6_readDisk cX6_readDisk 2 (some .int), Cond.methodLink RL 73 yX7_readDisk, Cond.instanceMethod yX7_readDisk, Cond.selects RX7 yX7_readDisk yX7_readDisk, Cond.code yX7_readDisk cX7_readDisk 2 (some .int), Cond.methodLink RL 74 yL_register, Cond.static yL_register, Cond.codeWith yL_register cL_register 4 (some .int) [(0, 9, 12, 28)], Cond.classLink RL 28 "java/lang/IndexOutOfBoundsException", Cond.methodLink RL 25 yX6_register, Cond.instanceMethod yX6_register, Cond.selects RX6 yX6_register yX6_register, Cond.code yX6_register cX6_register 2 (some .int), Cond.classLink RX6 65 "java/lang/IndexOutOfBoundsException"]
def wsL_law0_r8 : List Cond := [Cond.initialized "java/lang/IndexOutOfBoundsException", Cond.methodLink RX6 62 yX4_shows, Cond.static yX4_shows, Cond.code yX4_shows cX4_shows 1 (some .boolean), Cond.methodLink RX6 68 yX4_shown, Cond.instanceMethod yX4_shown, Cond.selects RX4 yX4_shown yX4_shown, Cond.code yX4_shown cX4_shown 2 (some .int), Cond.fieldLink RX4 51 "DiskMachine$Processor" "pc" "I", Cond.fieldLink RX4 54 "DiskMachine$Processor" "sp" "I", Cond.methodLink RX4 47 yX3_packed, Cond.instanceMethod yX3_packed, Cond.selects RX3 yX3_packed yX3_packed, Cond.code yX3_packed cX3_packed 1 (some .int), Cond.fieldLink RX3 7 "DiskMachine$Flags" "sign" "Z", Cond.fieldLink RX3 13 "DiskMachine$Flags" "zero" "Z", Cond.fieldLink RX3 16 "DiskMachine$Flags" "half" "Z", Cond.fieldLink RX3 19 "DiskMachine$Flags" "parity" "Z", Cond.fieldLink RX3 22 "DiskMachine$Flags" "carry" "Z", Cond.methodLink RL 76 yX7_register, Cond.instanceMethod yX7_register, Cond.selects RX7 yX7_register yX7_register, Cond.code yX7_register cX7_register 2 (some .int), Cond.fieldLink RX7 47 "DiskMachineModel" "pc" "I"]
def wsL_law0_r9 : List Cond := [Cond.fieldLink RX7 55 "DiskMachineModel" "sp" "I", Cond.methodLink RX7 83 yX7_flags, Cond.instanceMethod yX7_flags, Cond.selects RX7 yX7_flags yX7_flags, Cond.code yX7_flags cX7_flags 1 (some .int), Cond.fieldLink RX7 67 "DiskMachineModel" "sign" "Z", Cond.fieldLink RX7 71 "DiskMachineModel" "zero" "Z", Cond.fieldLink RX7 74 "DiskMachineModel" "half" "Z", Cond.fieldLink RX7 77 "DiskMachineModel" "parity" "Z", Cond.fieldLink RX7 80 "DiskMachineModel" "carry" "Z", Cond.methodLink RL 77 yL_put, Cond.static yL_put, Cond.codeWith yL_put cL_put 4 (some .int) [(0, 6, 9, 28)], Cond.methodLink RL 30 yX6_put, Cond.instanceMethod yX6_put, Cond.selects RX6 yX6_put yX6_put, Cond.code yX6_put cX6_put 3 none, Cond.methodLink RX6 71 yX4_change, Cond.instanceMethod yX4_change, Cond.selects RX4 yX4_change yX4_change, Cond.code yX4_change cX4_change 3 none, Cond.constant RX4 61 (65535), Cond.methodLink RX4 57 yX3_unpack, Cond.instanceMethod yX3_unpack]
def wsL_law0_r10 : List Cond := [Cond.selects RX3 yX3_unpack yX3_unpack, Cond.code yX3_unpack cX3_unpack 2 none, Cond.methodLink RL 80 yX7_put, Cond.instanceMethod yX7_put, Cond.selects RX7 yX7_put yX7_put, Cond.code yX7_put cX7_put 3 none, Cond.constant RX7 50 (65535), Cond.methodLink RX7 86 yX7_setFlags, Cond.instanceMethod yX7_setFlags, Cond.selects RX7 yX7_setFlags yX7_setFlags, Cond.code yX7_setFlags cX7_setFlags 2 none, Cond.methodLink RL 81 yL_type, Cond.static yL_type, Cond.codeWith yL_type cL_type 4 (some .int) [(0, 9, 12, 13)], Cond.methodLink RL 34 yX6_type, Cond.instanceMethod yX6_type, Cond.selects RX6 yX6_type yX6_type, Cond.code yX6_type cX6_type 2 (some .int), Cond.methodLink RX6 75 yX1_takeKey, Cond.instanceMethod yX1_takeKey, Cond.selects RX1 yX1_takeKey yX1_takeKey, Cond.code yX1_takeKey cX1_takeKey 2 (some .int), Cond.fieldLink RX1 18 "DiskMachine$Console" "inputCount" "I", Cond.fieldLink RX1 22 "DiskMachine$Console" "firstInput" "I"]
def wsL_law0_r11 : List Cond := [Cond.methodLink RL 83 yX7_type, Cond.instanceMethod yX7_type, Cond.selects RX7 yX7_type yX7_type, Cond.code yX7_type cX7_type 2 (some .int), Cond.fieldLink RX7 103 "DiskMachineModel" "inputs" "I", Cond.methodLink RL 84 yX6_written, Cond.instanceMethod yX6_written, Cond.selects RX6 yX6_written yX6_written, Cond.code yX6_written cX6_written 1 (some .int), Cond.methodLink RX6 78 yX1_writtenCount, Cond.instanceMethod yX1_writtenCount, Cond.selects RX1 yX1_writtenCount yX1_writtenCount, Cond.code yX1_writtenCount cX1_writtenCount 1 (some .int), Cond.fieldLink RX1 25 "DiskMachine$Console" "outputCount" "I", Cond.methodLink RL 87 yX7_written, Cond.instanceMethod yX7_written, Cond.selects RX7 yX7_written yX7_written, Cond.code yX7_written cX7_written 1 (some .int), Cond.fieldLink RX7 109 "DiskMachineModel" "outputs" "I", Cond.methodLink RL 88 yL_text, Cond.static yL_text, Cond.codeWith yL_text cL_text 4 (some .int) [(0, 9, 12, 28)], Cond.methodLink RL 37 yX6_text, Cond.instanceMethod yX6_text]
def wsL_law0_r12 : List Cond := [Cond.selects RX6 yX6_text yX6_text, Cond.code yX6_text cX6_text 2 (some .int), Cond.methodLink RX6 82 yX1_keeps, Cond.instanceMethod yX1_keeps, Cond.selects RX1 yX1_keeps yX1_keeps, Cond.code yX1_keeps cX1_keeps 2 (some .boolean), Cond.methodLink RX6 85 yX1_writtenByte, Cond.instanceMethod yX1_writtenByte, Cond.selects RX1 yX1_writtenByte yX1_writtenByte, Cond.code yX1_writtenByte cX1_writtenByte 2 (some .int), Cond.methodLink RL 90 yX7_text, Cond.instanceMethod yX7_text, Cond.selects RX7 yX7_text yX7_text, Cond.code yX7_text cX7_text 2 (some .int), Cond.methodLink RL 91 yL_want, Cond.static yL_want, Cond.codeWith yL_want cL_want 3 (some .int) [(0, 5, 8, 13)], Cond.methodLink RL 40 yX6_want, Cond.instanceMethod yX6_want, Cond.selects RX6 yX6_want yX6_want, Cond.code yX6_want cX6_want 2 none, Cond.methodLink RX6 88 yX4_callWith, Cond.instanceMethod yX4_callWith, Cond.selects RX4 yX4_callWith yX4_callWith]
def wsL_law0_r13 : List Cond := [Cond.code yX4_callWith cX4_callWith 2 none, Cond.methodLink RL 94 yX7_want, Cond.instanceMethod yX7_want, Cond.selects RX7 yX7_want yX7_want, Cond.code yX7_want cX7_want 2 none, Cond.methodLink RL 95 yL_step, Cond.static yL_step, Cond.codeWith yL_step cL_step 4 (some .int) [(0, 9, 12, 13)], Cond.methodLink RL 44 yX6_step, Cond.instanceMethod yX6_step, Cond.selects RX6 yX6_step yX6_step, Cond.code yX6_step cX6_step 4 (some .int), Cond.methodLink RX6 92 yX4_turn, Cond.instanceMethod yX4_turn, Cond.selects RX4 yX4_turn yX4_turn, Cond.code yX4_turn cX4_turn 3 (some .int), Cond.fieldLink RX4 66 "DiskMachine$Processor" "interruptsOn" "Z", Cond.fieldLink RX4 73 "DiskMachine$Processor" "justSetOn" "Z", Cond.fieldLink RX4 62 "DiskMachine$Processor" "halted" "Z", Cond.fieldLink RX4 69 "DiskMachine$Processor" "cyclesDone" "J", Cond.methodLink RX4 76 yX4_answerInterrupt, Cond.instanceMethod yX4_answerInterrupt, Cond.selects RX4 yX4_answerInterrupt yX4_answerInterrupt, Cond.code yX4_answerInterrupt cX4_answerInterrupt 2 (some .int)]
def wsL_law0_r14 : List Cond := [Cond.methodLink RX4 88 yX4_push, Cond.instanceMethod yX4_push, Cond.selects RX4 yX4_push yX4_push, Cond.code yX4_push cX4_push 2 none, Cond.methodLink RX4 154 yX5_setWord, Cond.instanceMethod yX5_setWord, Cond.selects RX5 yX5_setWord yX5_setWord, Cond.code yX5_setWord cX5_setWord 3 none, Cond.methodLink RX4 79 yX4_instruction, Cond.instanceMethod yX4_instruction, Cond.selects RX4 yX4_instruction yX4_instruction, Cond.code yX4_instruction cX4_instruction 4 (some .int), Cond.methodLink RX4 91 yX4_nextByte, Cond.instanceMethod yX4_nextByte, Cond.selects RX4 yX4_nextByte yX4_nextByte, Cond.code yX4_nextByte cX4_nextByte 2 (some .int), Cond.methodLink RX4 151 yX5_byteAt, Cond.methodLink RX4 94 yX4_firstQuarter, Cond.instanceMethod yX4_firstQuarter, Cond.selects RX4 yX4_firstQuarter yX4_firstQuarter, Cond.code yX4_firstQuarter cX4_firstQuarter 3 (some .int), Cond.methodLink RX4 111 yX4_setOrAddPair, Cond.instanceMethod yX4_setOrAddPair, Cond.selects RX4 yX4_setOrAddPair yX4_setOrAddPair]
def wsL_law0_r15 : List Cond := [Cond.code yX4_setOrAddPair cX4_setOrAddPair 4 (some .int), Cond.methodLink RX4 133 yX4_nextWord, Cond.instanceMethod yX4_nextWord, Cond.selects RX4 yX4_nextWord yX4_nextWord, Cond.code yX4_nextWord cX4_nextWord 2 (some .int), Cond.methodLink RX4 157 yX5_wordAt, Cond.instanceMethod yX5_wordAt, Cond.selects RX5 yX5_wordAt yX5_wordAt, Cond.code yX5_wordAt cX5_wordAt 2 (some .int), Cond.methodLink RX4 136 yX4_setPair, Cond.instanceMethod yX4_setPair, Cond.selects RX4 yX4_setPair yX4_setPair, Cond.code yX4_setPair cX4_setPair 3 none, Cond.methodLink RX4 139 yX4_pair, Cond.instanceMethod yX4_pair, Cond.selects RX4 yX4_pair yX4_pair, Cond.code yX4_pair cX4_pair 2 (some .int), Cond.methodLink RX4 142 yX3_setCarry, Cond.instanceMethod yX3_setCarry, Cond.selects RX3 yX3_setCarry yX3_setCarry, Cond.code yX3_setCarry cX3_setCarry 2 none, Cond.methodLink RX4 114 yX4_moveByAddress, Cond.instanceMethod yX4_moveByAddress, Cond.selects RX4 yX4_moveByAddress yX4_moveByAddress]
def wsL_law0_r16 : List Cond := [Cond.code yX4_moveByAddress cX4_moveByAddress 2 (some .int), Cond.methodLink RX4 146 yX5_setByte, Cond.methodLink RX4 117 yX4_stepPair, Cond.instanceMethod yX4_stepPair, Cond.selects RX4 yX4_stepPair yX4_stepPair, Cond.code yX4_stepPair cX4_stepPair 3 (some .int), Cond.methodLink RX4 101 yX4_value, Cond.instanceMethod yX4_value, Cond.selects RX4 yX4_value yX4_value, Cond.code yX4_value cX4_value 2 (some .int), Cond.methodLink RX4 120 yX0_oneMore, Cond.instanceMethod yX0_oneMore, Cond.selects RX0 yX0_oneMore yX0_oneMore, Cond.code yX0_oneMore cX0_oneMore 3 (some .int), Cond.methodLink RX0 36 yX3_setHalf, Cond.instanceMethod yX3_setHalf, Cond.selects RX3 yX3_setHalf yX3_setHalf, Cond.code yX3_setHalf cX3_setHalf 2 none, Cond.methodLink RX0 39 yX3_setLogic, Cond.instanceMethod yX3_setLogic, Cond.selects RX3 yX3_setLogic yX3_setLogic, Cond.code yX3_setLogic cX3_setLogic 2 none, Cond.methodLink RX3 25 yJ6_bitCount_0f7a4, Cond.static yJ6_bitCount_0f7a4]
def wsL_law0_r17 : List Cond := [Cond.initialized RJ6, Cond.code yJ6_bitCount_0f7a4 cJ6_bitCount_0f7a4 1 (some .int), Cond.constant RJ6 265 (1431655765), Cond.constant RJ6 266 (858993459), Cond.constant RJ6 267 (252645135), Cond.methodLink RX4 123 yX4_setValue, Cond.instanceMethod yX4_setValue, Cond.selects RX4 yX4_setValue yX4_setValue, Cond.code yX4_setValue cX4_setValue 3 none, Cond.methodLink RX4 127 yX0_oneLess, Cond.instanceMethod yX0_oneLess, Cond.selects RX0 yX0_oneLess yX0_oneLess, Cond.code yX0_oneLess cX0_oneLess 3 (some .int), Cond.methodLink RX4 130 yX0_adjust, Cond.instanceMethod yX0_adjust, Cond.selects RX0 yX0_adjust yX0_adjust, Cond.code yX0_adjust cX0_adjust 3 (some .int), Cond.methodLink RX0 43 yX0_turnLeft, Cond.instanceMethod yX0_turnLeft, Cond.selects RX0 yX0_turnLeft yX0_turnLeft, Cond.code yX0_turnLeft cX0_turnLeft 3 (some .int), Cond.methodLink RX0 32 yX3_setCarry, Cond.methodLink RX0 47 yX0_turnRight, Cond.instanceMethod yX0_turnRight]
def wsL_law0_r18 : List Cond := [Cond.selects RX0 yX0_turnRight yX0_turnRight, Cond.code yX0_turnRight cX0_turnRight 3 (some .int), Cond.methodLink RX0 19 yX3_carryBit, Cond.instanceMethod yX3_carryBit, Cond.selects RX3 yX3_carryBit yX3_carryBit, Cond.code yX3_carryBit cX3_carryBit 1 (some .int), Cond.methodLink RX0 50 yX0_toDecimal, Cond.instanceMethod yX0_toDecimal, Cond.selects RX0 yX0_toDecimal yX0_toDecimal, Cond.code yX0_toDecimal cX0_toDecimal 7 (some .int), Cond.methodLink RX0 58 yX3_hasHalf, Cond.instanceMethod yX3_hasHalf, Cond.selects RX3 yX3_hasHalf yX3_hasHalf, Cond.code yX3_hasHalf cX3_hasHalf 1 (some .boolean), Cond.methodLink RX0 54 yX3_hasCarry, Cond.instanceMethod yX3_hasCarry, Cond.selects RX3 yX3_hasCarry yX3_hasCarry, Cond.code yX3_hasCarry cX3_hasCarry 1 (some .boolean), Cond.methodLink RX4 98 yX4_transfer, Cond.instanceMethod yX4_transfer, Cond.selects RX4 yX4_transfer yX4_transfer, Cond.code yX4_transfer cX4_transfer 3 (some .int), Cond.methodLink RX4 104 yX0_combine, Cond.instanceMethod yX0_combine]
def wsL_law0_r19 : List Cond := [Cond.selects RX0 yX0_combine yX0_combine, Cond.code yX0_combine cX0_combine 4 (some .int), Cond.methodLink RX0 15 yX0_added, Cond.instanceMethod yX0_added, Cond.selects RX0 yX0_added yX0_added, Cond.code yX0_added cX0_added 5 (some .int), Cond.methodLink RX0 25 yX0_subtracted, Cond.instanceMethod yX0_subtracted, Cond.selects RX0 yX0_subtracted yX0_subtracted, Cond.code yX0_subtracted cX0_subtracted 5 (some .int), Cond.methodLink RX0 28 yX0_bitwise, Cond.instanceMethod yX0_bitwise, Cond.selects RX0 yX0_bitwise yX0_bitwise, Cond.code yX0_bitwise cX0_bitwise 3 (some .int), Cond.methodLink RX4 108 yX4_lastQuarter, Cond.instanceMethod yX4_lastQuarter, Cond.selects RX4 yX4_lastQuarter yX4_lastQuarter, Cond.code yX4_lastQuarter cX4_lastQuarter 3 (some .int), Cond.methodLink RX4 160 yX4_returnIf, Cond.instanceMethod yX4_returnIf, Cond.selects RX4 yX4_returnIf yX4_returnIf, Cond.code yX4_returnIf cX4_returnIf 2 (some .int), Cond.methodLink RX4 166 yX3_holds, Cond.instanceMethod yX3_holds]
def wsL_law0_r20 : List Cond := [Cond.selects RX3 yX3_holds yX3_holds, Cond.code yX3_holds cX3_holds 3 (some .boolean), Cond.methodLink RX4 183 yX4_pop, Cond.instanceMethod yX4_pop, Cond.selects RX4 yX4_pop yX4_pop, Cond.code yX4_pop cX4_pop 2 (some .int), Cond.methodLink RX4 163 yX4_popOrReturn, Cond.instanceMethod yX4_popOrReturn, Cond.selects RX4 yX4_popOrReturn yX4_popOrReturn, Cond.code yX4_popOrReturn cX4_popOrReturn 2 (some .int), Cond.methodLink RX4 186 yX4_popAccumulator, Cond.instanceMethod yX4_popAccumulator, Cond.selects RX4 yX4_popAccumulator yX4_popAccumulator, Cond.code yX4_popAccumulator cX4_popAccumulator 2 (some .int), Cond.methodLink RX4 170 yX4_jumpIf, Cond.instanceMethod yX4_jumpIf, Cond.selects RX4 yX4_jumpIf yX4_jumpIf, Cond.code yX4_jumpIf cX4_jumpIf 3 (some .int), Cond.methodLink RX4 174 yX4_portOrExchange, Cond.instanceMethod yX4_portOrExchange, Cond.selects RX4 yX4_portOrExchange yX4_portOrExchange, Cond.code yX4_portOrExchange cX4_portOrExchange 2 (some .int), Cond.methodLink RX4 189 yX4_sendToPort, Cond.instanceMethod yX4_sendToPort]
def wsL_law0_r21 : List Cond := [Cond.selects RX4 yX4_sendToPort yX4_sendToPort, Cond.code yX4_sendToPort cX4_sendToPort 3 none, Cond.methodLink RX4 201 yX1_append, Cond.instanceMethod yX1_append, Cond.selects RX1 yX1_append yX1_append, Cond.code yX1_append cX1_append 2 none, Cond.methodLink RX4 206 yX2_setSector, Cond.instanceMethod yX2_setSector, Cond.selects RX2 yX2_setSector yX2_setSector, Cond.code yX2_setSector cX2_setSector 2 none, Cond.fieldLink RX2 18 "DiskMachine$Controller" "sector" "I", Cond.methodLink RX4 209 yX2_setLowAddress, Cond.instanceMethod yX2_setLowAddress, Cond.selects RX2 yX2_setLowAddress yX2_setLowAddress, Cond.code yX2_setLowAddress cX2_setLowAddress 2 none, Cond.fieldLink RX2 22 "DiskMachine$Controller" "address" "I", Cond.constant RX2 25 (65280), Cond.methodLink RX4 212 yX2_setHighAddress, Cond.instanceMethod yX2_setHighAddress, Cond.selects RX2 yX2_setHighAddress yX2_setHighAddress, Cond.code yX2_setHighAddress cX2_setHighAddress 2 none, Cond.methodLink RX4 215 yX2_setCall, Cond.instanceMethod yX2_setCall, Cond.selects RX2 yX2_setCall yX2_setCall]
def wsL_law0_r22 : List Cond := [Cond.code yX2_setCall cX2_setCall 2 none, Cond.fieldLink RX2 26 "DiskMachine$Controller" "call" "I", Cond.methodLink RX4 218 yX2_command, Cond.instanceMethod yX2_command, Cond.selects RX2 yX2_command yX2_command, Cond.code yX2_command cX2_command 3 none, Cond.fieldLink RX2 33 "DiskMachine$Controller" "state" "I", Cond.fieldLink RX2 36 "DiskMachine$Controller" "diskStart" "I", Cond.fieldLink RX2 39 "DiskMachine$Controller" "toDisk" "Z", Cond.fieldLink RX2 43 "DiskMachine$Controller" "moved" "I", Cond.fieldLink RX2 46 "DiskMachine$Controller" "cyclesLeftOver" "I", Cond.fieldLink RX2 49 "DiskMachine$Controller" "commandJustCame" "Z", Cond.methodLink RX2 29 yX2_isBusy, Cond.instanceMethod yX2_isBusy, Cond.selects RX2 yX2_isBusy yX2_isBusy, Cond.code yX2_isBusy cX2_isBusy 1 (some .boolean), Cond.methodLink RX4 192 yX4_takeFromPort, Cond.instanceMethod yX4_takeFromPort, Cond.selects RX4 yX4_takeFromPort yX4_takeFromPort, Cond.code yX4_takeFromPort cX4_takeFromPort 2 (some .int), Cond.methodLink RX4 221 yX1_hasInput, Cond.instanceMethod yX1_hasInput, Cond.selects RX1 yX1_hasInput yX1_hasInput, Cond.code yX1_hasInput cX1_hasInput 1 (some .boolean)]
def wsL_law0_r23 : List Cond := [Cond.methodLink RX4 225 yX1_nextInput, Cond.instanceMethod yX1_nextInput, Cond.selects RX1 yX1_nextInput yX1_nextInput, Cond.code yX1_nextInput cX1_nextInput 2 (some .int), Cond.methodLink RX4 228 yX2_takeState, Cond.instanceMethod yX2_takeState, Cond.selects RX2 yX2_takeState yX2_takeState, Cond.code yX2_takeState cX2_takeState 2 (some .int), Cond.methodLink RX4 195 yX4_swapWithStack, Cond.instanceMethod yX4_swapWithStack, Cond.selects RX4 yX4_swapWithStack yX4_swapWithStack, Cond.code yX4_swapWithStack cX4_swapWithStack 2 (some .int), Cond.methodLink RX4 198 yX4_swapPairs, Cond.instanceMethod yX4_swapPairs, Cond.selects RX4 yX4_swapPairs yX4_swapPairs, Cond.code yX4_swapPairs cX4_swapPairs 2 (some .int), Cond.methodLink RX4 177 yX4_callIf, Cond.instanceMethod yX4_callIf, Cond.selects RX4 yX4_callIf yX4_callIf, Cond.code yX4_callIf cX4_callIf 3 (some .int), Cond.methodLink RX4 180 yX4_pushPair, Cond.instanceMethod yX4_pushPair, Cond.selects RX4 yX4_pushPair yX4_pushPair, Cond.code yX4_pushPair cX4_pushPair 2 (some .int)]
def wsL_law0_r24 : List Cond := [Cond.methodLink RX4 82 yX2_letPass, Cond.instanceMethod yX2_letPass, Cond.selects RX2 yX2_letPass yX2_letPass, Cond.code yX2_letPass cX2_letPass 4 (some .int), Cond.methodLink RX2 52 yX2_moveByte, Cond.instanceMethod yX2_moveByte, Cond.selects RX2 yX2_moveByte yX2_moveByte, Cond.code yX2_moveByte cX2_moveByte 2 none, Cond.constant RX2 69 (65535), Cond.methodLink RX2 59 yX5_byteAt, Cond.methodLink RX2 65 yX5_setByte, Cond.methodLink RX2 55 yX2_finish, Cond.instanceMethod yX2_finish, Cond.selects RX2 yX2_finish yX2_finish, Cond.code yX2_finish cX2_finish 1 (some .int), Cond.methodLink RL 97 yX7_step, Cond.instanceMethod yX7_step, Cond.selects RX7 yX7_step yX7_step, Cond.code yX7_step cX7_step 4 (some .int), Cond.fieldLink RX7 196 "DiskMachineModel" "on" "Z", Cond.fieldLink RX7 199 "DiskMachineModel" "justOn" "Z", Cond.fieldLink RX7 141 "DiskMachineModel" "spent" "I", Cond.fieldLink RX7 204 "DiskMachineModel" "halted" "Z", Cond.methodLink RX7 168 yX7_push]
def wsL_law0_r25 : List Cond := [Cond.instanceMethod yX7_push, Cond.selects RX7 yX7_push yX7_push, Cond.code yX7_push cX7_push 2 none, Cond.methodLink RX7 58 yX7_setWord, Cond.instanceMethod yX7_setWord, Cond.selects RX7 yX7_setWord yX7_setWord, Cond.code yX7_setWord cX7_setWord 3 none, Cond.methodLink RX7 43 yX7_set, Cond.instanceMethod yX7_set, Cond.selects RX7 yX7_set yX7_set, Cond.code yX7_set cX7_set 3 none, Cond.methodLink RX7 210 yX7_instruction, Cond.instanceMethod yX7_instruction, Cond.selects RX7 yX7_instruction yX7_instruction, Cond.code yX7_instruction cX7_instruction 4 none, Cond.methodLink RX7 51 yX7_next, Cond.instanceMethod yX7_next, Cond.selects RX7 yX7_next yX7_next, Cond.code yX7_next cX7_next 2 (some .int), Cond.methodLink RX7 39 yX7_get, Cond.instanceMethod yX7_get, Cond.selects RX7 yX7_get yX7_get, Cond.code yX7_get cX7_get 2 (some .int), Cond.methodLink RX7 202 yX7_zero]
def wsL_law0_r26 : List Cond := [Cond.instanceMethod yX7_zero, Cond.selects RX7 yX7_zero yX7_zero, Cond.code yX7_zero cX7_zero 6 none, Cond.methodLink RX7 64 yX7_hl, Cond.instanceMethod yX7_hl, Cond.selects RX7 yX7_hl yX7_hl, Cond.code yX7_hl cX7_hl 1 (some .int), Cond.methodLink RX7 147 yX7_pair, Cond.instanceMethod yX7_pair, Cond.selects RX7 yX7_pair yX7_pair, Cond.code yX7_pair cX7_pair 2 (some .int), Cond.methodLink RX7 150 yX7_setPair, Cond.instanceMethod yX7_setPair, Cond.selects RX7 yX7_setPair yX7_setPair, Cond.code yX7_setPair cX7_setPair 3 none, Cond.methodLink RX7 153 yX7_nextWord, Cond.instanceMethod yX7_nextWord, Cond.selects RX7 yX7_nextWord yX7_nextWord, Cond.code yX7_nextWord cX7_nextWord 2 (some .int), Cond.methodLink RX7 156 yX7_byAddress, Cond.instanceMethod yX7_byAddress, Cond.selects RX7 yX7_byAddress yX7_byAddress, Cond.code yX7_byAddress cX7_byAddress 3 none, Cond.methodLink RX7 61 yX7_getWord]
def wsL_law0_r27 : List Cond := [Cond.instanceMethod yX7_getWord, Cond.selects RX7 yX7_getWord yX7_getWord, Cond.code yX7_getWord cX7_getWord 2 (some .int), Cond.methodLink RX7 159 yX7_reg, Cond.instanceMethod yX7_reg, Cond.selects RX7 yX7_reg yX7_reg, Cond.code yX7_reg cX7_reg 2 (some .int), Cond.methodLink RX7 162 yX7_setReg, Cond.instanceMethod yX7_setReg, Cond.selects RX7 yX7_setReg yX7_setReg, Cond.code yX7_setReg cX7_setReg 3 none, Cond.methodLink RX7 90 yX7_logic, Cond.instanceMethod yX7_logic, Cond.selects RX7 yX7_logic yX7_logic, Cond.code yX7_logic cX7_logic 4 none, Cond.methodLink RX7 165 yX7_turn, Cond.instanceMethod yX7_turn, Cond.selects RX7 yX7_turn yX7_turn, Cond.code yX7_turn cX7_turn 4 none, Cond.methodLink RX7 100 yX7_adjust, Cond.instanceMethod yX7_adjust, Cond.selects RX7 yX7_adjust yX7_adjust, Cond.code yX7_adjust cX7_adjust 5 none, Cond.methodLink RX7 187 yX7_reckon]
def wsL_law0_r28 : List Cond := [Cond.instanceMethod yX7_reckon, Cond.selects RX7 yX7_reckon yX7_reckon, Cond.code yX7_reckon cX7_reckon 6 none, Cond.methodLink RX7 93 yX7_sum_, Cond.instanceMethod yX7_sum_, Cond.selects RX7 yX7_sum_ yX7_sum_, Cond.code yX7_sum_ cX7_sum_ 4 none, Cond.methodLink RX7 96 yX7_less, Cond.instanceMethod yX7_less, Cond.selects RX7 yX7_less yX7_less, Cond.code yX7_less cX7_less 4 (some .int), Cond.methodLink RX7 207 yX7_three, Cond.instanceMethod yX7_three, Cond.selects RX7 yX7_three yX7_three, Cond.code yX7_three cX7_three 4 none, Cond.methodLink RX7 171 yX7_holds, Cond.instanceMethod yX7_holds, Cond.selects RX7 yX7_holds yX7_holds, Cond.code yX7_holds cX7_holds 3 (some .boolean), Cond.methodLink RX7 174 yX7_pop, Cond.instanceMethod yX7_pop, Cond.selects RX7 yX7_pop yX7_pop, Cond.code yX7_pop cX7_pop 2 (some .int), Cond.methodLink RX7 177 yX7_single]
def wsL_law0_r29 : List Cond := [Cond.instanceMethod yX7_single, Cond.selects RX7 yX7_single yX7_single, Cond.code yX7_single cX7_single 3 none, Cond.methodLink RX7 180 yX7_jumpTo, Cond.instanceMethod yX7_jumpTo, Cond.selects RX7 yX7_jumpTo yX7_jumpTo, Cond.code yX7_jumpTo cX7_jumpTo 5 none, Cond.methodLink RX7 184 yX7_special, Cond.instanceMethod yX7_special, Cond.selects RX7 yX7_special yX7_special, Cond.code yX7_special cX7_special 3 none, Cond.methodLink RX7 190 yX7_out, Cond.instanceMethod yX7_out, Cond.selects RX7 yX7_out yX7_out, Cond.code yX7_out cX7_out 3 none, Cond.fieldLink RX7 112 "DiskMachineModel" "sector" "I", Cond.fieldLink RX7 115 "DiskMachineModel" "address" "I", Cond.constant RX7 118 (65280), Cond.fieldLink RX7 119 "DiskMachineModel" "call" "I", Cond.fieldLink RX7 106 "DiskMachineModel" "state" "I", Cond.fieldLink RX7 122 "DiskMachineModel" "command" "I", Cond.fieldLink RX7 125 "DiskMachineModel" "from" "I", Cond.fieldLink RX7 128 "DiskMachineModel" "moved" "I", Cond.fieldLink RX7 131 "DiskMachineModel" "due" "I"]
def wsL_law0_r30 : List Cond := [Cond.fieldLink RX7 134 "DiskMachineModel" "fresh" "Z", Cond.methodLink RX7 193 yX7_in, Cond.instanceMethod yX7_in, Cond.selects RX7 yX7_in yX7_in, Cond.code yX7_in cX7_in 4 (some .int), Cond.methodLink RX7 213 yX7_pass, Cond.instanceMethod yX7_pass, Cond.selects RX7 yX7_pass yX7_pass, Cond.code yX7_pass cX7_pass 1 none, Cond.fieldLink RX7 137 "DiskMachineModel" "cycles" "J", Cond.methodLink RX7 144 yX7_moveOne, Cond.instanceMethod yX7_moveOne, Cond.selects RX7 yX7_moveOne yX7_moveOne, Cond.code yX7_moveOne cX7_moveOne 1 none, Cond.methodLink RL 98 yX6_cycles, Cond.instanceMethod yX6_cycles, Cond.selects RX6 yX6_cycles yX6_cycles, Cond.code yX6_cycles cX6_cycles 1 (some .long), Cond.methodLink RX6 95 yX4_cyclesDone, Cond.instanceMethod yX4_cyclesDone, Cond.selects RX4 yX4_cyclesDone yX4_cyclesDone, Cond.code yX4_cyclesDone cX4_cyclesDone 1 (some .long), Cond.methodLink RL 102 yX7_cycles, Cond.instanceMethod yX7_cycles]
def wsL_law0_r31 : List Cond := [Cond.selects RX7 yX7_cycles yX7_cycles, Cond.code yX7_cycles cX7_cycles 1 (some .long), Cond.methodLink RL 103 yL_told, Cond.static yL_told, Cond.codeWith yL_told cL_told 4 (some .int) [(0, 9, 12, 13)], Cond.methodLink RL 47 yX6_told, Cond.instanceMethod yX6_told, Cond.selects RX6 yX6_told yX6_told, Cond.code yX6_told cX6_told 2 (some .int), Cond.methodLink RX6 99 yX4_isHalted, Cond.instanceMethod yX4_isHalted, Cond.selects RX4 yX4_isHalted yX4_isHalted, Cond.code yX4_isHalted cX4_isHalted 1 (some .boolean), Cond.methodLink RX6 103 yX4_hasInterruptsOn, Cond.instanceMethod yX4_hasInterruptsOn, Cond.selects RX4 yX4_hasInterruptsOn yX4_hasInterruptsOn, Cond.code yX4_hasInterruptsOn cX4_hasInterruptsOn 1 (some .boolean), Cond.methodLink RX6 106 yX4_wantedInterrupt, Cond.instanceMethod yX4_wantedInterrupt, Cond.selects RX4 yX4_wantedInterrupt yX4_wantedInterrupt, Cond.code yX4_wantedInterrupt cX4_wantedInterrupt 1 (some .int), Cond.methodLink RX6 109 yX2_stateByte, Cond.instanceMethod yX2_stateByte, Cond.selects RX2 yX2_stateByte yX2_stateByte]
def wsL_law0_r32 : List Cond := [Cond.code yX2_stateByte cX2_stateByte 1 (some .int), Cond.methodLink RX6 112 yX2_movedCount, Cond.instanceMethod yX2_movedCount, Cond.selects RX2 yX2_movedCount yX2_movedCount, Cond.code yX2_movedCount cX2_movedCount 1 (some .int), Cond.methodLink RX6 115 yX2_addressWord, Cond.instanceMethod yX2_addressWord, Cond.selects RX2 yX2_addressWord yX2_addressWord, Cond.code yX2_addressWord cX2_addressWord 1 (some .int), Cond.methodLink RL 105 yX7_told, Cond.instanceMethod yX7_told, Cond.selects RX7 yX7_told yX7_told, Cond.code yX7_told cX7_told 2 (some .int), Cond.methodLink RL 106 yX6_sum, Cond.instanceMethod yX6_sum, Cond.selects RX6 yX6_sum yX6_sum, Cond.code yX6_sum cX6_sum 1 (some .int), Cond.methodLink RX6 118 yX5_weighedTotal, Cond.instanceMethod yX5_weighedTotal, Cond.selects RX5 yX5_weighedTotal yX5_weighedTotal, Cond.code yX5_weighedTotal cX5_weighedTotal 3 (some .int), Cond.methodLink RL 109 yX7_sum, Cond.instanceMethod yX7_sum, Cond.selects RX7 yX7_sum yX7_sum]
def wsL_law0_r33 : List Cond := [Cond.code yX7_sum cX7_sum 3 (some .int)]
def wsL_law0 : List Cond := (wsL_law0_r1 ++ (wsL_law0_r2 ++ (wsL_law0_r3 ++ (wsL_law0_r4 ++ (wsL_law0_r5 ++ (wsL_law0_r6 ++ (wsL_law0_r7 ++ (wsL_law0_r8 ++ (wsL_law0_r9 ++ (wsL_law0_r10 ++ (wsL_law0_r11 ++ (wsL_law0_r12 ++ (wsL_law0_r13 ++ (wsL_law0_r14 ++ (wsL_law0_r15 ++ (wsL_law0_r16 ++ (wsL_law0_r17 ++ (wsL_law0_r18 ++ (wsL_law0_r19 ++ (wsL_law0_r20 ++ (wsL_law0_r21 ++ (wsL_law0_r22 ++ (wsL_law0_r23 ++ (wsL_law0_r24 ++ (wsL_law0_r25 ++ (wsL_law0_r26 ++ (wsL_law0_r27 ++ (wsL_law0_r28 ++ (wsL_law0_r29 ++ (wsL_law0_r30 ++ (wsL_law0_r31 ++ (wsL_law0_r32 ++ wsL_law0_r33)))))))))))))))))))))))))))))))) ++ wsX60 ++ wsX70 ++ wsX50 ++ wsX10 ++ wsX20 ++ wsX40 ++ wsX30 ++ wsX00 ++ ([] : List Cond)
def wsL_law : List Cond := wsL_law0 ++ (vx_at0 RX6 53 "java/lang/IllegalArgumentException" ["java/lang/RuntimeException", "java/lang/Exception"]).filter goodWord ++ (vx_at0 RX6 67 "java/lang/IndexOutOfBoundsException" ["java/lang/RuntimeException", "java/lang/Exception"]).filter goodWord
abbrev vwCl : List vw_C := [(RX0, TX0, 1), (RX1, TX1, 5), (RX2, TX2, 11), (RX3, TX3, 5), (RX4, TX4, 13), (RX5, TX5, 1), (RX6, TX6, 5), (RX7, TX7, 30)]
end
section
theorem dX0_init_0 : decode cX0_init 0 = .ok (.aload_n 0, 1) := by decide +kernel
theorem dX0_init_1 : decode cX0_init 1 = .ok (.invokespecial 3, 3) := by decide +kernel
theorem dX0_init_4 : decode cX0_init 4 = .ok (.aload_n 0, 1) := by decide +kernel
theorem dX0_init_5 : decode cX0_init 5 = .ok (.aload_n 1, 1) := by decide +kernel
theorem dX0_init_6 : decode cX0_init 6 = .ok (.putfield 9, 3) := by decide +kernel
theorem dX0_init_9 : decode cX0_init 9 = .ok (.return_, 1) := by decide +kernel
set_option maxRecDepth 20000 in
theorem ggX0_combine_X0_added : GoodIn wsX0_combine wsX0_added := goodIn_r _ [6, 1, 7, 8, 9, 10, 11, 12, 13, 14, 15, 16, 17, 18, 19, 20, 21, 22, 23, 24, 25, 26, 27, 28, 29, 30, 31, 44, 45, 46, 47, 48, 49] (by decide +kernel) (by decide +kernel)
set_option maxRecDepth 20000 in
theorem gX0_combine_X0_added : GoodIn wsX0_combine (wsV RX0 15 RX0 yX0_added wsX0_added) := goodIn_app (goodIn_of _ (by decide +kernel)) ggX0_combine_X0_added
set_option maxRecDepth 20000 in
theorem ggX0_combine_X3_carryBit : GoodIn wsX0_combine wsX3_carryBit := goodIn_r _ [35, 12, 45, 46, 47, 48, 49] (by decide +kernel) (by decide +kernel)
set_option maxRecDepth 20000 in
theorem gX0_combine_X3_carryBit : GoodIn wsX0_combine (wsV RX0 19 RX3 yX3_carryBit wsX3_carryBit) := goodIn_app (goodIn_of _ (by decide +kernel)) ggX0_combine_X3_carryBit
set_option maxRecDepth 20000 in
theorem ggX0_combine_X0_subtracted : GoodIn wsX0_combine wsX0_subtracted := goodIn_r _ [39, 1, 7, 8, 9, 10, 11, 12, 13, 14, 15, 16, 17, 18, 19, 20, 21, 22, 23, 24, 25, 26, 27, 28, 29, 30, 31, 44, 45, 46, 47, 48, 49] (by decide +kernel) (by decide +kernel)
set_option maxRecDepth 20000 in
theorem gX0_combine_X0_subtracted : GoodIn wsX0_combine (wsV RX0 25 RX0 yX0_subtracted wsX0_subtracted) := goodIn_app (goodIn_of _ (by decide +kernel)) ggX0_combine_X0_subtracted
set_option maxRecDepth 20000 in
theorem ggX0_combine_X0_bitwise : GoodIn wsX0_combine wsX0_bitwise := goodIn_r _ [43, 1, 7, 8, 9, 10, 11, 12, 13, 14, 15, 16, 17, 18, 19, 20, 21, 22, 23, 24, 25, 26, 27, 28, 29, 30, 31, 44, 45, 46, 47, 48, 49] (by decide +kernel) (by decide +kernel)
set_option maxRecDepth 20000 in
theorem gX0_combine_X0_bitwise : GoodIn wsX0_combine (wsV RX0 28 RX0 yX0_bitwise wsX0_bitwise) := goodIn_app (goodIn_of _ (by decide +kernel)) ggX0_combine_X0_bitwise
theorem dX0_combine_0 : decode cX0_combine 0 = .ok (.iload_n 1, 1) := by decide +kernel
theorem dX0_combine_1 : decode cX0_combine 1 = .ok (.tableswitch 127 0 6 #[43, 51, 65, 73, 87, 109, 118], 43) := by decide +kernel
theorem dX0_combine_44 : decode cX0_combine 44 = .ok (.aload_n 0, 1) := by decide +kernel
theorem dX0_combine_45 : decode cX0_combine 45 = .ok (.iload_n 2, 1) := by decide +kernel
theorem dX0_combine_46 : decode cX0_combine 46 = .ok (.iload_n 3, 1) := by decide +kernel
theorem dX0_combine_47 : decode cX0_combine 47 = .ok (.iconst 0, 1) := by decide +kernel
theorem dX0_combine_48 : decode cX0_combine 48 = .ok (.invokevirtual 15, 3) := by decide +kernel
theorem dX0_combine_51 : decode cX0_combine 51 = .ok (.ireturn, 1) := by decide +kernel
theorem dX0_combine_52 : decode cX0_combine 52 = .ok (.aload_n 0, 1) := by decide +kernel
theorem dX0_combine_53 : decode cX0_combine 53 = .ok (.iload_n 2, 1) := by decide +kernel
theorem dX0_combine_54 : decode cX0_combine 54 = .ok (.iload_n 3, 1) := by decide +kernel
theorem dX0_combine_55 : decode cX0_combine 55 = .ok (.aload_n 0, 1) := by decide +kernel
theorem dX0_combine_56 : decode cX0_combine 56 = .ok (.getfield 9, 3) := by decide +kernel
theorem dX0_combine_59 : decode cX0_combine 59 = .ok (.invokevirtual 19, 3) := by decide +kernel
theorem dX0_combine_62 : decode cX0_combine 62 = .ok (.invokevirtual 15, 3) := by decide +kernel
theorem dX0_combine_65 : decode cX0_combine 65 = .ok (.ireturn, 1) := by decide +kernel
theorem dX0_combine_66 : decode cX0_combine 66 = .ok (.aload_n 0, 1) := by decide +kernel
theorem dX0_combine_67 : decode cX0_combine 67 = .ok (.iload_n 2, 1) := by decide +kernel
theorem dX0_combine_68 : decode cX0_combine 68 = .ok (.iload_n 3, 1) := by decide +kernel
theorem dX0_combine_69 : decode cX0_combine 69 = .ok (.iconst 0, 1) := by decide +kernel
theorem dX0_combine_70 : decode cX0_combine 70 = .ok (.invokevirtual 25, 3) := by decide +kernel
theorem dX0_combine_73 : decode cX0_combine 73 = .ok (.ireturn, 1) := by decide +kernel
theorem dX0_combine_74 : decode cX0_combine 74 = .ok (.aload_n 0, 1) := by decide +kernel
theorem dX0_combine_75 : decode cX0_combine 75 = .ok (.iload_n 2, 1) := by decide +kernel
theorem dX0_combine_76 : decode cX0_combine 76 = .ok (.iload_n 3, 1) := by decide +kernel
theorem dX0_combine_77 : decode cX0_combine 77 = .ok (.aload_n 0, 1) := by decide +kernel
theorem dX0_combine_78 : decode cX0_combine 78 = .ok (.getfield 9, 3) := by decide +kernel
theorem dX0_combine_81 : decode cX0_combine 81 = .ok (.invokevirtual 19, 3) := by decide +kernel
theorem dX0_combine_84 : decode cX0_combine 84 = .ok (.invokevirtual 25, 3) := by decide +kernel
theorem dX0_combine_87 : decode cX0_combine 87 = .ok (.ireturn, 1) := by decide +kernel
theorem dX0_combine_88 : decode cX0_combine 88 = .ok (.aload_n 0, 1) := by decide +kernel
theorem dX0_combine_89 : decode cX0_combine 89 = .ok (.iload_n 2, 1) := by decide +kernel
theorem dX0_combine_90 : decode cX0_combine 90 = .ok (.iload_n 3, 1) := by decide +kernel
theorem dX0_combine_91 : decode cX0_combine 91 = .ok (.iand, 1) := by decide +kernel
theorem dX0_combine_92 : decode cX0_combine 92 = .ok (.iload_n 2, 1) := by decide +kernel
theorem dX0_combine_93 : decode cX0_combine 93 = .ok (.iload_n 3, 1) := by decide +kernel
theorem dX0_combine_94 : decode cX0_combine 94 = .ok (.ior, 1) := by decide +kernel
theorem dX0_combine_95 : decode cX0_combine 95 = .ok (.bipush 8, 2) := by decide +kernel
theorem dX0_combine_97 : decode cX0_combine 97 = .ok (.iand, 1) := by decide +kernel
theorem dX0_combine_98 : decode cX0_combine 98 = .ok (.ifCond .eq 7, 3) := by decide +kernel
theorem dX0_combine_101 : decode cX0_combine 101 = .ok (.iconst 1, 1) := by decide +kernel
theorem dX0_combine_102 : decode cX0_combine 102 = .ok (.goto 4, 3) := by decide +kernel
theorem dX0_combine_105 : decode cX0_combine 105 = .ok (.iconst 0, 1) := by decide +kernel
theorem dX0_combine_106 : decode cX0_combine 106 = .ok (.invokevirtual 28, 3) := by decide +kernel
theorem dX0_combine_109 : decode cX0_combine 109 = .ok (.ireturn, 1) := by decide +kernel
theorem dX0_combine_110 : decode cX0_combine 110 = .ok (.aload_n 0, 1) := by decide +kernel
theorem dX0_combine_111 : decode cX0_combine 111 = .ok (.iload_n 2, 1) := by decide +kernel
theorem dX0_combine_112 : decode cX0_combine 112 = .ok (.iload_n 3, 1) := by decide +kernel
theorem dX0_combine_113 : decode cX0_combine 113 = .ok (.ixor, 1) := by decide +kernel
theorem dX0_combine_114 : decode cX0_combine 114 = .ok (.iconst 0, 1) := by decide +kernel
theorem dX0_combine_115 : decode cX0_combine 115 = .ok (.invokevirtual 28, 3) := by decide +kernel
theorem dX0_combine_118 : decode cX0_combine 118 = .ok (.ireturn, 1) := by decide +kernel
theorem dX0_combine_119 : decode cX0_combine 119 = .ok (.aload_n 0, 1) := by decide +kernel
theorem dX0_combine_120 : decode cX0_combine 120 = .ok (.iload_n 2, 1) := by decide +kernel
theorem dX0_combine_121 : decode cX0_combine 121 = .ok (.iload_n 3, 1) := by decide +kernel
theorem dX0_combine_122 : decode cX0_combine 122 = .ok (.ior, 1) := by decide +kernel
theorem dX0_combine_123 : decode cX0_combine 123 = .ok (.iconst 0, 1) := by decide +kernel
theorem dX0_combine_124 : decode cX0_combine 124 = .ok (.invokevirtual 28, 3) := by decide +kernel
theorem dX0_combine_127 : decode cX0_combine 127 = .ok (.ireturn, 1) := by decide +kernel
theorem dX0_combine_128 : decode cX0_combine 128 = .ok (.aload_n 0, 1) := by decide +kernel
theorem dX0_combine_129 : decode cX0_combine 129 = .ok (.iload_n 2, 1) := by decide +kernel
theorem dX0_combine_130 : decode cX0_combine 130 = .ok (.iload_n 3, 1) := by decide +kernel
theorem dX0_combine_131 : decode cX0_combine 131 = .ok (.iconst 0, 1) := by decide +kernel
theorem dX0_combine_132 : decode cX0_combine 132 = .ok (.invokevirtual 25, 3) := by decide +kernel
theorem dX0_combine_135 : decode cX0_combine 135 = .ok (.pop, 1) := by decide +kernel
theorem dX0_combine_136 : decode cX0_combine 136 = .ok (.iload_n 2, 1) := by decide +kernel
theorem dX0_combine_137 : decode cX0_combine 137 = .ok (.ireturn, 1) := by decide +kernel
set_option maxRecDepth 20000 in
theorem ggX0_added_X3_setCarry : GoodIn wsX0_added wsX3_setCarry := goodIn_r _ [6, 7, 28, 29, 30, 31, 32] (by decide +kernel) (by decide +kernel)
set_option maxRecDepth 20000 in
theorem gX0_added_X3_setCarry : GoodIn wsX0_added (wsV RX0 32 RX3 yX3_setCarry wsX3_setCarry) := goodIn_app (goodIn_of _ (by decide +kernel)) ggX0_added_X3_setCarry
set_option maxRecDepth 20000 in
theorem ggX0_added_X3_setHalf : GoodIn wsX0_added wsX3_setHalf := goodIn_r _ [11, 12, 28, 29, 30, 31, 32] (by decide +kernel) (by decide +kernel)
set_option maxRecDepth 20000 in
theorem gX0_added_X3_setHalf : GoodIn wsX0_added (wsV RX0 36 RX3 yX3_setHalf wsX3_setHalf) := goodIn_app (goodIn_of _ (by decide +kernel)) ggX0_added_X3_setHalf
set_option maxRecDepth 20000 in
theorem ggX0_added_X3_setLogic : GoodIn wsX0_added wsX3_setLogic := goodIn_r _ [16, 17, 18, 19, 20, 21, 22, 23, 24, 25, 26, 28, 29, 30, 31, 32] (by decide +kernel) (by decide +kernel)
set_option maxRecDepth 20000 in
theorem gX0_added_X3_setLogic : GoodIn wsX0_added (wsV RX0 39 RX3 yX3_setLogic wsX3_setLogic) := goodIn_app (goodIn_of _ (by decide +kernel)) ggX0_added_X3_setLogic
theorem dX0_added_0 : decode cX0_added 0 = .ok (.iload_n 1, 1) := by decide +kernel
theorem dX0_added_1 : decode cX0_added 1 = .ok (.iload_n 2, 1) := by decide +kernel
theorem dX0_added_2 : decode cX0_added 2 = .ok (.iadd, 1) := by decide +kernel
theorem dX0_added_3 : decode cX0_added 3 = .ok (.iload_n 3, 1) := by decide +kernel
theorem dX0_added_4 : decode cX0_added 4 = .ok (.iadd, 1) := by decide +kernel
theorem dX0_added_5 : decode cX0_added 5 = .ok (.istore 4, 2) := by decide +kernel
theorem dX0_added_7 : decode cX0_added 7 = .ok (.aload_n 0, 1) := by decide +kernel
theorem dX0_added_8 : decode cX0_added 8 = .ok (.getfield 9, 3) := by decide +kernel
theorem dX0_added_11 : decode cX0_added 11 = .ok (.iload 4, 2) := by decide +kernel
theorem dX0_added_13 : decode cX0_added 13 = .ok (.sipush 255, 3) := by decide +kernel
theorem dX0_added_16 : decode cX0_added 16 = .ok (.if_icmp .le 7, 3) := by decide +kernel
theorem dX0_added_19 : decode cX0_added 19 = .ok (.iconst 1, 1) := by decide +kernel
theorem dX0_added_20 : decode cX0_added 20 = .ok (.goto 4, 3) := by decide +kernel
theorem dX0_added_23 : decode cX0_added 23 = .ok (.iconst 0, 1) := by decide +kernel
theorem dX0_added_24 : decode cX0_added 24 = .ok (.invokevirtual 32, 3) := by decide +kernel
theorem dX0_added_27 : decode cX0_added 27 = .ok (.aload_n 0, 1) := by decide +kernel
theorem dX0_added_28 : decode cX0_added 28 = .ok (.getfield 9, 3) := by decide +kernel
theorem dX0_added_31 : decode cX0_added 31 = .ok (.iload_n 1, 1) := by decide +kernel
theorem dX0_added_32 : decode cX0_added 32 = .ok (.bipush 15, 2) := by decide +kernel
theorem dX0_added_34 : decode cX0_added 34 = .ok (.iand, 1) := by decide +kernel
theorem dX0_added_35 : decode cX0_added 35 = .ok (.iload_n 2, 1) := by decide +kernel
theorem dX0_added_36 : decode cX0_added 36 = .ok (.bipush 15, 2) := by decide +kernel
theorem dX0_added_38 : decode cX0_added 38 = .ok (.iand, 1) := by decide +kernel
theorem dX0_added_39 : decode cX0_added 39 = .ok (.iadd, 1) := by decide +kernel
theorem dX0_added_40 : decode cX0_added 40 = .ok (.iload_n 3, 1) := by decide +kernel
theorem dX0_added_41 : decode cX0_added 41 = .ok (.iadd, 1) := by decide +kernel
theorem dX0_added_42 : decode cX0_added 42 = .ok (.bipush 15, 2) := by decide +kernel
theorem dX0_added_44 : decode cX0_added 44 = .ok (.if_icmp .le 7, 3) := by decide +kernel
theorem dX0_added_47 : decode cX0_added 47 = .ok (.iconst 1, 1) := by decide +kernel
theorem dX0_added_48 : decode cX0_added 48 = .ok (.goto 4, 3) := by decide +kernel
theorem dX0_added_51 : decode cX0_added 51 = .ok (.iconst 0, 1) := by decide +kernel
theorem dX0_added_52 : decode cX0_added 52 = .ok (.invokevirtual 36, 3) := by decide +kernel
theorem dX0_added_55 : decode cX0_added 55 = .ok (.aload_n 0, 1) := by decide +kernel
theorem dX0_added_56 : decode cX0_added 56 = .ok (.getfield 9, 3) := by decide +kernel
theorem dX0_added_59 : decode cX0_added 59 = .ok (.iload 4, 2) := by decide +kernel
theorem dX0_added_61 : decode cX0_added 61 = .ok (.sipush 255, 3) := by decide +kernel
theorem dX0_added_64 : decode cX0_added 64 = .ok (.iand, 1) := by decide +kernel
theorem dX0_added_65 : decode cX0_added 65 = .ok (.invokevirtual 39, 3) := by decide +kernel
theorem dX0_added_68 : decode cX0_added 68 = .ok (.iload 4, 2) := by decide +kernel
theorem dX0_added_70 : decode cX0_added 70 = .ok (.sipush 255, 3) := by decide +kernel
theorem dX0_added_73 : decode cX0_added 73 = .ok (.iand, 1) := by decide +kernel
theorem dX0_added_74 : decode cX0_added 74 = .ok (.ireturn, 1) := by decide +kernel
set_option maxRecDepth 20000 in
theorem ggX0_subtracted_X3_setCarry : GoodIn wsX0_subtracted wsX3_setCarry := goodIn_r _ [6, 7, 28, 29, 30, 31, 32] (by decide +kernel) (by decide +kernel)
set_option maxRecDepth 20000 in
theorem gX0_subtracted_X3_setCarry : GoodIn wsX0_subtracted (wsV RX0 32 RX3 yX3_setCarry wsX3_setCarry) := goodIn_app (goodIn_of _ (by decide +kernel)) ggX0_subtracted_X3_setCarry
set_option maxRecDepth 20000 in
theorem ggX0_subtracted_X3_setHalf : GoodIn wsX0_subtracted wsX3_setHalf := goodIn_r _ [11, 12, 28, 29, 30, 31, 32] (by decide +kernel) (by decide +kernel)
set_option maxRecDepth 20000 in
theorem gX0_subtracted_X3_setHalf : GoodIn wsX0_subtracted (wsV RX0 36 RX3 yX3_setHalf wsX3_setHalf) := goodIn_app (goodIn_of _ (by decide +kernel)) ggX0_subtracted_X3_setHalf
set_option maxRecDepth 20000 in
theorem ggX0_subtracted_X3_setLogic : GoodIn wsX0_subtracted wsX3_setLogic := goodIn_r _ [16, 17, 18, 19, 20, 21, 22, 23, 24, 25, 26, 28, 29, 30, 31, 32] (by decide +kernel) (by decide +kernel)
set_option maxRecDepth 20000 in
theorem gX0_subtracted_X3_setLogic : GoodIn wsX0_subtracted (wsV RX0 39 RX3 yX3_setLogic wsX3_setLogic) := goodIn_app (goodIn_of _ (by decide +kernel)) ggX0_subtracted_X3_setLogic
theorem dX0_subtracted_0 : decode cX0_subtracted 0 = .ok (.iload_n 1, 1) := by decide +kernel
theorem dX0_subtracted_1 : decode cX0_subtracted 1 = .ok (.iload_n 2, 1) := by decide +kernel
theorem dX0_subtracted_2 : decode cX0_subtracted 2 = .ok (.isub, 1) := by decide +kernel
theorem dX0_subtracted_3 : decode cX0_subtracted 3 = .ok (.iload_n 3, 1) := by decide +kernel
theorem dX0_subtracted_4 : decode cX0_subtracted 4 = .ok (.isub, 1) := by decide +kernel
theorem dX0_subtracted_5 : decode cX0_subtracted 5 = .ok (.istore 4, 2) := by decide +kernel
theorem dX0_subtracted_7 : decode cX0_subtracted 7 = .ok (.aload_n 0, 1) := by decide +kernel
theorem dX0_subtracted_8 : decode cX0_subtracted 8 = .ok (.getfield 9, 3) := by decide +kernel
theorem dX0_subtracted_11 : decode cX0_subtracted 11 = .ok (.iload 4, 2) := by decide +kernel
theorem dX0_subtracted_13 : decode cX0_subtracted 13 = .ok (.ifCond .ge 7, 3) := by decide +kernel
theorem dX0_subtracted_16 : decode cX0_subtracted 16 = .ok (.iconst 1, 1) := by decide +kernel
theorem dX0_subtracted_17 : decode cX0_subtracted 17 = .ok (.goto 4, 3) := by decide +kernel
theorem dX0_subtracted_20 : decode cX0_subtracted 20 = .ok (.iconst 0, 1) := by decide +kernel
theorem dX0_subtracted_21 : decode cX0_subtracted 21 = .ok (.invokevirtual 32, 3) := by decide +kernel
theorem dX0_subtracted_24 : decode cX0_subtracted 24 = .ok (.aload_n 0, 1) := by decide +kernel
theorem dX0_subtracted_25 : decode cX0_subtracted 25 = .ok (.getfield 9, 3) := by decide +kernel
theorem dX0_subtracted_28 : decode cX0_subtracted 28 = .ok (.iload_n 1, 1) := by decide +kernel
theorem dX0_subtracted_29 : decode cX0_subtracted 29 = .ok (.bipush 15, 2) := by decide +kernel
theorem dX0_subtracted_31 : decode cX0_subtracted 31 = .ok (.iand, 1) := by decide +kernel
theorem dX0_subtracted_32 : decode cX0_subtracted 32 = .ok (.iload_n 2, 1) := by decide +kernel
theorem dX0_subtracted_33 : decode cX0_subtracted 33 = .ok (.bipush 15, 2) := by decide +kernel
theorem dX0_subtracted_35 : decode cX0_subtracted 35 = .ok (.iand, 1) := by decide +kernel
theorem dX0_subtracted_36 : decode cX0_subtracted 36 = .ok (.isub, 1) := by decide +kernel
theorem dX0_subtracted_37 : decode cX0_subtracted 37 = .ok (.iload_n 3, 1) := by decide +kernel
theorem dX0_subtracted_38 : decode cX0_subtracted 38 = .ok (.isub, 1) := by decide +kernel
theorem dX0_subtracted_39 : decode cX0_subtracted 39 = .ok (.ifCond .lt 7, 3) := by decide +kernel
theorem dX0_subtracted_42 : decode cX0_subtracted 42 = .ok (.iconst 1, 1) := by decide +kernel
theorem dX0_subtracted_43 : decode cX0_subtracted 43 = .ok (.goto 4, 3) := by decide +kernel
theorem dX0_subtracted_46 : decode cX0_subtracted 46 = .ok (.iconst 0, 1) := by decide +kernel
theorem dX0_subtracted_47 : decode cX0_subtracted 47 = .ok (.invokevirtual 36, 3) := by decide +kernel
theorem dX0_subtracted_50 : decode cX0_subtracted 50 = .ok (.aload_n 0, 1) := by decide +kernel
theorem dX0_subtracted_51 : decode cX0_subtracted 51 = .ok (.getfield 9, 3) := by decide +kernel
theorem dX0_subtracted_54 : decode cX0_subtracted 54 = .ok (.iload 4, 2) := by decide +kernel
theorem dX0_subtracted_56 : decode cX0_subtracted 56 = .ok (.sipush 255, 3) := by decide +kernel
theorem dX0_subtracted_59 : decode cX0_subtracted 59 = .ok (.iand, 1) := by decide +kernel
theorem dX0_subtracted_60 : decode cX0_subtracted 60 = .ok (.invokevirtual 39, 3) := by decide +kernel
theorem dX0_subtracted_63 : decode cX0_subtracted 63 = .ok (.iload 4, 2) := by decide +kernel
theorem dX0_subtracted_65 : decode cX0_subtracted 65 = .ok (.sipush 255, 3) := by decide +kernel
theorem dX0_subtracted_68 : decode cX0_subtracted 68 = .ok (.iand, 1) := by decide +kernel
theorem dX0_subtracted_69 : decode cX0_subtracted 69 = .ok (.ireturn, 1) := by decide +kernel
set_option maxRecDepth 20000 in
theorem ggX0_bitwise_X3_setCarry : GoodIn wsX0_bitwise wsX3_setCarry := goodIn_r _ [6, 7, 28, 29, 30, 31, 32] (by decide +kernel) (by decide +kernel)
set_option maxRecDepth 20000 in
theorem gX0_bitwise_X3_setCarry : GoodIn wsX0_bitwise (wsV RX0 32 RX3 yX3_setCarry wsX3_setCarry) := goodIn_app (goodIn_of _ (by decide +kernel)) ggX0_bitwise_X3_setCarry
set_option maxRecDepth 20000 in
theorem ggX0_bitwise_X3_setHalf : GoodIn wsX0_bitwise wsX3_setHalf := goodIn_r _ [11, 12, 28, 29, 30, 31, 32] (by decide +kernel) (by decide +kernel)
set_option maxRecDepth 20000 in
theorem gX0_bitwise_X3_setHalf : GoodIn wsX0_bitwise (wsV RX0 36 RX3 yX3_setHalf wsX3_setHalf) := goodIn_app (goodIn_of _ (by decide +kernel)) ggX0_bitwise_X3_setHalf
set_option maxRecDepth 20000 in
theorem ggX0_bitwise_X3_setLogic : GoodIn wsX0_bitwise wsX3_setLogic := goodIn_r _ [16, 17, 18, 19, 20, 21, 22, 23, 24, 25, 26, 28, 29, 30, 31, 32] (by decide +kernel) (by decide +kernel)
set_option maxRecDepth 20000 in
theorem gX0_bitwise_X3_setLogic : GoodIn wsX0_bitwise (wsV RX0 39 RX3 yX3_setLogic wsX3_setLogic) := goodIn_app (goodIn_of _ (by decide +kernel)) ggX0_bitwise_X3_setLogic
theorem dX0_bitwise_0 : decode cX0_bitwise 0 = .ok (.aload_n 0, 1) := by decide +kernel
theorem dX0_bitwise_1 : decode cX0_bitwise 1 = .ok (.getfield 9, 3) := by decide +kernel
theorem dX0_bitwise_4 : decode cX0_bitwise 4 = .ok (.iconst 0, 1) := by decide +kernel
theorem dX0_bitwise_5 : decode cX0_bitwise 5 = .ok (.invokevirtual 32, 3) := by decide +kernel
theorem dX0_bitwise_8 : decode cX0_bitwise 8 = .ok (.aload_n 0, 1) := by decide +kernel
theorem dX0_bitwise_9 : decode cX0_bitwise 9 = .ok (.getfield 9, 3) := by decide +kernel
theorem dX0_bitwise_12 : decode cX0_bitwise 12 = .ok (.iload_n 2, 1) := by decide +kernel
theorem dX0_bitwise_13 : decode cX0_bitwise 13 = .ok (.invokevirtual 36, 3) := by decide +kernel
theorem dX0_bitwise_16 : decode cX0_bitwise 16 = .ok (.aload_n 0, 1) := by decide +kernel
theorem dX0_bitwise_17 : decode cX0_bitwise 17 = .ok (.getfield 9, 3) := by decide +kernel
theorem dX0_bitwise_20 : decode cX0_bitwise 20 = .ok (.iload_n 1, 1) := by decide +kernel
theorem dX0_bitwise_21 : decode cX0_bitwise 21 = .ok (.invokevirtual 39, 3) := by decide +kernel
theorem dX0_bitwise_24 : decode cX0_bitwise 24 = .ok (.iload_n 1, 1) := by decide +kernel
theorem dX0_bitwise_25 : decode cX0_bitwise 25 = .ok (.ireturn, 1) := by decide +kernel
set_option maxRecDepth 20000 in
theorem ggX0_oneMore_X3_setHalf : GoodIn wsX0_oneMore wsX3_setHalf := goodIn_r _ [6, 7, 23, 24, 25, 26, 27] (by decide +kernel) (by decide +kernel)
set_option maxRecDepth 20000 in
theorem gX0_oneMore_X3_setHalf : GoodIn wsX0_oneMore (wsV RX0 36 RX3 yX3_setHalf wsX3_setHalf) := goodIn_app (goodIn_of _ (by decide +kernel)) ggX0_oneMore_X3_setHalf
set_option maxRecDepth 20000 in
theorem ggX0_oneMore_X3_setLogic : GoodIn wsX0_oneMore wsX3_setLogic := goodIn_r _ [11, 12, 13, 14, 15, 16, 17, 18, 19, 20, 21, 23, 24, 25, 26, 27] (by decide +kernel) (by decide +kernel)
set_option maxRecDepth 20000 in
theorem gX0_oneMore_X3_setLogic : GoodIn wsX0_oneMore (wsV RX0 39 RX3 yX3_setLogic wsX3_setLogic) := goodIn_app (goodIn_of _ (by decide +kernel)) ggX0_oneMore_X3_setLogic
theorem dX0_oneMore_0 : decode cX0_oneMore 0 = .ok (.iload_n 1, 1) := by decide +kernel
theorem dX0_oneMore_1 : decode cX0_oneMore 1 = .ok (.iconst 1, 1) := by decide +kernel
theorem dX0_oneMore_2 : decode cX0_oneMore 2 = .ok (.iadd, 1) := by decide +kernel
theorem dX0_oneMore_3 : decode cX0_oneMore 3 = .ok (.sipush 255, 3) := by decide +kernel
theorem dX0_oneMore_6 : decode cX0_oneMore 6 = .ok (.iand, 1) := by decide +kernel
theorem dX0_oneMore_7 : decode cX0_oneMore 7 = .ok (.istore_n 2, 1) := by decide +kernel
theorem dX0_oneMore_8 : decode cX0_oneMore 8 = .ok (.aload_n 0, 1) := by decide +kernel
theorem dX0_oneMore_9 : decode cX0_oneMore 9 = .ok (.getfield 9, 3) := by decide +kernel
theorem dX0_oneMore_12 : decode cX0_oneMore 12 = .ok (.iload_n 2, 1) := by decide +kernel
theorem dX0_oneMore_13 : decode cX0_oneMore 13 = .ok (.bipush 15, 2) := by decide +kernel
theorem dX0_oneMore_15 : decode cX0_oneMore 15 = .ok (.iand, 1) := by decide +kernel
theorem dX0_oneMore_16 : decode cX0_oneMore 16 = .ok (.ifCond .ne 7, 3) := by decide +kernel
theorem dX0_oneMore_19 : decode cX0_oneMore 19 = .ok (.iconst 1, 1) := by decide +kernel
theorem dX0_oneMore_20 : decode cX0_oneMore 20 = .ok (.goto 4, 3) := by decide +kernel
theorem dX0_oneMore_23 : decode cX0_oneMore 23 = .ok (.iconst 0, 1) := by decide +kernel
theorem dX0_oneMore_24 : decode cX0_oneMore 24 = .ok (.invokevirtual 36, 3) := by decide +kernel
theorem dX0_oneMore_27 : decode cX0_oneMore 27 = .ok (.aload_n 0, 1) := by decide +kernel
theorem dX0_oneMore_28 : decode cX0_oneMore 28 = .ok (.getfield 9, 3) := by decide +kernel
theorem dX0_oneMore_31 : decode cX0_oneMore 31 = .ok (.iload_n 2, 1) := by decide +kernel
theorem dX0_oneMore_32 : decode cX0_oneMore 32 = .ok (.invokevirtual 39, 3) := by decide +kernel
theorem dX0_oneMore_35 : decode cX0_oneMore 35 = .ok (.iload_n 2, 1) := by decide +kernel
theorem dX0_oneMore_36 : decode cX0_oneMore 36 = .ok (.ireturn, 1) := by decide +kernel
set_option maxRecDepth 20000 in
theorem ggX0_oneLess_X3_setHalf : GoodIn wsX0_oneLess wsX3_setHalf := goodIn_r _ [6, 7, 23, 24, 25, 26, 27] (by decide +kernel) (by decide +kernel)
set_option maxRecDepth 20000 in
theorem gX0_oneLess_X3_setHalf : GoodIn wsX0_oneLess (wsV RX0 36 RX3 yX3_setHalf wsX3_setHalf) := goodIn_app (goodIn_of _ (by decide +kernel)) ggX0_oneLess_X3_setHalf
set_option maxRecDepth 20000 in
theorem ggX0_oneLess_X3_setLogic : GoodIn wsX0_oneLess wsX3_setLogic := goodIn_r _ [11, 12, 13, 14, 15, 16, 17, 18, 19, 20, 21, 23, 24, 25, 26, 27] (by decide +kernel) (by decide +kernel)
set_option maxRecDepth 20000 in
theorem gX0_oneLess_X3_setLogic : GoodIn wsX0_oneLess (wsV RX0 39 RX3 yX3_setLogic wsX3_setLogic) := goodIn_app (goodIn_of _ (by decide +kernel)) ggX0_oneLess_X3_setLogic
theorem dX0_oneLess_0 : decode cX0_oneLess 0 = .ok (.iload_n 1, 1) := by decide +kernel
theorem dX0_oneLess_1 : decode cX0_oneLess 1 = .ok (.iconst 1, 1) := by decide +kernel
theorem dX0_oneLess_2 : decode cX0_oneLess 2 = .ok (.isub, 1) := by decide +kernel
theorem dX0_oneLess_3 : decode cX0_oneLess 3 = .ok (.sipush 255, 3) := by decide +kernel
theorem dX0_oneLess_6 : decode cX0_oneLess 6 = .ok (.iand, 1) := by decide +kernel
theorem dX0_oneLess_7 : decode cX0_oneLess 7 = .ok (.istore_n 2, 1) := by decide +kernel
theorem dX0_oneLess_8 : decode cX0_oneLess 8 = .ok (.aload_n 0, 1) := by decide +kernel
theorem dX0_oneLess_9 : decode cX0_oneLess 9 = .ok (.getfield 9, 3) := by decide +kernel
theorem dX0_oneLess_12 : decode cX0_oneLess 12 = .ok (.iload_n 2, 1) := by decide +kernel
theorem dX0_oneLess_13 : decode cX0_oneLess 13 = .ok (.bipush 15, 2) := by decide +kernel
theorem dX0_oneLess_15 : decode cX0_oneLess 15 = .ok (.iand, 1) := by decide +kernel
theorem dX0_oneLess_16 : decode cX0_oneLess 16 = .ok (.bipush 15, 2) := by decide +kernel
theorem dX0_oneLess_18 : decode cX0_oneLess 18 = .ok (.if_icmp .eq 7, 3) := by decide +kernel
theorem dX0_oneLess_21 : decode cX0_oneLess 21 = .ok (.iconst 1, 1) := by decide +kernel
theorem dX0_oneLess_22 : decode cX0_oneLess 22 = .ok (.goto 4, 3) := by decide +kernel
theorem dX0_oneLess_25 : decode cX0_oneLess 25 = .ok (.iconst 0, 1) := by decide +kernel
theorem dX0_oneLess_26 : decode cX0_oneLess 26 = .ok (.invokevirtual 36, 3) := by decide +kernel
theorem dX0_oneLess_29 : decode cX0_oneLess 29 = .ok (.aload_n 0, 1) := by decide +kernel
theorem dX0_oneLess_30 : decode cX0_oneLess 30 = .ok (.getfield 9, 3) := by decide +kernel
theorem dX0_oneLess_33 : decode cX0_oneLess 33 = .ok (.iload_n 2, 1) := by decide +kernel
theorem dX0_oneLess_34 : decode cX0_oneLess 34 = .ok (.invokevirtual 39, 3) := by decide +kernel
theorem dX0_oneLess_37 : decode cX0_oneLess 37 = .ok (.iload_n 2, 1) := by decide +kernel
theorem dX0_oneLess_38 : decode cX0_oneLess 38 = .ok (.ireturn, 1) := by decide +kernel
set_option maxRecDepth 20000 in
theorem ggX0_adjust_X0_turnLeft : GoodIn wsX0_adjust wsX0_turnLeft := goodIn_r _ [6, 1, 7, 8, 9, 10, 11, 12, 52, 53, 54, 55, 56, 57] (by decide +kernel) (by decide +kernel)
set_option maxRecDepth 20000 in
theorem gX0_adjust_X0_turnLeft : GoodIn wsX0_adjust (wsV RX0 43 RX0 yX0_turnLeft wsX0_turnLeft) := goodIn_app (goodIn_of _ (by decide +kernel)) ggX0_adjust_X0_turnLeft
set_option maxRecDepth 20000 in
theorem ggX0_adjust_X0_turnRight : GoodIn wsX0_adjust wsX0_turnRight := goodIn_r _ [16, 1, 7, 8, 9, 10, 11, 12, 52, 53, 54, 55, 56, 57] (by decide +kernel) (by decide +kernel)
set_option maxRecDepth 20000 in
theorem gX0_adjust_X0_turnRight : GoodIn wsX0_adjust (wsV RX0 47 RX0 yX0_turnRight wsX0_turnRight) := goodIn_app (goodIn_of _ (by decide +kernel)) ggX0_adjust_X0_turnRight
set_option maxRecDepth 20000 in
theorem ggX0_adjust_X3_carryBit : GoodIn wsX0_adjust wsX3_carryBit := goodIn_r _ [20, 12, 53, 54, 55, 56, 57] (by decide +kernel) (by decide +kernel)
set_option maxRecDepth 20000 in
theorem gX0_adjust_X3_carryBit : GoodIn wsX0_adjust (wsV RX0 19 RX3 yX3_carryBit wsX3_carryBit) := goodIn_app (goodIn_of _ (by decide +kernel)) ggX0_adjust_X3_carryBit
set_option maxRecDepth 20000 in
theorem ggX0_adjust_X0_toDecimal : GoodIn wsX0_adjust wsX0_toDecimal := goodIn_r _ [24, 1, 25, 26, 27, 10, 28, 29, 30, 31, 32, 33, 12, 34, 35, 36, 37, 7, 8, 9, 11, 38, 39, 40, 41, 42, 43, 44, 45, 46, 47, 48, 49, 50, 51, 52, 53, 54, 55, 56, 57] (by decide +kernel) (by decide +kernel)
set_option maxRecDepth 20000 in
theorem gX0_adjust_X0_toDecimal : GoodIn wsX0_adjust (wsV RX0 50 RX0 yX0_toDecimal wsX0_toDecimal) := goodIn_app (goodIn_of _ (by decide +kernel)) ggX0_adjust_X0_toDecimal
set_option maxRecDepth 20000 in
theorem ggX0_adjust_X3_setCarry : GoodIn wsX0_adjust wsX3_setCarry := goodIn_r _ [11, 12, 53, 54, 55, 56, 57] (by decide +kernel) (by decide +kernel)
set_option maxRecDepth 20000 in
theorem gX0_adjust_X3_setCarry : GoodIn wsX0_adjust (wsV RX0 32 RX3 yX3_setCarry wsX3_setCarry) := goodIn_app (goodIn_of _ (by decide +kernel)) ggX0_adjust_X3_setCarry
set_option maxRecDepth 20000 in
theorem ggX0_adjust_X3_hasCarry : GoodIn wsX0_adjust wsX3_hasCarry := goodIn_r _ [33, 12, 53, 54, 55, 56, 57] (by decide +kernel) (by decide +kernel)
set_option maxRecDepth 20000 in
theorem gX0_adjust_X3_hasCarry : GoodIn wsX0_adjust (wsV RX0 54 RX3 yX3_hasCarry wsX3_hasCarry) := goodIn_app (goodIn_of _ (by decide +kernel)) ggX0_adjust_X3_hasCarry
theorem dX0_adjust_0 : decode cX0_adjust 0 = .ok (.iload_n 1, 1) := by decide +kernel
theorem dX0_adjust_1 : decode cX0_adjust 1 = .ok (.tableswitch 110 0 6 #[43, 53, 62, 75, 88, 94, 100], 43) := by decide +kernel
theorem dX0_adjust_44 : decode cX0_adjust 44 = .ok (.aload_n 0, 1) := by decide +kernel
theorem dX0_adjust_45 : decode cX0_adjust 45 = .ok (.iload_n 2, 1) := by decide +kernel
theorem dX0_adjust_46 : decode cX0_adjust 46 = .ok (.iload_n 2, 1) := by decide +kernel
theorem dX0_adjust_47 : decode cX0_adjust 47 = .ok (.bipush 7, 2) := by decide +kernel
theorem dX0_adjust_49 : decode cX0_adjust 49 = .ok (.ishr, 1) := by decide +kernel
theorem dX0_adjust_50 : decode cX0_adjust 50 = .ok (.invokevirtual 43, 3) := by decide +kernel
theorem dX0_adjust_53 : decode cX0_adjust 53 = .ok (.ireturn, 1) := by decide +kernel
theorem dX0_adjust_54 : decode cX0_adjust 54 = .ok (.aload_n 0, 1) := by decide +kernel
theorem dX0_adjust_55 : decode cX0_adjust 55 = .ok (.iload_n 2, 1) := by decide +kernel
theorem dX0_adjust_56 : decode cX0_adjust 56 = .ok (.iload_n 2, 1) := by decide +kernel
theorem dX0_adjust_57 : decode cX0_adjust 57 = .ok (.iconst 1, 1) := by decide +kernel
theorem dX0_adjust_58 : decode cX0_adjust 58 = .ok (.iand, 1) := by decide +kernel
theorem dX0_adjust_59 : decode cX0_adjust 59 = .ok (.invokevirtual 47, 3) := by decide +kernel
theorem dX0_adjust_62 : decode cX0_adjust 62 = .ok (.ireturn, 1) := by decide +kernel
theorem dX0_adjust_63 : decode cX0_adjust 63 = .ok (.aload_n 0, 1) := by decide +kernel
theorem dX0_adjust_64 : decode cX0_adjust 64 = .ok (.iload_n 2, 1) := by decide +kernel
theorem dX0_adjust_65 : decode cX0_adjust 65 = .ok (.aload_n 0, 1) := by decide +kernel
theorem dX0_adjust_66 : decode cX0_adjust 66 = .ok (.getfield 9, 3) := by decide +kernel
theorem dX0_adjust_69 : decode cX0_adjust 69 = .ok (.invokevirtual 19, 3) := by decide +kernel
theorem dX0_adjust_72 : decode cX0_adjust 72 = .ok (.invokevirtual 43, 3) := by decide +kernel
theorem dX0_adjust_75 : decode cX0_adjust 75 = .ok (.ireturn, 1) := by decide +kernel
theorem dX0_adjust_76 : decode cX0_adjust 76 = .ok (.aload_n 0, 1) := by decide +kernel
theorem dX0_adjust_77 : decode cX0_adjust 77 = .ok (.iload_n 2, 1) := by decide +kernel
theorem dX0_adjust_78 : decode cX0_adjust 78 = .ok (.aload_n 0, 1) := by decide +kernel
theorem dX0_adjust_79 : decode cX0_adjust 79 = .ok (.getfield 9, 3) := by decide +kernel
theorem dX0_adjust_82 : decode cX0_adjust 82 = .ok (.invokevirtual 19, 3) := by decide +kernel
theorem dX0_adjust_85 : decode cX0_adjust 85 = .ok (.invokevirtual 47, 3) := by decide +kernel
theorem dX0_adjust_88 : decode cX0_adjust 88 = .ok (.ireturn, 1) := by decide +kernel
theorem dX0_adjust_89 : decode cX0_adjust 89 = .ok (.aload_n 0, 1) := by decide +kernel
theorem dX0_adjust_90 : decode cX0_adjust 90 = .ok (.iload_n 2, 1) := by decide +kernel
theorem dX0_adjust_91 : decode cX0_adjust 91 = .ok (.invokevirtual 50, 3) := by decide +kernel
theorem dX0_adjust_94 : decode cX0_adjust 94 = .ok (.ireturn, 1) := by decide +kernel
theorem dX0_adjust_95 : decode cX0_adjust 95 = .ok (.iload_n 2, 1) := by decide +kernel
theorem dX0_adjust_96 : decode cX0_adjust 96 = .ok (.sipush 255, 3) := by decide +kernel
theorem dX0_adjust_99 : decode cX0_adjust 99 = .ok (.ixor, 1) := by decide +kernel
theorem dX0_adjust_100 : decode cX0_adjust 100 = .ok (.ireturn, 1) := by decide +kernel
theorem dX0_adjust_101 : decode cX0_adjust 101 = .ok (.aload_n 0, 1) := by decide +kernel
theorem dX0_adjust_102 : decode cX0_adjust 102 = .ok (.getfield 9, 3) := by decide +kernel
theorem dX0_adjust_105 : decode cX0_adjust 105 = .ok (.iconst 1, 1) := by decide +kernel
theorem dX0_adjust_106 : decode cX0_adjust 106 = .ok (.invokevirtual 32, 3) := by decide +kernel
theorem dX0_adjust_109 : decode cX0_adjust 109 = .ok (.iload_n 2, 1) := by decide +kernel
theorem dX0_adjust_110 : decode cX0_adjust 110 = .ok (.ireturn, 1) := by decide +kernel
theorem dX0_adjust_111 : decode cX0_adjust 111 = .ok (.aload_n 0, 1) := by decide +kernel
theorem dX0_adjust_112 : decode cX0_adjust 112 = .ok (.getfield 9, 3) := by decide +kernel
theorem dX0_adjust_115 : decode cX0_adjust 115 = .ok (.aload_n 0, 1) := by decide +kernel
theorem dX0_adjust_116 : decode cX0_adjust 116 = .ok (.getfield 9, 3) := by decide +kernel
theorem dX0_adjust_119 : decode cX0_adjust 119 = .ok (.invokevirtual 54, 3) := by decide +kernel
theorem dX0_adjust_122 : decode cX0_adjust 122 = .ok (.ifCond .ne 7, 3) := by decide +kernel
theorem dX0_adjust_125 : decode cX0_adjust 125 = .ok (.iconst 1, 1) := by decide +kernel
theorem dX0_adjust_126 : decode cX0_adjust 126 = .ok (.goto 4, 3) := by decide +kernel
theorem dX0_adjust_129 : decode cX0_adjust 129 = .ok (.iconst 0, 1) := by decide +kernel
theorem dX0_adjust_130 : decode cX0_adjust 130 = .ok (.invokevirtual 32, 3) := by decide +kernel
theorem dX0_adjust_133 : decode cX0_adjust 133 = .ok (.iload_n 2, 1) := by decide +kernel
theorem dX0_adjust_134 : decode cX0_adjust 134 = .ok (.ireturn, 1) := by decide +kernel
set_option maxRecDepth 20000 in
theorem ggX0_turnLeft_X3_setCarry : GoodIn wsX0_turnLeft wsX3_setCarry := goodIn_r _ [6, 7, 9, 10, 11, 12, 13] (by decide +kernel) (by decide +kernel)
set_option maxRecDepth 20000 in
theorem gX0_turnLeft_X3_setCarry : GoodIn wsX0_turnLeft (wsV RX0 32 RX3 yX3_setCarry wsX3_setCarry) := goodIn_app (goodIn_of _ (by decide +kernel)) ggX0_turnLeft_X3_setCarry
theorem dX0_turnLeft_0 : decode cX0_turnLeft 0 = .ok (.aload_n 0, 1) := by decide +kernel
theorem dX0_turnLeft_1 : decode cX0_turnLeft 1 = .ok (.getfield 9, 3) := by decide +kernel
theorem dX0_turnLeft_4 : decode cX0_turnLeft 4 = .ok (.iload_n 1, 1) := by decide +kernel
theorem dX0_turnLeft_5 : decode cX0_turnLeft 5 = .ok (.sipush 128, 3) := by decide +kernel
theorem dX0_turnLeft_8 : decode cX0_turnLeft 8 = .ok (.iand, 1) := by decide +kernel
theorem dX0_turnLeft_9 : decode cX0_turnLeft 9 = .ok (.ifCond .eq 7, 3) := by decide +kernel
theorem dX0_turnLeft_12 : decode cX0_turnLeft 12 = .ok (.iconst 1, 1) := by decide +kernel
theorem dX0_turnLeft_13 : decode cX0_turnLeft 13 = .ok (.goto 4, 3) := by decide +kernel
theorem dX0_turnLeft_16 : decode cX0_turnLeft 16 = .ok (.iconst 0, 1) := by decide +kernel
theorem dX0_turnLeft_17 : decode cX0_turnLeft 17 = .ok (.invokevirtual 32, 3) := by decide +kernel
theorem dX0_turnLeft_20 : decode cX0_turnLeft 20 = .ok (.iload_n 1, 1) := by decide +kernel
theorem dX0_turnLeft_21 : decode cX0_turnLeft 21 = .ok (.iconst 1, 1) := by decide +kernel
theorem dX0_turnLeft_22 : decode cX0_turnLeft 22 = .ok (.ishl, 1) := by decide +kernel
theorem dX0_turnLeft_23 : decode cX0_turnLeft 23 = .ok (.sipush 255, 3) := by decide +kernel
theorem dX0_turnLeft_26 : decode cX0_turnLeft 26 = .ok (.iand, 1) := by decide +kernel
theorem dX0_turnLeft_27 : decode cX0_turnLeft 27 = .ok (.iload_n 2, 1) := by decide +kernel
theorem dX0_turnLeft_28 : decode cX0_turnLeft 28 = .ok (.ior, 1) := by decide +kernel
theorem dX0_turnLeft_29 : decode cX0_turnLeft 29 = .ok (.ireturn, 1) := by decide +kernel
set_option maxRecDepth 20000 in
theorem ggX0_turnRight_X3_setCarry : GoodIn wsX0_turnRight wsX3_setCarry := goodIn_r _ [6, 7, 9, 10, 11, 12, 13] (by decide +kernel) (by decide +kernel)
set_option maxRecDepth 20000 in
theorem gX0_turnRight_X3_setCarry : GoodIn wsX0_turnRight (wsV RX0 32 RX3 yX3_setCarry wsX3_setCarry) := goodIn_app (goodIn_of _ (by decide +kernel)) ggX0_turnRight_X3_setCarry
theorem dX0_turnRight_0 : decode cX0_turnRight 0 = .ok (.aload_n 0, 1) := by decide +kernel
theorem dX0_turnRight_1 : decode cX0_turnRight 1 = .ok (.getfield 9, 3) := by decide +kernel
theorem dX0_turnRight_4 : decode cX0_turnRight 4 = .ok (.iload_n 1, 1) := by decide +kernel
theorem dX0_turnRight_5 : decode cX0_turnRight 5 = .ok (.iconst 1, 1) := by decide +kernel
theorem dX0_turnRight_6 : decode cX0_turnRight 6 = .ok (.iand, 1) := by decide +kernel
theorem dX0_turnRight_7 : decode cX0_turnRight 7 = .ok (.ifCond .eq 7, 3) := by decide +kernel
theorem dX0_turnRight_10 : decode cX0_turnRight 10 = .ok (.iconst 1, 1) := by decide +kernel
theorem dX0_turnRight_11 : decode cX0_turnRight 11 = .ok (.goto 4, 3) := by decide +kernel
theorem dX0_turnRight_14 : decode cX0_turnRight 14 = .ok (.iconst 0, 1) := by decide +kernel
theorem dX0_turnRight_15 : decode cX0_turnRight 15 = .ok (.invokevirtual 32, 3) := by decide +kernel
theorem dX0_turnRight_18 : decode cX0_turnRight 18 = .ok (.iload_n 1, 1) := by decide +kernel
theorem dX0_turnRight_19 : decode cX0_turnRight 19 = .ok (.iconst 1, 1) := by decide +kernel
theorem dX0_turnRight_20 : decode cX0_turnRight 20 = .ok (.ishr, 1) := by decide +kernel
theorem dX0_turnRight_21 : decode cX0_turnRight 21 = .ok (.iload_n 2, 1) := by decide +kernel
theorem dX0_turnRight_22 : decode cX0_turnRight 22 = .ok (.bipush 7, 2) := by decide +kernel
theorem dX0_turnRight_24 : decode cX0_turnRight 24 = .ok (.ishl, 1) := by decide +kernel
theorem dX0_turnRight_25 : decode cX0_turnRight 25 = .ok (.ior, 1) := by decide +kernel
theorem dX0_turnRight_26 : decode cX0_turnRight 26 = .ok (.ireturn, 1) := by decide +kernel
set_option maxRecDepth 20000 in
theorem ggX0_toDecimal_X3_hasHalf : GoodIn wsX0_toDecimal wsX3_hasHalf := goodIn_r _ [6, 7, 36, 37, 38, 39, 40] (by decide +kernel) (by decide +kernel)
set_option maxRecDepth 20000 in
theorem gX0_toDecimal_X3_hasHalf : GoodIn wsX0_toDecimal (wsV RX0 58 RX3 yX3_hasHalf wsX3_hasHalf) := goodIn_app (goodIn_of _ (by decide +kernel)) ggX0_toDecimal_X3_hasHalf
set_option maxRecDepth 20000 in
theorem ggX0_toDecimal_X3_hasCarry : GoodIn wsX0_toDecimal wsX3_hasCarry := goodIn_r _ [11, 12, 36, 37, 38, 39, 40] (by decide +kernel) (by decide +kernel)
set_option maxRecDepth 20000 in
theorem gX0_toDecimal_X3_hasCarry : GoodIn wsX0_toDecimal (wsV RX0 54 RX3 yX3_hasCarry wsX3_hasCarry) := goodIn_app (goodIn_of _ (by decide +kernel)) ggX0_toDecimal_X3_hasCarry
set_option maxRecDepth 20000 in
theorem ggX0_toDecimal_X3_setHalf : GoodIn wsX0_toDecimal wsX3_setHalf := goodIn_r _ [16, 7, 36, 37, 38, 39, 40] (by decide +kernel) (by decide +kernel)
set_option maxRecDepth 20000 in
theorem gX0_toDecimal_X3_setHalf : GoodIn wsX0_toDecimal (wsV RX0 36 RX3 yX3_setHalf wsX3_setHalf) := goodIn_app (goodIn_of _ (by decide +kernel)) ggX0_toDecimal_X3_setHalf
set_option maxRecDepth 20000 in
theorem ggX0_toDecimal_X3_setCarry : GoodIn wsX0_toDecimal wsX3_setCarry := goodIn_r _ [20, 12, 36, 37, 38, 39, 40] (by decide +kernel) (by decide +kernel)
set_option maxRecDepth 20000 in
theorem gX0_toDecimal_X3_setCarry : GoodIn wsX0_toDecimal (wsV RX0 32 RX3 yX3_setCarry wsX3_setCarry) := goodIn_app (goodIn_of _ (by decide +kernel)) ggX0_toDecimal_X3_setCarry
set_option maxRecDepth 20000 in
theorem ggX0_toDecimal_X3_setLogic : GoodIn wsX0_toDecimal wsX3_setLogic := goodIn_r _ [24, 25, 26, 27, 28, 29, 30, 31, 32, 33, 34, 36, 37, 38, 39, 40] (by decide +kernel) (by decide +kernel)
set_option maxRecDepth 20000 in
theorem gX0_toDecimal_X3_setLogic : GoodIn wsX0_toDecimal (wsV RX0 39 RX3 yX3_setLogic wsX3_setLogic) := goodIn_app (goodIn_of _ (by decide +kernel)) ggX0_toDecimal_X3_setLogic
theorem dX0_toDecimal_0 : decode cX0_toDecimal 0 = .ok (.iload_n 1, 1) := by decide +kernel
theorem dX0_toDecimal_1 : decode cX0_toDecimal 1 = .ok (.bipush 15, 2) := by decide +kernel
theorem dX0_toDecimal_3 : decode cX0_toDecimal 3 = .ok (.iand, 1) := by decide +kernel
theorem dX0_toDecimal_4 : decode cX0_toDecimal 4 = .ok (.istore_n 2, 1) := by decide +kernel
theorem dX0_toDecimal_5 : decode cX0_toDecimal 5 = .ok (.iload_n 1, 1) := by decide +kernel
theorem dX0_toDecimal_6 : decode cX0_toDecimal 6 = .ok (.iconst 4, 1) := by decide +kernel
theorem dX0_toDecimal_7 : decode cX0_toDecimal 7 = .ok (.ishr, 1) := by decide +kernel
theorem dX0_toDecimal_8 : decode cX0_toDecimal 8 = .ok (.istore_n 3, 1) := by decide +kernel
theorem dX0_toDecimal_9 : decode cX0_toDecimal 9 = .ok (.iload_n 2, 1) := by decide +kernel
theorem dX0_toDecimal_10 : decode cX0_toDecimal 10 = .ok (.bipush 9, 2) := by decide +kernel
theorem dX0_toDecimal_12 : decode cX0_toDecimal 12 = .ok (.if_icmp .gt 13, 3) := by decide +kernel
theorem dX0_toDecimal_15 : decode cX0_toDecimal 15 = .ok (.aload_n 0, 1) := by decide +kernel
theorem dX0_toDecimal_16 : decode cX0_toDecimal 16 = .ok (.getfield 9, 3) := by decide +kernel
theorem dX0_toDecimal_19 : decode cX0_toDecimal 19 = .ok (.invokevirtual 58, 3) := by decide +kernel
theorem dX0_toDecimal_22 : decode cX0_toDecimal 22 = .ok (.ifCond .eq 7, 3) := by decide +kernel
theorem dX0_toDecimal_25 : decode cX0_toDecimal 25 = .ok (.iconst 1, 1) := by decide +kernel
theorem dX0_toDecimal_26 : decode cX0_toDecimal 26 = .ok (.goto 4, 3) := by decide +kernel
theorem dX0_toDecimal_29 : decode cX0_toDecimal 29 = .ok (.iconst 0, 1) := by decide +kernel
theorem dX0_toDecimal_30 : decode cX0_toDecimal 30 = .ok (.istore 4, 2) := by decide +kernel
theorem dX0_toDecimal_32 : decode cX0_toDecimal 32 = .ok (.iload_n 3, 1) := by decide +kernel
theorem dX0_toDecimal_33 : decode cX0_toDecimal 33 = .ok (.bipush 9, 2) := by decide +kernel
theorem dX0_toDecimal_35 : decode cX0_toDecimal 35 = .ok (.if_icmp .gt 25, 3) := by decide +kernel
theorem dX0_toDecimal_38 : decode cX0_toDecimal 38 = .ok (.aload_n 0, 1) := by decide +kernel
theorem dX0_toDecimal_39 : decode cX0_toDecimal 39 = .ok (.getfield 9, 3) := by decide +kernel
theorem dX0_toDecimal_42 : decode cX0_toDecimal 42 = .ok (.invokevirtual 54, 3) := by decide +kernel
theorem dX0_toDecimal_45 : decode cX0_toDecimal 45 = .ok (.ifCond .ne 15, 3) := by decide +kernel
theorem dX0_toDecimal_48 : decode cX0_toDecimal 48 = .ok (.iload_n 3, 1) := by decide +kernel
theorem dX0_toDecimal_49 : decode cX0_toDecimal 49 = .ok (.bipush 9, 2) := by decide +kernel
theorem dX0_toDecimal_51 : decode cX0_toDecimal 51 = .ok (.if_icmp .ne 13, 3) := by decide +kernel
theorem dX0_toDecimal_54 : decode cX0_toDecimal 54 = .ok (.iload_n 2, 1) := by decide +kernel
theorem dX0_toDecimal_55 : decode cX0_toDecimal 55 = .ok (.bipush 9, 2) := by decide +kernel
theorem dX0_toDecimal_57 : decode cX0_toDecimal 57 = .ok (.if_icmp .le 7, 3) := by decide +kernel
theorem dX0_toDecimal_60 : decode cX0_toDecimal 60 = .ok (.iconst 1, 1) := by decide +kernel
theorem dX0_toDecimal_61 : decode cX0_toDecimal 61 = .ok (.goto 4, 3) := by decide +kernel
theorem dX0_toDecimal_64 : decode cX0_toDecimal 64 = .ok (.iconst 0, 1) := by decide +kernel
theorem dX0_toDecimal_65 : decode cX0_toDecimal 65 = .ok (.istore 5, 2) := by decide +kernel
theorem dX0_toDecimal_67 : decode cX0_toDecimal 67 = .ok (.iload_n 1, 1) := by decide +kernel
theorem dX0_toDecimal_68 : decode cX0_toDecimal 68 = .ok (.iload 4, 2) := by decide +kernel
theorem dX0_toDecimal_70 : decode cX0_toDecimal 70 = .ok (.ifCond .eq 8, 3) := by decide +kernel
theorem dX0_toDecimal_73 : decode cX0_toDecimal 73 = .ok (.bipush 6, 2) := by decide +kernel
theorem dX0_toDecimal_75 : decode cX0_toDecimal 75 = .ok (.goto 4, 3) := by decide +kernel
theorem dX0_toDecimal_78 : decode cX0_toDecimal 78 = .ok (.iconst 0, 1) := by decide +kernel
theorem dX0_toDecimal_79 : decode cX0_toDecimal 79 = .ok (.iadd, 1) := by decide +kernel
theorem dX0_toDecimal_80 : decode cX0_toDecimal 80 = .ok (.iload 5, 2) := by decide +kernel
theorem dX0_toDecimal_82 : decode cX0_toDecimal 82 = .ok (.ifCond .eq 8, 3) := by decide +kernel
theorem dX0_toDecimal_85 : decode cX0_toDecimal 85 = .ok (.bipush 96, 2) := by decide +kernel
theorem dX0_toDecimal_87 : decode cX0_toDecimal 87 = .ok (.goto 4, 3) := by decide +kernel
theorem dX0_toDecimal_90 : decode cX0_toDecimal 90 = .ok (.iconst 0, 1) := by decide +kernel
theorem dX0_toDecimal_91 : decode cX0_toDecimal 91 = .ok (.iadd, 1) := by decide +kernel
theorem dX0_toDecimal_92 : decode cX0_toDecimal 92 = .ok (.sipush 255, 3) := by decide +kernel
theorem dX0_toDecimal_95 : decode cX0_toDecimal 95 = .ok (.iand, 1) := by decide +kernel
theorem dX0_toDecimal_96 : decode cX0_toDecimal 96 = .ok (.istore 6, 2) := by decide +kernel
theorem dX0_toDecimal_98 : decode cX0_toDecimal 98 = .ok (.aload_n 0, 1) := by decide +kernel
theorem dX0_toDecimal_99 : decode cX0_toDecimal 99 = .ok (.getfield 9, 3) := by decide +kernel
theorem dX0_toDecimal_102 : decode cX0_toDecimal 102 = .ok (.iload 4, 2) := by decide +kernel
theorem dX0_toDecimal_104 : decode cX0_toDecimal 104 = .ok (.ifCond .eq 16, 3) := by decide +kernel
theorem dX0_toDecimal_107 : decode cX0_toDecimal 107 = .ok (.iload_n 2, 1) := by decide +kernel
theorem dX0_toDecimal_108 : decode cX0_toDecimal 108 = .ok (.bipush 6, 2) := by decide +kernel
theorem dX0_toDecimal_110 : decode cX0_toDecimal 110 = .ok (.iadd, 1) := by decide +kernel
theorem dX0_toDecimal_111 : decode cX0_toDecimal 111 = .ok (.bipush 15, 2) := by decide +kernel
theorem dX0_toDecimal_113 : decode cX0_toDecimal 113 = .ok (.if_icmp .le 7, 3) := by decide +kernel
theorem dX0_toDecimal_116 : decode cX0_toDecimal 116 = .ok (.iconst 1, 1) := by decide +kernel
theorem dX0_toDecimal_117 : decode cX0_toDecimal 117 = .ok (.goto 4, 3) := by decide +kernel
theorem dX0_toDecimal_120 : decode cX0_toDecimal 120 = .ok (.iconst 0, 1) := by decide +kernel
theorem dX0_toDecimal_121 : decode cX0_toDecimal 121 = .ok (.invokevirtual 36, 3) := by decide +kernel
theorem dX0_toDecimal_124 : decode cX0_toDecimal 124 = .ok (.aload_n 0, 1) := by decide +kernel
theorem dX0_toDecimal_125 : decode cX0_toDecimal 125 = .ok (.getfield 9, 3) := by decide +kernel
theorem dX0_toDecimal_128 : decode cX0_toDecimal 128 = .ok (.iload 5, 2) := by decide +kernel
theorem dX0_toDecimal_130 : decode cX0_toDecimal 130 = .ok (.invokevirtual 32, 3) := by decide +kernel
theorem dX0_toDecimal_133 : decode cX0_toDecimal 133 = .ok (.aload_n 0, 1) := by decide +kernel
theorem dX0_toDecimal_134 : decode cX0_toDecimal 134 = .ok (.getfield 9, 3) := by decide +kernel
theorem dX0_toDecimal_137 : decode cX0_toDecimal 137 = .ok (.iload 6, 2) := by decide +kernel
theorem dX0_toDecimal_139 : decode cX0_toDecimal 139 = .ok (.invokevirtual 39, 3) := by decide +kernel
theorem dX0_toDecimal_142 : decode cX0_toDecimal 142 = .ok (.iload 6, 2) := by decide +kernel
theorem dX0_toDecimal_144 : decode cX0_toDecimal 144 = .ok (.ireturn, 1) := by decide +kernel
theorem dX1_init_0 : decode cX1_init 0 = .ok (.aload_n 0, 1) := by decide +kernel
theorem dX1_init_1 : decode cX1_init 1 = .ok (.invokespecial 5, 3) := by decide +kernel
theorem dX1_init_4 : decode cX1_init 4 = .ok (.aload_n 0, 1) := by decide +kernel
theorem dX1_init_5 : decode cX1_init 5 = .ok (.bipush 64, 2) := by decide +kernel
theorem dX1_init_7 : decode cX1_init 7 = .ok (.newarray .int, 2) := by decide +kernel
theorem dX1_init_9 : decode cX1_init 9 = .ok (.putfield 11, 3) := by decide +kernel
theorem dX1_init_12 : decode cX1_init 12 = .ok (.aload_n 0, 1) := by decide +kernel
theorem dX1_init_13 : decode cX1_init 13 = .ok (.sipush 256, 3) := by decide +kernel
theorem dX1_init_16 : decode cX1_init 16 = .ok (.newarray .int, 2) := by decide +kernel
theorem dX1_init_18 : decode cX1_init 18 = .ok (.putfield 15, 3) := by decide +kernel
theorem dX1_init_21 : decode cX1_init 21 = .ok (.return_, 1) := by decide +kernel
theorem dX1_takeKey_0 : decode cX1_takeKey 0 = .ok (.aload_n 0, 1) := by decide +kernel
theorem dX1_takeKey_1 : decode cX1_takeKey 1 = .ok (.getfield 18, 3) := by decide +kernel
theorem dX1_takeKey_4 : decode cX1_takeKey 4 = .ok (.bipush 64, 2) := by decide +kernel
theorem dX1_takeKey_6 : decode cX1_takeKey 6 = .ok (.if_icmp .lt 5, 3) := by decide +kernel
theorem dX1_takeKey_9 : decode cX1_takeKey 9 = .ok (.iconst (-1), 1) := by decide +kernel
theorem dX1_takeKey_10 : decode cX1_takeKey 10 = .ok (.ireturn, 1) := by decide +kernel
theorem dX1_takeKey_11 : decode cX1_takeKey 11 = .ok (.aload_n 0, 1) := by decide +kernel
theorem dX1_takeKey_12 : decode cX1_takeKey 12 = .ok (.getfield 11, 3) := by decide +kernel
theorem dX1_takeKey_15 : decode cX1_takeKey 15 = .ok (.aload_n 0, 1) := by decide +kernel
theorem dX1_takeKey_16 : decode cX1_takeKey 16 = .ok (.getfield 22, 3) := by decide +kernel
theorem dX1_takeKey_19 : decode cX1_takeKey 19 = .ok (.aload_n 0, 1) := by decide +kernel
theorem dX1_takeKey_20 : decode cX1_takeKey 20 = .ok (.getfield 18, 3) := by decide +kernel
theorem dX1_takeKey_23 : decode cX1_takeKey 23 = .ok (.iadd, 1) := by decide +kernel
theorem dX1_takeKey_24 : decode cX1_takeKey 24 = .ok (.bipush 64, 2) := by decide +kernel
theorem dX1_takeKey_26 : decode cX1_takeKey 26 = .ok (.irem, 1) := by decide +kernel
theorem dX1_takeKey_27 : decode cX1_takeKey 27 = .ok (.iload_n 1, 1) := by decide +kernel
theorem dX1_takeKey_28 : decode cX1_takeKey 28 = .ok (.iastore, 1) := by decide +kernel
theorem dX1_takeKey_29 : decode cX1_takeKey 29 = .ok (.aload_n 0, 1) := by decide +kernel
theorem dX1_takeKey_30 : decode cX1_takeKey 30 = .ok (.dup, 1) := by decide +kernel
theorem dX1_takeKey_31 : decode cX1_takeKey 31 = .ok (.getfield 18, 3) := by decide +kernel
theorem dX1_takeKey_34 : decode cX1_takeKey 34 = .ok (.iconst 1, 1) := by decide +kernel
theorem dX1_takeKey_35 : decode cX1_takeKey 35 = .ok (.iadd, 1) := by decide +kernel
theorem dX1_takeKey_36 : decode cX1_takeKey 36 = .ok (.putfield 18, 3) := by decide +kernel
theorem dX1_takeKey_39 : decode cX1_takeKey 39 = .ok (.aload_n 0, 1) := by decide +kernel
theorem dX1_takeKey_40 : decode cX1_takeKey 40 = .ok (.getfield 18, 3) := by decide +kernel
theorem dX1_takeKey_43 : decode cX1_takeKey 43 = .ok (.ireturn, 1) := by decide +kernel
theorem dX1_hasInput_0 : decode cX1_hasInput 0 = .ok (.aload_n 0, 1) := by decide +kernel
theorem dX1_hasInput_1 : decode cX1_hasInput 1 = .ok (.getfield 18, 3) := by decide +kernel
theorem dX1_hasInput_4 : decode cX1_hasInput 4 = .ok (.ifCond .le 7, 3) := by decide +kernel
theorem dX1_hasInput_7 : decode cX1_hasInput 7 = .ok (.iconst 1, 1) := by decide +kernel
theorem dX1_hasInput_8 : decode cX1_hasInput 8 = .ok (.goto 4, 3) := by decide +kernel
theorem dX1_hasInput_11 : decode cX1_hasInput 11 = .ok (.iconst 0, 1) := by decide +kernel
theorem dX1_hasInput_12 : decode cX1_hasInput 12 = .ok (.ireturn, 1) := by decide +kernel
theorem dX1_nextInput_0 : decode cX1_nextInput 0 = .ok (.aload_n 0, 1) := by decide +kernel
theorem dX1_nextInput_1 : decode cX1_nextInput 1 = .ok (.getfield 18, 3) := by decide +kernel
theorem dX1_nextInput_4 : decode cX1_nextInput 4 = .ok (.ifCond .ne 5, 3) := by decide +kernel
theorem dX1_nextInput_7 : decode cX1_nextInput 7 = .ok (.iconst 0, 1) := by decide +kernel
theorem dX1_nextInput_8 : decode cX1_nextInput 8 = .ok (.ireturn, 1) := by decide +kernel
theorem dX1_nextInput_9 : decode cX1_nextInput 9 = .ok (.aload_n 0, 1) := by decide +kernel
theorem dX1_nextInput_10 : decode cX1_nextInput 10 = .ok (.getfield 11, 3) := by decide +kernel
theorem dX1_nextInput_13 : decode cX1_nextInput 13 = .ok (.aload_n 0, 1) := by decide +kernel
theorem dX1_nextInput_14 : decode cX1_nextInput 14 = .ok (.getfield 22, 3) := by decide +kernel
theorem dX1_nextInput_17 : decode cX1_nextInput 17 = .ok (.iaload, 1) := by decide +kernel
theorem dX1_nextInput_18 : decode cX1_nextInput 18 = .ok (.istore_n 1, 1) := by decide +kernel
theorem dX1_nextInput_19 : decode cX1_nextInput 19 = .ok (.aload_n 0, 1) := by decide +kernel
theorem dX1_nextInput_20 : decode cX1_nextInput 20 = .ok (.aload_n 0, 1) := by decide +kernel
theorem dX1_nextInput_21 : decode cX1_nextInput 21 = .ok (.getfield 22, 3) := by decide +kernel
theorem dX1_nextInput_24 : decode cX1_nextInput 24 = .ok (.iconst 1, 1) := by decide +kernel
end
section
theorem dX1_nextInput_25 : decode cX1_nextInput 25 = .ok (.iadd, 1) := by decide +kernel
theorem dX1_nextInput_26 : decode cX1_nextInput 26 = .ok (.bipush 64, 2) := by decide +kernel
theorem dX1_nextInput_28 : decode cX1_nextInput 28 = .ok (.irem, 1) := by decide +kernel
theorem dX1_nextInput_29 : decode cX1_nextInput 29 = .ok (.putfield 22, 3) := by decide +kernel
theorem dX1_nextInput_32 : decode cX1_nextInput 32 = .ok (.aload_n 0, 1) := by decide +kernel
theorem dX1_nextInput_33 : decode cX1_nextInput 33 = .ok (.dup, 1) := by decide +kernel
theorem dX1_nextInput_34 : decode cX1_nextInput 34 = .ok (.getfield 18, 3) := by decide +kernel
theorem dX1_nextInput_37 : decode cX1_nextInput 37 = .ok (.iconst 1, 1) := by decide +kernel
theorem dX1_nextInput_38 : decode cX1_nextInput 38 = .ok (.isub, 1) := by decide +kernel
theorem dX1_nextInput_39 : decode cX1_nextInput 39 = .ok (.putfield 18, 3) := by decide +kernel
theorem dX1_nextInput_42 : decode cX1_nextInput 42 = .ok (.iload_n 1, 1) := by decide +kernel
theorem dX1_nextInput_43 : decode cX1_nextInput 43 = .ok (.ireturn, 1) := by decide +kernel
theorem dX1_append_0 : decode cX1_append 0 = .ok (.aload_n 0, 1) := by decide +kernel
theorem dX1_append_1 : decode cX1_append 1 = .ok (.getfield 15, 3) := by decide +kernel
theorem dX1_append_4 : decode cX1_append 4 = .ok (.aload_n 0, 1) := by decide +kernel
theorem dX1_append_5 : decode cX1_append 5 = .ok (.getfield 25, 3) := by decide +kernel
theorem dX1_append_8 : decode cX1_append 8 = .ok (.sipush 255, 3) := by decide +kernel
theorem dX1_append_11 : decode cX1_append 11 = .ok (.iand, 1) := by decide +kernel
theorem dX1_append_12 : decode cX1_append 12 = .ok (.iload_n 1, 1) := by decide +kernel
theorem dX1_append_13 : decode cX1_append 13 = .ok (.iastore, 1) := by decide +kernel
theorem dX1_append_14 : decode cX1_append 14 = .ok (.aload_n 0, 1) := by decide +kernel
theorem dX1_append_15 : decode cX1_append 15 = .ok (.dup, 1) := by decide +kernel
theorem dX1_append_16 : decode cX1_append 16 = .ok (.getfield 25, 3) := by decide +kernel
theorem dX1_append_19 : decode cX1_append 19 = .ok (.iconst 1, 1) := by decide +kernel
theorem dX1_append_20 : decode cX1_append 20 = .ok (.iadd, 1) := by decide +kernel
theorem dX1_append_21 : decode cX1_append 21 = .ok (.putfield 25, 3) := by decide +kernel
theorem dX1_append_24 : decode cX1_append 24 = .ok (.return_, 1) := by decide +kernel
theorem dX1_writtenCount_0 : decode cX1_writtenCount 0 = .ok (.aload_n 0, 1) := by decide +kernel
theorem dX1_writtenCount_1 : decode cX1_writtenCount 1 = .ok (.getfield 25, 3) := by decide +kernel
theorem dX1_writtenCount_4 : decode cX1_writtenCount 4 = .ok (.ireturn, 1) := by decide +kernel
theorem dX1_keeps_0 : decode cX1_keeps 0 = .ok (.iload_n 1, 1) := by decide +kernel
theorem dX1_keeps_1 : decode cX1_keeps 1 = .ok (.ifCond .lt 27, 3) := by decide +kernel
theorem dX1_keeps_4 : decode cX1_keeps 4 = .ok (.iload_n 1, 1) := by decide +kernel
theorem dX1_keeps_5 : decode cX1_keeps 5 = .ok (.aload_n 0, 1) := by decide +kernel
theorem dX1_keeps_6 : decode cX1_keeps 6 = .ok (.getfield 25, 3) := by decide +kernel
theorem dX1_keeps_9 : decode cX1_keeps 9 = .ok (.if_icmp .ge 19, 3) := by decide +kernel
theorem dX1_keeps_12 : decode cX1_keeps 12 = .ok (.iload_n 1, 1) := by decide +kernel
theorem dX1_keeps_13 : decode cX1_keeps 13 = .ok (.aload_n 0, 1) := by decide +kernel
theorem dX1_keeps_14 : decode cX1_keeps 14 = .ok (.getfield 25, 3) := by decide +kernel
theorem dX1_keeps_17 : decode cX1_keeps 17 = .ok (.sipush 256, 3) := by decide +kernel
theorem dX1_keeps_20 : decode cX1_keeps 20 = .ok (.isub, 1) := by decide +kernel
theorem dX1_keeps_21 : decode cX1_keeps 21 = .ok (.if_icmp .lt 7, 3) := by decide +kernel
theorem dX1_keeps_24 : decode cX1_keeps 24 = .ok (.iconst 1, 1) := by decide +kernel
theorem dX1_keeps_25 : decode cX1_keeps 25 = .ok (.goto 4, 3) := by decide +kernel
theorem dX1_keeps_28 : decode cX1_keeps 28 = .ok (.iconst 0, 1) := by decide +kernel
theorem dX1_keeps_29 : decode cX1_keeps 29 = .ok (.ireturn, 1) := by decide +kernel
theorem dX1_writtenByte_0 : decode cX1_writtenByte 0 = .ok (.aload_n 0, 1) := by decide +kernel
theorem dX1_writtenByte_1 : decode cX1_writtenByte 1 = .ok (.getfield 15, 3) := by decide +kernel
theorem dX1_writtenByte_4 : decode cX1_writtenByte 4 = .ok (.iload_n 1, 1) := by decide +kernel
theorem dX1_writtenByte_5 : decode cX1_writtenByte 5 = .ok (.sipush 255, 3) := by decide +kernel
theorem dX1_writtenByte_8 : decode cX1_writtenByte 8 = .ok (.iand, 1) := by decide +kernel
theorem dX1_writtenByte_9 : decode cX1_writtenByte 9 = .ok (.iaload, 1) := by decide +kernel
theorem dX1_writtenByte_10 : decode cX1_writtenByte 10 = .ok (.ireturn, 1) := by decide +kernel
theorem dX2_init_0 : decode cX2_init 0 = .ok (.aload_n 0, 1) := by decide +kernel
theorem dX2_init_1 : decode cX2_init 1 = .ok (.invokespecial 3, 3) := by decide +kernel
theorem dX2_init_4 : decode cX2_init 4 = .ok (.aload_n 0, 1) := by decide +kernel
theorem dX2_init_5 : decode cX2_init 5 = .ok (.aload_n 1, 1) := by decide +kernel
theorem dX2_init_6 : decode cX2_init 6 = .ok (.putfield 9, 3) := by decide +kernel
theorem dX2_init_9 : decode cX2_init 9 = .ok (.aload_n 0, 1) := by decide +kernel
theorem dX2_init_10 : decode cX2_init 10 = .ok (.aload_n 2, 1) := by decide +kernel
theorem dX2_init_11 : decode cX2_init 11 = .ok (.putfield 15, 3) := by decide +kernel
theorem dX2_init_14 : decode cX2_init 14 = .ok (.return_, 1) := by decide +kernel
theorem dX2_setSector_0 : decode cX2_setSector 0 = .ok (.aload_n 0, 1) := by decide +kernel
theorem dX2_setSector_1 : decode cX2_setSector 1 = .ok (.iload_n 1, 1) := by decide +kernel
theorem dX2_setSector_2 : decode cX2_setSector 2 = .ok (.putfield 18, 3) := by decide +kernel
theorem dX2_setSector_5 : decode cX2_setSector 5 = .ok (.return_, 1) := by decide +kernel
theorem dX2_setLowAddress_0 : decode cX2_setLowAddress 0 = .ok (.aload_n 0, 1) := by decide +kernel
theorem dX2_setLowAddress_1 : decode cX2_setLowAddress 1 = .ok (.aload_n 0, 1) := by decide +kernel
theorem dX2_setLowAddress_2 : decode cX2_setLowAddress 2 = .ok (.getfield 22, 3) := by decide +kernel
theorem dX2_setLowAddress_5 : decode cX2_setLowAddress 5 = .ok (.ldc 25, 2) := by decide +kernel
theorem dX2_setLowAddress_7 : decode cX2_setLowAddress 7 = .ok (.iand, 1) := by decide +kernel
theorem dX2_setLowAddress_8 : decode cX2_setLowAddress 8 = .ok (.iload_n 1, 1) := by decide +kernel
theorem dX2_setLowAddress_9 : decode cX2_setLowAddress 9 = .ok (.ior, 1) := by decide +kernel
theorem dX2_setLowAddress_10 : decode cX2_setLowAddress 10 = .ok (.putfield 22, 3) := by decide +kernel
theorem dX2_setLowAddress_13 : decode cX2_setLowAddress 13 = .ok (.return_, 1) := by decide +kernel
theorem dX2_setHighAddress_0 : decode cX2_setHighAddress 0 = .ok (.aload_n 0, 1) := by decide +kernel
theorem dX2_setHighAddress_1 : decode cX2_setHighAddress 1 = .ok (.aload_n 0, 1) := by decide +kernel
theorem dX2_setHighAddress_2 : decode cX2_setHighAddress 2 = .ok (.getfield 22, 3) := by decide +kernel
theorem dX2_setHighAddress_5 : decode cX2_setHighAddress 5 = .ok (.sipush 255, 3) := by decide +kernel
theorem dX2_setHighAddress_8 : decode cX2_setHighAddress 8 = .ok (.iand, 1) := by decide +kernel
theorem dX2_setHighAddress_9 : decode cX2_setHighAddress 9 = .ok (.iload_n 1, 1) := by decide +kernel
theorem dX2_setHighAddress_10 : decode cX2_setHighAddress 10 = .ok (.bipush 8, 2) := by decide +kernel
theorem dX2_setHighAddress_12 : decode cX2_setHighAddress 12 = .ok (.ishl, 1) := by decide +kernel
theorem dX2_setHighAddress_13 : decode cX2_setHighAddress 13 = .ok (.ior, 1) := by decide +kernel
theorem dX2_setHighAddress_14 : decode cX2_setHighAddress 14 = .ok (.putfield 22, 3) := by decide +kernel
theorem dX2_setHighAddress_17 : decode cX2_setHighAddress 17 = .ok (.return_, 1) := by decide +kernel
theorem dX2_setCall_0 : decode cX2_setCall 0 = .ok (.aload_n 0, 1) := by decide +kernel
theorem dX2_setCall_1 : decode cX2_setCall 1 = .ok (.iload_n 1, 1) := by decide +kernel
theorem dX2_setCall_2 : decode cX2_setCall 2 = .ok (.putfield 26, 3) := by decide +kernel
theorem dX2_setCall_5 : decode cX2_setCall 5 = .ok (.return_, 1) := by decide +kernel
set_option maxRecDepth 20000 in
theorem ggX2_command_X2_isBusy : GoodIn wsX2_command wsX2_isBusy := goodIn_r _ [12, 2, 13, 14, 15, 16, 17, 18, 19, 20, 21, 22, 23] (by decide +kernel) (by decide +kernel)
set_option maxRecDepth 20000 in
theorem gX2_command_X2_isBusy : GoodIn wsX2_command (wsV RX2 29 RX2 yX2_isBusy wsX2_isBusy) := goodIn_app (goodIn_of _ (by decide +kernel)) ggX2_command_X2_isBusy
theorem dX2_command_0 : decode cX2_command 0 = .ok (.iload_n 1, 1) := by decide +kernel
theorem dX2_command_1 : decode cX2_command 1 = .ok (.iconst 1, 1) := by decide +kernel
theorem dX2_command_2 : decode cX2_command 2 = .ok (.if_icmp .eq 8, 3) := by decide +kernel
theorem dX2_command_5 : decode cX2_command 5 = .ok (.iload_n 1, 1) := by decide +kernel
theorem dX2_command_6 : decode cX2_command 6 = .ok (.iconst 2, 1) := by decide +kernel
theorem dX2_command_7 : decode cX2_command 7 = .ok (.if_icmp .ne 7, 3) := by decide +kernel
theorem dX2_command_10 : decode cX2_command 10 = .ok (.iconst 1, 1) := by decide +kernel
theorem dX2_command_11 : decode cX2_command 11 = .ok (.goto 4, 3) := by decide +kernel
theorem dX2_command_14 : decode cX2_command 14 = .ok (.iconst 0, 1) := by decide +kernel
theorem dX2_command_15 : decode cX2_command 15 = .ok (.istore_n 2, 1) := by decide +kernel
theorem dX2_command_16 : decode cX2_command 16 = .ok (.aload_n 0, 1) := by decide +kernel
theorem dX2_command_17 : decode cX2_command 17 = .ok (.invokevirtual 29, 3) := by decide +kernel
theorem dX2_command_20 : decode cX2_command 20 = .ok (.ifCond .ne 16, 3) := by decide +kernel
theorem dX2_command_23 : decode cX2_command 23 = .ok (.iload_n 2, 1) := by decide +kernel
theorem dX2_command_24 : decode cX2_command 24 = .ok (.ifCond .eq 12, 3) := by decide +kernel
theorem dX2_command_27 : decode cX2_command 27 = .ok (.aload_n 0, 1) := by decide +kernel
theorem dX2_command_28 : decode cX2_command 28 = .ok (.getfield 18, 3) := by decide +kernel
theorem dX2_command_31 : decode cX2_command 31 = .ok (.bipush 64, 2) := by decide +kernel
theorem dX2_command_33 : decode cX2_command 33 = .ok (.if_icmp .lt 14, 3) := by decide +kernel
theorem dX2_command_36 : decode cX2_command 36 = .ok (.aload_n 0, 1) := by decide +kernel
theorem dX2_command_37 : decode cX2_command 37 = .ok (.dup, 1) := by decide +kernel
theorem dX2_command_38 : decode cX2_command 38 = .ok (.getfield 33, 3) := by decide +kernel
theorem dX2_command_41 : decode cX2_command 41 = .ok (.iconst 4, 1) := by decide +kernel
theorem dX2_command_42 : decode cX2_command 42 = .ok (.ior, 1) := by decide +kernel
theorem dX2_command_43 : decode cX2_command 43 = .ok (.putfield 33, 3) := by decide +kernel
theorem dX2_command_46 : decode cX2_command 46 = .ok (.return_, 1) := by decide +kernel
theorem dX2_command_47 : decode cX2_command 47 = .ok (.aload_n 0, 1) := by decide +kernel
theorem dX2_command_48 : decode cX2_command 48 = .ok (.dup, 1) := by decide +kernel
theorem dX2_command_49 : decode cX2_command 49 = .ok (.getfield 33, 3) := by decide +kernel
theorem dX2_command_52 : decode cX2_command 52 = .ok (.iconst 1, 1) := by decide +kernel
theorem dX2_command_53 : decode cX2_command 53 = .ok (.ior, 1) := by decide +kernel
theorem dX2_command_54 : decode cX2_command 54 = .ok (.putfield 33, 3) := by decide +kernel
theorem dX2_command_57 : decode cX2_command 57 = .ok (.aload_n 0, 1) := by decide +kernel
theorem dX2_command_58 : decode cX2_command 58 = .ok (.aload_n 0, 1) := by decide +kernel
theorem dX2_command_59 : decode cX2_command 59 = .ok (.getfield 18, 3) := by decide +kernel
theorem dX2_command_62 : decode cX2_command 62 = .ok (.bipush 64, 2) := by decide +kernel
theorem dX2_command_64 : decode cX2_command 64 = .ok (.imul, 1) := by decide +kernel
theorem dX2_command_65 : decode cX2_command 65 = .ok (.putfield 36, 3) := by decide +kernel
theorem dX2_command_68 : decode cX2_command 68 = .ok (.aload_n 0, 1) := by decide +kernel
theorem dX2_command_69 : decode cX2_command 69 = .ok (.iload_n 1, 1) := by decide +kernel
theorem dX2_command_70 : decode cX2_command 70 = .ok (.iconst 2, 1) := by decide +kernel
theorem dX2_command_71 : decode cX2_command 71 = .ok (.if_icmp .ne 7, 3) := by decide +kernel
theorem dX2_command_74 : decode cX2_command 74 = .ok (.iconst 1, 1) := by decide +kernel
theorem dX2_command_75 : decode cX2_command 75 = .ok (.goto 4, 3) := by decide +kernel
theorem dX2_command_78 : decode cX2_command 78 = .ok (.iconst 0, 1) := by decide +kernel
theorem dX2_command_79 : decode cX2_command 79 = .ok (.putfield 39, 3) := by decide +kernel
theorem dX2_command_82 : decode cX2_command 82 = .ok (.aload_n 0, 1) := by decide +kernel
theorem dX2_command_83 : decode cX2_command 83 = .ok (.iconst 0, 1) := by decide +kernel
theorem dX2_command_84 : decode cX2_command 84 = .ok (.putfield 43, 3) := by decide +kernel
theorem dX2_command_87 : decode cX2_command 87 = .ok (.aload_n 0, 1) := by decide +kernel
theorem dX2_command_88 : decode cX2_command 88 = .ok (.iconst 0, 1) := by decide +kernel
theorem dX2_command_89 : decode cX2_command 89 = .ok (.putfield 46, 3) := by decide +kernel
theorem dX2_command_92 : decode cX2_command 92 = .ok (.aload_n 0, 1) := by decide +kernel
theorem dX2_command_93 : decode cX2_command 93 = .ok (.iconst 1, 1) := by decide +kernel
theorem dX2_command_94 : decode cX2_command 94 = .ok (.putfield 49, 3) := by decide +kernel
theorem dX2_command_97 : decode cX2_command 97 = .ok (.return_, 1) := by decide +kernel
theorem dX2_takeState_0 : decode cX2_takeState 0 = .ok (.aload_n 0, 1) := by decide +kernel
theorem dX2_takeState_1 : decode cX2_takeState 1 = .ok (.getfield 33, 3) := by decide +kernel
theorem dX2_takeState_4 : decode cX2_takeState 4 = .ok (.istore_n 1, 1) := by decide +kernel
theorem dX2_takeState_5 : decode cX2_takeState 5 = .ok (.aload_n 0, 1) := by decide +kernel
theorem dX2_takeState_6 : decode cX2_takeState 6 = .ok (.dup, 1) := by decide +kernel
theorem dX2_takeState_7 : decode cX2_takeState 7 = .ok (.getfield 33, 3) := by decide +kernel
theorem dX2_takeState_10 : decode cX2_takeState 10 = .ok (.iconst 1, 1) := by decide +kernel
theorem dX2_takeState_11 : decode cX2_takeState 11 = .ok (.iand, 1) := by decide +kernel
theorem dX2_takeState_12 : decode cX2_takeState 12 = .ok (.putfield 33, 3) := by decide +kernel
theorem dX2_takeState_15 : decode cX2_takeState 15 = .ok (.iload_n 1, 1) := by decide +kernel
theorem dX2_takeState_16 : decode cX2_takeState 16 = .ok (.ireturn, 1) := by decide +kernel
set_option maxRecDepth 20000 in
theorem ggX2_letPass_X2_isBusy : GoodIn wsX2_letPass wsX2_isBusy := goodIn_r _ [8, 9, 35, 36, 37, 38, 39, 40, 41, 42, 43, 44, 45] (by decide +kernel) (by decide +kernel)
set_option maxRecDepth 20000 in
theorem gX2_letPass_X2_isBusy : GoodIn wsX2_letPass (wsV RX2 29 RX2 yX2_isBusy wsX2_isBusy) := goodIn_app (goodIn_of _ (by decide +kernel)) ggX2_letPass_X2_isBusy
set_option maxRecDepth 20000 in
theorem ggX2_letPass_X2_moveByte : GoodIn wsX2_letPass wsX2_moveByte := goodIn_r _ [13, 14, 3, 15, 16, 17, 18, 19, 20, 21, 22, 23, 24, 25, 26, 27, 28, 29, 35, 36, 37, 38, 39, 40, 41, 42, 43, 44, 45, 46] (by decide +kernel) (by decide +kernel)
set_option maxRecDepth 20000 in
theorem gX2_letPass_X2_moveByte : GoodIn wsX2_letPass (wsV RX2 52 RX2 yX2_moveByte wsX2_moveByte) := goodIn_app (goodIn_of _ (by decide +kernel)) ggX2_letPass_X2_moveByte
set_option maxRecDepth 20000 in
theorem ggX2_letPass_X2_finish : GoodIn wsX2_letPass wsX2_finish := goodIn_r _ [33, 9, 34, 35, 36, 37, 38, 39, 40, 41, 42, 43, 44, 45] (by decide +kernel) (by decide +kernel)
set_option maxRecDepth 20000 in
theorem gX2_letPass_X2_finish : GoodIn wsX2_letPass (wsV RX2 55 RX2 yX2_finish wsX2_finish) := goodIn_app (goodIn_of _ (by decide +kernel)) ggX2_letPass_X2_finish
theorem dX2_letPass_0 : decode cX2_letPass 0 = .ok (.aload_n 0, 1) := by decide +kernel
theorem dX2_letPass_1 : decode cX2_letPass 1 = .ok (.invokevirtual 29, 3) := by decide +kernel
theorem dX2_letPass_4 : decode cX2_letPass 4 = .ok (.ifCond .ne 5, 3) := by decide +kernel
theorem dX2_letPass_7 : decode cX2_letPass 7 = .ok (.iconst (-1), 1) := by decide +kernel
theorem dX2_letPass_8 : decode cX2_letPass 8 = .ok (.ireturn, 1) := by decide +kernel
theorem dX2_letPass_9 : decode cX2_letPass 9 = .ok (.aload_n 0, 1) := by decide +kernel
theorem dX2_letPass_10 : decode cX2_letPass 10 = .ok (.getfield 49, 3) := by decide +kernel
theorem dX2_letPass_13 : decode cX2_letPass 13 = .ok (.ifCond .eq 10, 3) := by decide +kernel
theorem dX2_letPass_16 : decode cX2_letPass 16 = .ok (.aload_n 0, 1) := by decide +kernel
theorem dX2_letPass_17 : decode cX2_letPass 17 = .ok (.iconst 0, 1) := by decide +kernel
theorem dX2_letPass_18 : decode cX2_letPass 18 = .ok (.putfield 49, 3) := by decide +kernel
theorem dX2_letPass_21 : decode cX2_letPass 21 = .ok (.iconst (-1), 1) := by decide +kernel
theorem dX2_letPass_22 : decode cX2_letPass 22 = .ok (.ireturn, 1) := by decide +kernel
theorem dX2_letPass_23 : decode cX2_letPass 23 = .ok (.aload_n 0, 1) := by decide +kernel
theorem dX2_letPass_24 : decode cX2_letPass 24 = .ok (.getfield 46, 3) := by decide +kernel
theorem dX2_letPass_27 : decode cX2_letPass 27 = .ok (.iload_n 1, 1) := by decide +kernel
theorem dX2_letPass_28 : decode cX2_letPass 28 = .ok (.iadd, 1) := by decide +kernel
theorem dX2_letPass_29 : decode cX2_letPass 29 = .ok (.istore_n 2, 1) := by decide +kernel
theorem dX2_letPass_30 : decode cX2_letPass 30 = .ok (.aload_n 0, 1) := by decide +kernel
theorem dX2_letPass_31 : decode cX2_letPass 31 = .ok (.iload_n 2, 1) := by decide +kernel
theorem dX2_letPass_32 : decode cX2_letPass 32 = .ok (.bipush 12, 2) := by decide +kernel
theorem dX2_letPass_34 : decode cX2_letPass 34 = .ok (.irem, 1) := by decide +kernel
theorem dX2_letPass_35 : decode cX2_letPass 35 = .ok (.putfield 46, 3) := by decide +kernel
theorem dX2_letPass_38 : decode cX2_letPass 38 = .ok (.iload_n 2, 1) := by decide +kernel
theorem dX2_letPass_39 : decode cX2_letPass 39 = .ok (.bipush 12, 2) := by decide +kernel
theorem dX2_letPass_41 : decode cX2_letPass 41 = .ok (.idiv, 1) := by decide +kernel
theorem dX2_letPass_42 : decode cX2_letPass 42 = .ok (.istore_n 3, 1) := by decide +kernel
theorem dX2_letPass_43 : decode cX2_letPass 43 = .ok (.iload_n 3, 1) := by decide +kernel
theorem dX2_letPass_44 : decode cX2_letPass 44 = .ok (.ifCond .le 22, 3) := by decide +kernel
theorem dX2_letPass_47 : decode cX2_letPass 47 = .ok (.aload_n 0, 1) := by decide +kernel
theorem dX2_letPass_48 : decode cX2_letPass 48 = .ok (.getfield 43, 3) := by decide +kernel
theorem dX2_letPass_51 : decode cX2_letPass 51 = .ok (.bipush 64, 2) := by decide +kernel
theorem dX2_letPass_53 : decode cX2_letPass 53 = .ok (.if_icmp .ge 13, 3) := by decide +kernel
theorem dX2_letPass_56 : decode cX2_letPass 56 = .ok (.aload_n 0, 1) := by decide +kernel
theorem dX2_letPass_57 : decode cX2_letPass 57 = .ok (.invokevirtual 52, 3) := by decide +kernel
theorem dX2_letPass_60 : decode cX2_letPass 60 = .ok (.iinc 3 (-1), 3) := by decide +kernel
theorem dX2_letPass_63 : decode cX2_letPass 63 = .ok (.goto (-20), 3) := by decide +kernel
theorem dX2_letPass_66 : decode cX2_letPass 66 = .ok (.aload_n 0, 1) := by decide +kernel
theorem dX2_letPass_67 : decode cX2_letPass 67 = .ok (.getfield 43, 3) := by decide +kernel
theorem dX2_letPass_70 : decode cX2_letPass 70 = .ok (.bipush 64, 2) := by decide +kernel
theorem dX2_letPass_72 : decode cX2_letPass 72 = .ok (.if_icmp .ge 7, 3) := by decide +kernel
theorem dX2_letPass_75 : decode cX2_letPass 75 = .ok (.iconst (-1), 1) := by decide +kernel
theorem dX2_letPass_76 : decode cX2_letPass 76 = .ok (.goto 7, 3) := by decide +kernel
theorem dX2_letPass_79 : decode cX2_letPass 79 = .ok (.aload_n 0, 1) := by decide +kernel
theorem dX2_letPass_80 : decode cX2_letPass 80 = .ok (.invokevirtual 55, 3) := by decide +kernel
theorem dX2_letPass_83 : decode cX2_letPass 83 = .ok (.ireturn, 1) := by decide +kernel
set_option maxRecDepth 20000 in
theorem ggX2_moveByte_X5_byteAt : GoodIn wsX2_moveByte wsX5_byteAt := goodIn_r _ [12, 13, 29] (by decide +kernel) (by decide +kernel)
set_option maxRecDepth 20000 in
theorem gX2_moveByte_X5_byteAt : GoodIn wsX2_moveByte (wsV RX2 59 RX5 yX5_byteAt wsX5_byteAt) := goodIn_app (goodIn_of _ (by decide +kernel)) ggX2_moveByte_X5_byteAt
set_option maxRecDepth 20000 in
theorem ggX2_moveByte_X5_setByte : GoodIn wsX2_moveByte wsX5_setByte := goodIn_r _ [17, 13, 29] (by decide +kernel) (by decide +kernel)
set_option maxRecDepth 20000 in
theorem gX2_moveByte_X5_setByte : GoodIn wsX2_moveByte (wsV RX2 65 RX5 yX5_setByte wsX5_setByte) := goodIn_app (goodIn_of _ (by decide +kernel)) ggX2_moveByte_X5_setByte
theorem dX2_moveByte_0 : decode cX2_moveByte 0 = .ok (.aload_n 0, 1) := by decide +kernel
theorem dX2_moveByte_1 : decode cX2_moveByte 1 = .ok (.getfield 36, 3) := by decide +kernel
theorem dX2_moveByte_4 : decode cX2_moveByte 4 = .ok (.aload_n 0, 1) := by decide +kernel
theorem dX2_moveByte_5 : decode cX2_moveByte 5 = .ok (.getfield 43, 3) := by decide +kernel
theorem dX2_moveByte_8 : decode cX2_moveByte 8 = .ok (.iadd, 1) := by decide +kernel
theorem dX2_moveByte_9 : decode cX2_moveByte 9 = .ok (.istore_n 1, 1) := by decide +kernel
theorem dX2_moveByte_10 : decode cX2_moveByte 10 = .ok (.aload_n 0, 1) := by decide +kernel
theorem dX2_moveByte_11 : decode cX2_moveByte 11 = .ok (.getfield 39, 3) := by decide +kernel
theorem dX2_moveByte_14 : decode cX2_moveByte 14 = .ok (.ifCond .eq 25, 3) := by decide +kernel
theorem dX2_moveByte_17 : decode cX2_moveByte 17 = .ok (.aload_n 0, 1) := by decide +kernel
theorem dX2_moveByte_18 : decode cX2_moveByte 18 = .ok (.getfield 15, 3) := by decide +kernel
theorem dX2_moveByte_21 : decode cX2_moveByte 21 = .ok (.iload_n 1, 1) := by decide +kernel
theorem dX2_moveByte_22 : decode cX2_moveByte 22 = .ok (.aload_n 0, 1) := by decide +kernel
theorem dX2_moveByte_23 : decode cX2_moveByte 23 = .ok (.getfield 9, 3) := by decide +kernel
theorem dX2_moveByte_26 : decode cX2_moveByte 26 = .ok (.aload_n 0, 1) := by decide +kernel
theorem dX2_moveByte_27 : decode cX2_moveByte 27 = .ok (.getfield 22, 3) := by decide +kernel
theorem dX2_moveByte_30 : decode cX2_moveByte 30 = .ok (.invokevirtual 59, 3) := by decide +kernel
theorem dX2_moveByte_33 : decode cX2_moveByte 33 = .ok (.invokevirtual 65, 3) := by decide +kernel
theorem dX2_moveByte_36 : decode cX2_moveByte 36 = .ok (.goto 22, 3) := by decide +kernel
theorem dX2_moveByte_39 : decode cX2_moveByte 39 = .ok (.aload_n 0, 1) := by decide +kernel
theorem dX2_moveByte_40 : decode cX2_moveByte 40 = .ok (.getfield 9, 3) := by decide +kernel
theorem dX2_moveByte_43 : decode cX2_moveByte 43 = .ok (.aload_n 0, 1) := by decide +kernel
theorem dX2_moveByte_44 : decode cX2_moveByte 44 = .ok (.getfield 22, 3) := by decide +kernel
theorem dX2_moveByte_47 : decode cX2_moveByte 47 = .ok (.aload_n 0, 1) := by decide +kernel
theorem dX2_moveByte_48 : decode cX2_moveByte 48 = .ok (.getfield 15, 3) := by decide +kernel
theorem dX2_moveByte_51 : decode cX2_moveByte 51 = .ok (.iload_n 1, 1) := by decide +kernel
theorem dX2_moveByte_52 : decode cX2_moveByte 52 = .ok (.invokevirtual 59, 3) := by decide +kernel
theorem dX2_moveByte_55 : decode cX2_moveByte 55 = .ok (.invokevirtual 65, 3) := by decide +kernel
theorem dX2_moveByte_58 : decode cX2_moveByte 58 = .ok (.aload_n 0, 1) := by decide +kernel
theorem dX2_moveByte_59 : decode cX2_moveByte 59 = .ok (.aload_n 0, 1) := by decide +kernel
theorem dX2_moveByte_60 : decode cX2_moveByte 60 = .ok (.getfield 22, 3) := by decide +kernel
theorem dX2_moveByte_63 : decode cX2_moveByte 63 = .ok (.iconst 1, 1) := by decide +kernel
theorem dX2_moveByte_64 : decode cX2_moveByte 64 = .ok (.iadd, 1) := by decide +kernel
theorem dX2_moveByte_65 : decode cX2_moveByte 65 = .ok (.ldc 69, 2) := by decide +kernel
theorem dX2_moveByte_67 : decode cX2_moveByte 67 = .ok (.iand, 1) := by decide +kernel
theorem dX2_moveByte_68 : decode cX2_moveByte 68 = .ok (.putfield 22, 3) := by decide +kernel
theorem dX2_moveByte_71 : decode cX2_moveByte 71 = .ok (.aload_n 0, 1) := by decide +kernel
theorem dX2_moveByte_72 : decode cX2_moveByte 72 = .ok (.dup, 1) := by decide +kernel
theorem dX2_moveByte_73 : decode cX2_moveByte 73 = .ok (.getfield 43, 3) := by decide +kernel
theorem dX2_moveByte_76 : decode cX2_moveByte 76 = .ok (.iconst 1, 1) := by decide +kernel
theorem dX2_moveByte_77 : decode cX2_moveByte 77 = .ok (.iadd, 1) := by decide +kernel
theorem dX2_moveByte_78 : decode cX2_moveByte 78 = .ok (.putfield 43, 3) := by decide +kernel
theorem dX2_moveByte_81 : decode cX2_moveByte 81 = .ok (.return_, 1) := by decide +kernel
theorem dX2_finish_0 : decode cX2_finish 0 = .ok (.aload_n 0, 1) := by decide +kernel
theorem dX2_finish_1 : decode cX2_finish 1 = .ok (.aload_n 0, 1) := by decide +kernel
theorem dX2_finish_2 : decode cX2_finish 2 = .ok (.getfield 33, 3) := by decide +kernel
theorem dX2_finish_5 : decode cX2_finish 5 = .ok (.bipush (-2), 2) := by decide +kernel
theorem dX2_finish_7 : decode cX2_finish 7 = .ok (.iand, 1) := by decide +kernel
theorem dX2_finish_8 : decode cX2_finish 8 = .ok (.iconst 2, 1) := by decide +kernel
theorem dX2_finish_9 : decode cX2_finish 9 = .ok (.ior, 1) := by decide +kernel
theorem dX2_finish_10 : decode cX2_finish 10 = .ok (.putfield 33, 3) := by decide +kernel
theorem dX2_finish_13 : decode cX2_finish 13 = .ok (.aload_n 0, 1) := by decide +kernel
theorem dX2_finish_14 : decode cX2_finish 14 = .ok (.getfield 26, 3) := by decide +kernel
theorem dX2_finish_17 : decode cX2_finish 17 = .ok (.bipush 8, 2) := by decide +kernel
theorem dX2_finish_19 : decode cX2_finish 19 = .ok (.iand, 1) := by decide +kernel
theorem dX2_finish_20 : decode cX2_finish 20 = .ok (.ifCond .eq 13, 3) := by decide +kernel
theorem dX2_finish_23 : decode cX2_finish 23 = .ok (.aload_n 0, 1) := by decide +kernel
theorem dX2_finish_24 : decode cX2_finish 24 = .ok (.getfield 26, 3) := by decide +kernel
theorem dX2_finish_27 : decode cX2_finish 27 = .ok (.bipush 7, 2) := by decide +kernel
theorem dX2_finish_29 : decode cX2_finish 29 = .ok (.iand, 1) := by decide +kernel
theorem dX2_finish_30 : decode cX2_finish 30 = .ok (.goto 4, 3) := by decide +kernel
theorem dX2_finish_33 : decode cX2_finish 33 = .ok (.iconst (-1), 1) := by decide +kernel
theorem dX2_finish_34 : decode cX2_finish 34 = .ok (.ireturn, 1) := by decide +kernel
theorem dX2_isBusy_0 : decode cX2_isBusy 0 = .ok (.aload_n 0, 1) := by decide +kernel
theorem dX2_isBusy_1 : decode cX2_isBusy 1 = .ok (.getfield 33, 3) := by decide +kernel
theorem dX2_isBusy_4 : decode cX2_isBusy 4 = .ok (.iconst 1, 1) := by decide +kernel
theorem dX2_isBusy_5 : decode cX2_isBusy 5 = .ok (.iand, 1) := by decide +kernel
theorem dX2_isBusy_6 : decode cX2_isBusy 6 = .ok (.ifCond .eq 7, 3) := by decide +kernel
theorem dX2_isBusy_9 : decode cX2_isBusy 9 = .ok (.iconst 1, 1) := by decide +kernel
theorem dX2_isBusy_10 : decode cX2_isBusy 10 = .ok (.goto 4, 3) := by decide +kernel
theorem dX2_isBusy_13 : decode cX2_isBusy 13 = .ok (.iconst 0, 1) := by decide +kernel
theorem dX2_isBusy_14 : decode cX2_isBusy 14 = .ok (.ireturn, 1) := by decide +kernel
theorem dX2_stateByte_0 : decode cX2_stateByte 0 = .ok (.aload_n 0, 1) := by decide +kernel
theorem dX2_stateByte_1 : decode cX2_stateByte 1 = .ok (.getfield 33, 3) := by decide +kernel
theorem dX2_stateByte_4 : decode cX2_stateByte 4 = .ok (.ireturn, 1) := by decide +kernel
theorem dX2_movedCount_0 : decode cX2_movedCount 0 = .ok (.aload_n 0, 1) := by decide +kernel
theorem dX2_movedCount_1 : decode cX2_movedCount 1 = .ok (.getfield 43, 3) := by decide +kernel
theorem dX2_movedCount_4 : decode cX2_movedCount 4 = .ok (.ireturn, 1) := by decide +kernel
theorem dX2_addressWord_0 : decode cX2_addressWord 0 = .ok (.aload_n 0, 1) := by decide +kernel
theorem dX2_addressWord_1 : decode cX2_addressWord 1 = .ok (.getfield 22, 3) := by decide +kernel
theorem dX2_addressWord_4 : decode cX2_addressWord 4 = .ok (.ireturn, 1) := by decide +kernel
theorem dX3_init_0 : decode cX3_init 0 = .ok (.aload_n 0, 1) := by decide +kernel
theorem dX3_init_1 : decode cX3_init 1 = .ok (.invokespecial 1, 3) := by decide +kernel
theorem dX3_init_4 : decode cX3_init 4 = .ok (.return_, 1) := by decide +kernel
theorem dX3_packed_0 : decode cX3_packed 0 = .ok (.aload_n 0, 1) := by decide +kernel
theorem dX3_packed_1 : decode cX3_packed 1 = .ok (.getfield 7, 3) := by decide +kernel
theorem dX3_packed_4 : decode cX3_packed 4 = .ok (.ifCond .eq 9, 3) := by decide +kernel
theorem dX3_packed_7 : decode cX3_packed 7 = .ok (.sipush 128, 3) := by decide +kernel
theorem dX3_packed_10 : decode cX3_packed 10 = .ok (.goto 4, 3) := by decide +kernel
theorem dX3_packed_13 : decode cX3_packed 13 = .ok (.iconst 0, 1) := by decide +kernel
theorem dX3_packed_14 : decode cX3_packed 14 = .ok (.aload_n 0, 1) := by decide +kernel
theorem dX3_packed_15 : decode cX3_packed 15 = .ok (.getfield 13, 3) := by decide +kernel
theorem dX3_packed_18 : decode cX3_packed 18 = .ok (.ifCond .eq 8, 3) := by decide +kernel
theorem dX3_packed_21 : decode cX3_packed 21 = .ok (.bipush 64, 2) := by decide +kernel
theorem dX3_packed_23 : decode cX3_packed 23 = .ok (.goto 4, 3) := by decide +kernel
theorem dX3_packed_26 : decode cX3_packed 26 = .ok (.iconst 0, 1) := by decide +kernel
theorem dX3_packed_27 : decode cX3_packed 27 = .ok (.ior, 1) := by decide +kernel
theorem dX3_packed_28 : decode cX3_packed 28 = .ok (.aload_n 0, 1) := by decide +kernel
theorem dX3_packed_29 : decode cX3_packed 29 = .ok (.getfield 16, 3) := by decide +kernel
theorem dX3_packed_32 : decode cX3_packed 32 = .ok (.ifCond .eq 8, 3) := by decide +kernel
theorem dX3_packed_35 : decode cX3_packed 35 = .ok (.bipush 16, 2) := by decide +kernel
theorem dX3_packed_37 : decode cX3_packed 37 = .ok (.goto 4, 3) := by decide +kernel
theorem dX3_packed_40 : decode cX3_packed 40 = .ok (.iconst 0, 1) := by decide +kernel
theorem dX3_packed_41 : decode cX3_packed 41 = .ok (.ior, 1) := by decide +kernel
theorem dX3_packed_42 : decode cX3_packed 42 = .ok (.aload_n 0, 1) := by decide +kernel
theorem dX3_packed_43 : decode cX3_packed 43 = .ok (.getfield 19, 3) := by decide +kernel
theorem dX3_packed_46 : decode cX3_packed 46 = .ok (.ifCond .eq 7, 3) := by decide +kernel
theorem dX3_packed_49 : decode cX3_packed 49 = .ok (.iconst 4, 1) := by decide +kernel
theorem dX3_packed_50 : decode cX3_packed 50 = .ok (.goto 4, 3) := by decide +kernel
theorem dX3_packed_53 : decode cX3_packed 53 = .ok (.iconst 0, 1) := by decide +kernel
theorem dX3_packed_54 : decode cX3_packed 54 = .ok (.ior, 1) := by decide +kernel
theorem dX3_packed_55 : decode cX3_packed 55 = .ok (.iconst 2, 1) := by decide +kernel
theorem dX3_packed_56 : decode cX3_packed 56 = .ok (.ior, 1) := by decide +kernel
theorem dX3_packed_57 : decode cX3_packed 57 = .ok (.aload_n 0, 1) := by decide +kernel
theorem dX3_packed_58 : decode cX3_packed 58 = .ok (.getfield 22, 3) := by decide +kernel
theorem dX3_packed_61 : decode cX3_packed 61 = .ok (.ifCond .eq 7, 3) := by decide +kernel
theorem dX3_packed_64 : decode cX3_packed 64 = .ok (.iconst 1, 1) := by decide +kernel
theorem dX3_packed_65 : decode cX3_packed 65 = .ok (.goto 4, 3) := by decide +kernel
theorem dX3_packed_68 : decode cX3_packed 68 = .ok (.iconst 0, 1) := by decide +kernel
theorem dX3_packed_69 : decode cX3_packed 69 = .ok (.ior, 1) := by decide +kernel
theorem dX3_packed_70 : decode cX3_packed 70 = .ok (.ireturn, 1) := by decide +kernel
theorem dX3_unpack_0 : decode cX3_unpack 0 = .ok (.aload_n 0, 1) := by decide +kernel
theorem dX3_unpack_1 : decode cX3_unpack 1 = .ok (.iload_n 1, 1) := by decide +kernel
theorem dX3_unpack_2 : decode cX3_unpack 2 = .ok (.sipush 128, 3) := by decide +kernel
theorem dX3_unpack_5 : decode cX3_unpack 5 = .ok (.iand, 1) := by decide +kernel
theorem dX3_unpack_6 : decode cX3_unpack 6 = .ok (.ifCond .eq 7, 3) := by decide +kernel
theorem dX3_unpack_9 : decode cX3_unpack 9 = .ok (.iconst 1, 1) := by decide +kernel
theorem dX3_unpack_10 : decode cX3_unpack 10 = .ok (.goto 4, 3) := by decide +kernel
theorem dX3_unpack_13 : decode cX3_unpack 13 = .ok (.iconst 0, 1) := by decide +kernel
theorem dX3_unpack_14 : decode cX3_unpack 14 = .ok (.putfield 7, 3) := by decide +kernel
theorem dX3_unpack_17 : decode cX3_unpack 17 = .ok (.aload_n 0, 1) := by decide +kernel
theorem dX3_unpack_18 : decode cX3_unpack 18 = .ok (.iload_n 1, 1) := by decide +kernel
theorem dX3_unpack_19 : decode cX3_unpack 19 = .ok (.bipush 64, 2) := by decide +kernel
theorem dX3_unpack_21 : decode cX3_unpack 21 = .ok (.iand, 1) := by decide +kernel
theorem dX3_unpack_22 : decode cX3_unpack 22 = .ok (.ifCond .eq 7, 3) := by decide +kernel
theorem dX3_unpack_25 : decode cX3_unpack 25 = .ok (.iconst 1, 1) := by decide +kernel
theorem dX3_unpack_26 : decode cX3_unpack 26 = .ok (.goto 4, 3) := by decide +kernel
theorem dX3_unpack_29 : decode cX3_unpack 29 = .ok (.iconst 0, 1) := by decide +kernel
theorem dX3_unpack_30 : decode cX3_unpack 30 = .ok (.putfield 13, 3) := by decide +kernel
theorem dX3_unpack_33 : decode cX3_unpack 33 = .ok (.aload_n 0, 1) := by decide +kernel
theorem dX3_unpack_34 : decode cX3_unpack 34 = .ok (.iload_n 1, 1) := by decide +kernel
theorem dX3_unpack_35 : decode cX3_unpack 35 = .ok (.bipush 16, 2) := by decide +kernel
theorem dX3_unpack_37 : decode cX3_unpack 37 = .ok (.iand, 1) := by decide +kernel
theorem dX3_unpack_38 : decode cX3_unpack 38 = .ok (.ifCond .eq 7, 3) := by decide +kernel
theorem dX3_unpack_41 : decode cX3_unpack 41 = .ok (.iconst 1, 1) := by decide +kernel
theorem dX3_unpack_42 : decode cX3_unpack 42 = .ok (.goto 4, 3) := by decide +kernel
theorem dX3_unpack_45 : decode cX3_unpack 45 = .ok (.iconst 0, 1) := by decide +kernel
theorem dX3_unpack_46 : decode cX3_unpack 46 = .ok (.putfield 16, 3) := by decide +kernel
theorem dX3_unpack_49 : decode cX3_unpack 49 = .ok (.aload_n 0, 1) := by decide +kernel
theorem dX3_unpack_50 : decode cX3_unpack 50 = .ok (.iload_n 1, 1) := by decide +kernel
theorem dX3_unpack_51 : decode cX3_unpack 51 = .ok (.iconst 4, 1) := by decide +kernel
theorem dX3_unpack_52 : decode cX3_unpack 52 = .ok (.iand, 1) := by decide +kernel
theorem dX3_unpack_53 : decode cX3_unpack 53 = .ok (.ifCond .eq 7, 3) := by decide +kernel
theorem dX3_unpack_56 : decode cX3_unpack 56 = .ok (.iconst 1, 1) := by decide +kernel
theorem dX3_unpack_57 : decode cX3_unpack 57 = .ok (.goto 4, 3) := by decide +kernel
theorem dX3_unpack_60 : decode cX3_unpack 60 = .ok (.iconst 0, 1) := by decide +kernel
theorem dX3_unpack_61 : decode cX3_unpack 61 = .ok (.putfield 19, 3) := by decide +kernel
theorem dX3_unpack_64 : decode cX3_unpack 64 = .ok (.aload_n 0, 1) := by decide +kernel
theorem dX3_unpack_65 : decode cX3_unpack 65 = .ok (.iload_n 1, 1) := by decide +kernel
theorem dX3_unpack_66 : decode cX3_unpack 66 = .ok (.iconst 1, 1) := by decide +kernel
theorem dX3_unpack_67 : decode cX3_unpack 67 = .ok (.iand, 1) := by decide +kernel
theorem dX3_unpack_68 : decode cX3_unpack 68 = .ok (.ifCond .eq 7, 3) := by decide +kernel
theorem dX3_unpack_71 : decode cX3_unpack 71 = .ok (.iconst 1, 1) := by decide +kernel
theorem dX3_unpack_72 : decode cX3_unpack 72 = .ok (.goto 4, 3) := by decide +kernel
theorem dX3_unpack_75 : decode cX3_unpack 75 = .ok (.iconst 0, 1) := by decide +kernel
theorem dX3_unpack_76 : decode cX3_unpack 76 = .ok (.putfield 22, 3) := by decide +kernel
theorem dX3_unpack_79 : decode cX3_unpack 79 = .ok (.return_, 1) := by decide +kernel
set_option maxRecDepth 20000 in
theorem ggX3_setLogic_J6_bitCount_0f7a4 : GoodIn wsX3_setLogic wsJ6_bitCount_0f7a4 := goodIn_r _ [7, 8, 9, 10] (by decide +kernel) (by decide +kernel)
set_option maxRecDepth 20000 in
theorem gX3_setLogic_J6_bitCount_0f7a4 : GoodIn wsX3_setLogic (va_wsS RX3 25 yJ6_bitCount_0f7a4 wsJ6_bitCount_0f7a4) := goodIn_app (goodIn_of _ (by decide +kernel)) ggX3_setLogic_J6_bitCount_0f7a4
theorem dX3_setLogic_0 : decode cX3_setLogic 0 = .ok (.aload_n 0, 1) := by decide +kernel
theorem dX3_setLogic_1 : decode cX3_setLogic 1 = .ok (.iload_n 1, 1) := by decide +kernel
theorem dX3_setLogic_2 : decode cX3_setLogic 2 = .ok (.sipush 128, 3) := by decide +kernel
theorem dX3_setLogic_5 : decode cX3_setLogic 5 = .ok (.iand, 1) := by decide +kernel
theorem dX3_setLogic_6 : decode cX3_setLogic 6 = .ok (.ifCond .eq 7, 3) := by decide +kernel
theorem dX3_setLogic_9 : decode cX3_setLogic 9 = .ok (.iconst 1, 1) := by decide +kernel
theorem dX3_setLogic_10 : decode cX3_setLogic 10 = .ok (.goto 4, 3) := by decide +kernel
theorem dX3_setLogic_13 : decode cX3_setLogic 13 = .ok (.iconst 0, 1) := by decide +kernel
theorem dX3_setLogic_14 : decode cX3_setLogic 14 = .ok (.putfield 7, 3) := by decide +kernel
theorem dX3_setLogic_17 : decode cX3_setLogic 17 = .ok (.aload_n 0, 1) := by decide +kernel
theorem dX3_setLogic_18 : decode cX3_setLogic 18 = .ok (.iload_n 1, 1) := by decide +kernel
theorem dX3_setLogic_19 : decode cX3_setLogic 19 = .ok (.ifCond .ne 7, 3) := by decide +kernel
theorem dX3_setLogic_22 : decode cX3_setLogic 22 = .ok (.iconst 1, 1) := by decide +kernel
theorem dX3_setLogic_23 : decode cX3_setLogic 23 = .ok (.goto 4, 3) := by decide +kernel
theorem dX3_setLogic_26 : decode cX3_setLogic 26 = .ok (.iconst 0, 1) := by decide +kernel
theorem dX3_setLogic_27 : decode cX3_setLogic 27 = .ok (.putfield 13, 3) := by decide +kernel
theorem dX3_setLogic_30 : decode cX3_setLogic 30 = .ok (.aload_n 0, 1) := by decide +kernel
theorem dX3_setLogic_31 : decode cX3_setLogic 31 = .ok (.iload_n 1, 1) := by decide +kernel
theorem dX3_setLogic_32 : decode cX3_setLogic 32 = .ok (.invokestatic 25, 3) := by decide +kernel
theorem dX3_setLogic_35 : decode cX3_setLogic 35 = .ok (.iconst 1, 1) := by decide +kernel
theorem dX3_setLogic_36 : decode cX3_setLogic 36 = .ok (.iand, 1) := by decide +kernel
theorem dX3_setLogic_37 : decode cX3_setLogic 37 = .ok (.ifCond .ne 7, 3) := by decide +kernel
theorem dX3_setLogic_40 : decode cX3_setLogic 40 = .ok (.iconst 1, 1) := by decide +kernel
theorem dX3_setLogic_41 : decode cX3_setLogic 41 = .ok (.goto 4, 3) := by decide +kernel
theorem dX3_setLogic_44 : decode cX3_setLogic 44 = .ok (.iconst 0, 1) := by decide +kernel
theorem dX3_setLogic_45 : decode cX3_setLogic 45 = .ok (.putfield 19, 3) := by decide +kernel
theorem dX3_setLogic_48 : decode cX3_setLogic 48 = .ok (.return_, 1) := by decide +kernel
theorem dX3_setHalf_0 : decode cX3_setHalf 0 = .ok (.aload_n 0, 1) := by decide +kernel
theorem dX3_setHalf_1 : decode cX3_setHalf 1 = .ok (.iload_n 1, 1) := by decide +kernel
theorem dX3_setHalf_2 : decode cX3_setHalf 2 = .ok (.putfield 16, 3) := by decide +kernel
theorem dX3_setHalf_5 : decode cX3_setHalf 5 = .ok (.return_, 1) := by decide +kernel
theorem dX3_setCarry_0 : decode cX3_setCarry 0 = .ok (.aload_n 0, 1) := by decide +kernel
theorem dX3_setCarry_1 : decode cX3_setCarry 1 = .ok (.iload_n 1, 1) := by decide +kernel
theorem dX3_setCarry_2 : decode cX3_setCarry 2 = .ok (.putfield 22, 3) := by decide +kernel
theorem dX3_setCarry_5 : decode cX3_setCarry 5 = .ok (.return_, 1) := by decide +kernel
theorem dX3_hasHalf_0 : decode cX3_hasHalf 0 = .ok (.aload_n 0, 1) := by decide +kernel
theorem dX3_hasHalf_1 : decode cX3_hasHalf 1 = .ok (.getfield 16, 3) := by decide +kernel
theorem dX3_hasHalf_4 : decode cX3_hasHalf 4 = .ok (.ireturn, 1) := by decide +kernel
theorem dX3_hasCarry_0 : decode cX3_hasCarry 0 = .ok (.aload_n 0, 1) := by decide +kernel
theorem dX3_hasCarry_1 : decode cX3_hasCarry 1 = .ok (.getfield 22, 3) := by decide +kernel
theorem dX3_hasCarry_4 : decode cX3_hasCarry 4 = .ok (.ireturn, 1) := by decide +kernel
theorem dX3_carryBit_0 : decode cX3_carryBit 0 = .ok (.aload_n 0, 1) := by decide +kernel
theorem dX3_carryBit_1 : decode cX3_carryBit 1 = .ok (.getfield 22, 3) := by decide +kernel
theorem dX3_carryBit_4 : decode cX3_carryBit 4 = .ok (.ifCond .eq 7, 3) := by decide +kernel
theorem dX3_carryBit_7 : decode cX3_carryBit 7 = .ok (.iconst 1, 1) := by decide +kernel
theorem dX3_carryBit_8 : decode cX3_carryBit 8 = .ok (.goto 4, 3) := by decide +kernel
theorem dX3_carryBit_11 : decode cX3_carryBit 11 = .ok (.iconst 0, 1) := by decide +kernel
theorem dX3_carryBit_12 : decode cX3_carryBit 12 = .ok (.ireturn, 1) := by decide +kernel
theorem dX3_holds_0 : decode cX3_holds 0 = .ok (.iload_n 1, 1) := by decide +kernel
theorem dX3_holds_1 : decode cX3_holds 1 = .ok (.iconst 1, 1) := by decide +kernel
theorem dX3_holds_2 : decode cX3_holds 2 = .ok (.iand, 1) := by decide +kernel
theorem dX3_holds_3 : decode cX3_holds 3 = .ok (.ifCond .eq 7, 3) := by decide +kernel
theorem dX3_holds_6 : decode cX3_holds 6 = .ok (.iconst 1, 1) := by decide +kernel
theorem dX3_holds_7 : decode cX3_holds 7 = .ok (.goto 4, 3) := by decide +kernel
theorem dX3_holds_10 : decode cX3_holds 10 = .ok (.iconst 0, 1) := by decide +kernel
theorem dX3_holds_11 : decode cX3_holds 11 = .ok (.istore_n 2, 1) := by decide +kernel
theorem dX3_holds_12 : decode cX3_holds 12 = .ok (.iload_n 1, 1) := by decide +kernel
theorem dX3_holds_13 : decode cX3_holds 13 = .ok (.iconst 1, 1) := by decide +kernel
theorem dX3_holds_14 : decode cX3_holds 14 = .ok (.ishr, 1) := by decide +kernel
theorem dX3_holds_15 : decode cX3_holds 15 = .ok (.tableswitch 67 0 2 #[25, 39, 53], 25) := by decide +kernel
theorem dX3_holds_40 : decode cX3_holds 40 = .ok (.aload_n 0, 1) := by decide +kernel
theorem dX3_holds_41 : decode cX3_holds 41 = .ok (.getfield 13, 3) := by decide +kernel
theorem dX3_holds_44 : decode cX3_holds 44 = .ok (.iload_n 2, 1) := by decide +kernel
theorem dX3_holds_45 : decode cX3_holds 45 = .ok (.if_icmp .ne 7, 3) := by decide +kernel
theorem dX3_holds_48 : decode cX3_holds 48 = .ok (.iconst 1, 1) := by decide +kernel
theorem dX3_holds_49 : decode cX3_holds 49 = .ok (.goto 4, 3) := by decide +kernel
theorem dX3_holds_52 : decode cX3_holds 52 = .ok (.iconst 0, 1) := by decide +kernel
theorem dX3_holds_53 : decode cX3_holds 53 = .ok (.ireturn, 1) := by decide +kernel
theorem dX3_holds_54 : decode cX3_holds 54 = .ok (.aload_n 0, 1) := by decide +kernel
theorem dX3_holds_55 : decode cX3_holds 55 = .ok (.getfield 22, 3) := by decide +kernel
theorem dX3_holds_58 : decode cX3_holds 58 = .ok (.iload_n 2, 1) := by decide +kernel
theorem dX3_holds_59 : decode cX3_holds 59 = .ok (.if_icmp .ne 7, 3) := by decide +kernel
theorem dX3_holds_62 : decode cX3_holds 62 = .ok (.iconst 1, 1) := by decide +kernel
theorem dX3_holds_63 : decode cX3_holds 63 = .ok (.goto 4, 3) := by decide +kernel
theorem dX3_holds_66 : decode cX3_holds 66 = .ok (.iconst 0, 1) := by decide +kernel
theorem dX3_holds_67 : decode cX3_holds 67 = .ok (.ireturn, 1) := by decide +kernel
theorem dX3_holds_68 : decode cX3_holds 68 = .ok (.aload_n 0, 1) := by decide +kernel
theorem dX3_holds_69 : decode cX3_holds 69 = .ok (.getfield 19, 3) := by decide +kernel
theorem dX3_holds_72 : decode cX3_holds 72 = .ok (.iload_n 2, 1) := by decide +kernel
theorem dX3_holds_73 : decode cX3_holds 73 = .ok (.if_icmp .ne 7, 3) := by decide +kernel
theorem dX3_holds_76 : decode cX3_holds 76 = .ok (.iconst 1, 1) := by decide +kernel
theorem dX3_holds_77 : decode cX3_holds 77 = .ok (.goto 4, 3) := by decide +kernel
theorem dX3_holds_80 : decode cX3_holds 80 = .ok (.iconst 0, 1) := by decide +kernel
theorem dX3_holds_81 : decode cX3_holds 81 = .ok (.ireturn, 1) := by decide +kernel
theorem dX3_holds_82 : decode cX3_holds 82 = .ok (.aload_n 0, 1) := by decide +kernel
theorem dX3_holds_83 : decode cX3_holds 83 = .ok (.getfield 7, 3) := by decide +kernel
theorem dX3_holds_86 : decode cX3_holds 86 = .ok (.iload_n 2, 1) := by decide +kernel
theorem dX3_holds_87 : decode cX3_holds 87 = .ok (.if_icmp .ne 7, 3) := by decide +kernel
theorem dX3_holds_90 : decode cX3_holds 90 = .ok (.iconst 1, 1) := by decide +kernel
theorem dX3_holds_91 : decode cX3_holds 91 = .ok (.goto 4, 3) := by decide +kernel
theorem dX3_holds_94 : decode cX3_holds 94 = .ok (.iconst 0, 1) := by decide +kernel
theorem dX3_holds_95 : decode cX3_holds 95 = .ok (.ireturn, 1) := by decide +kernel
set_option maxRecDepth 20000 in
theorem ggX4_init_X3_init : GoodIn wsX4_init wsX3_init := goodIn_r _ [19, 20, 2, 3] (by decide +kernel) (by decide +kernel)
set_option maxRecDepth 20000 in
theorem gX4_init_X3_init_n11 : GoodIn wsX4_init (wsX3_init) := ggX4_init_X3_init
set_option maxRecDepth 20000 in
theorem ggX4_init_X0_init : GoodIn wsX4_init wsX0_init := goodIn_r _ [23, 24, 2, 3, 25, 44] (by decide +kernel) (by decide +kernel)
set_option maxRecDepth 20000 in
theorem gX4_init_X0_init : GoodIn wsX4_init (wsX0_init) := ggX4_init_X0_init
theorem dX4_init_0 : decode cX4_init 0 = .ok (.aload_n 0, 1) := by decide +kernel
theorem dX4_init_1 : decode cX4_init 1 = .ok (.invokespecial 3, 3) := by decide +kernel
theorem dX4_init_4 : decode cX4_init 4 = .ok (.aload_n 0, 1) := by decide +kernel
theorem dX4_init_5 : decode cX4_init 5 = .ok (.new 9, 3) := by decide +kernel
theorem dX4_init_8 : decode cX4_init 8 = .ok (.dup, 1) := by decide +kernel
theorem dX4_init_9 : decode cX4_init 9 = .ok (.invokespecial 11, 3) := by decide +kernel
theorem dX4_init_12 : decode cX4_init 12 = .ok (.putfield 12, 3) := by decide +kernel
theorem dX4_init_15 : decode cX4_init 15 = .ok (.aload_n 0, 1) := by decide +kernel
theorem dX4_init_16 : decode cX4_init 16 = .ok (.new 18, 3) := by decide +kernel
theorem dX4_init_19 : decode cX4_init 19 = .ok (.dup, 1) := by decide +kernel
theorem dX4_init_20 : decode cX4_init 20 = .ok (.aload_n 0, 1) := by decide +kernel
theorem dX4_init_21 : decode cX4_init 21 = .ok (.getfield 12, 3) := by decide +kernel
theorem dX4_init_24 : decode cX4_init 24 = .ok (.invokespecial 20, 3) := by decide +kernel
theorem dX4_init_27 : decode cX4_init 27 = .ok (.putfield 23, 3) := by decide +kernel
theorem dX4_init_30 : decode cX4_init 30 = .ok (.aload_n 0, 1) := by decide +kernel
theorem dX4_init_31 : decode cX4_init 31 = .ok (.bipush 8, 2) := by decide +kernel
theorem dX4_init_33 : decode cX4_init 33 = .ok (.newarray .int, 2) := by decide +kernel
theorem dX4_init_35 : decode cX4_init 35 = .ok (.putfield 27, 3) := by decide +kernel
theorem dX4_init_38 : decode cX4_init 38 = .ok (.aload_n 0, 1) := by decide +kernel
theorem dX4_init_39 : decode cX4_init 39 = .ok (.iconst (-1), 1) := by decide +kernel
end
section
theorem dX4_init_40 : decode cX4_init 40 = .ok (.putfield 31, 3) := by decide +kernel
theorem dX4_init_43 : decode cX4_init 43 = .ok (.aload_n 0, 1) := by decide +kernel
theorem dX4_init_44 : decode cX4_init 44 = .ok (.aload_n 1, 1) := by decide +kernel
theorem dX4_init_45 : decode cX4_init 45 = .ok (.putfield 35, 3) := by decide +kernel
theorem dX4_init_48 : decode cX4_init 48 = .ok (.aload_n 0, 1) := by decide +kernel
theorem dX4_init_49 : decode cX4_init 49 = .ok (.aload_n 2, 1) := by decide +kernel
theorem dX4_init_50 : decode cX4_init 50 = .ok (.putfield 39, 3) := by decide +kernel
theorem dX4_init_53 : decode cX4_init 53 = .ok (.aload_n 0, 1) := by decide +kernel
theorem dX4_init_54 : decode cX4_init 54 = .ok (.aload_n 3, 1) := by decide +kernel
theorem dX4_init_55 : decode cX4_init 55 = .ok (.putfield 43, 3) := by decide +kernel
theorem dX4_init_58 : decode cX4_init 58 = .ok (.return_, 1) := by decide +kernel
theorem dX4_shows_0 : decode cX4_shows 0 = .ok (.iload_n 0, 1) := by decide +kernel
theorem dX4_shows_1 : decode cX4_shows 1 = .ok (.ifCond .lt 13, 3) := by decide +kernel
theorem dX4_shows_4 : decode cX4_shows 4 = .ok (.iload_n 0, 1) := by decide +kernel
theorem dX4_shows_5 : decode cX4_shows 5 = .ok (.bipush 9, 2) := by decide +kernel
theorem dX4_shows_7 : decode cX4_shows 7 = .ok (.if_icmp .gt 7, 3) := by decide +kernel
theorem dX4_shows_10 : decode cX4_shows 10 = .ok (.iconst 1, 1) := by decide +kernel
theorem dX4_shows_11 : decode cX4_shows 11 = .ok (.goto 4, 3) := by decide +kernel
theorem dX4_shows_14 : decode cX4_shows 14 = .ok (.iconst 0, 1) := by decide +kernel
theorem dX4_shows_15 : decode cX4_shows 15 = .ok (.ireturn, 1) := by decide +kernel
set_option maxRecDepth 20000 in
theorem ggX4_shown_X3_packed : GoodIn wsX4_shown wsX3_packed := goodIn_r _ [9, 10, 11, 12, 13, 14, 28, 29, 30, 31, 32] (by decide +kernel) (by decide +kernel)
set_option maxRecDepth 20000 in
theorem gX4_shown_X3_packed : GoodIn wsX4_shown (wsV RX4 47 RX3 yX3_packed wsX3_packed) := goodIn_app (goodIn_of _ (by decide +kernel)) ggX4_shown_X3_packed
theorem dX4_shown_0 : decode cX4_shown 0 = .ok (.iload_n 1, 1) := by decide +kernel
theorem dX4_shown_1 : decode cX4_shown 1 = .ok (.tableswitch 49 6 9 #[31, 49, 39, 44], 31) := by decide +kernel
theorem dX4_shown_32 : decode cX4_shown 32 = .ok (.aload_n 0, 1) := by decide +kernel
theorem dX4_shown_33 : decode cX4_shown 33 = .ok (.getfield 12, 3) := by decide +kernel
theorem dX4_shown_36 : decode cX4_shown 36 = .ok (.invokevirtual 47, 3) := by decide +kernel
theorem dX4_shown_39 : decode cX4_shown 39 = .ok (.ireturn, 1) := by decide +kernel
theorem dX4_shown_40 : decode cX4_shown 40 = .ok (.aload_n 0, 1) := by decide +kernel
theorem dX4_shown_41 : decode cX4_shown 41 = .ok (.getfield 51, 3) := by decide +kernel
theorem dX4_shown_44 : decode cX4_shown 44 = .ok (.ireturn, 1) := by decide +kernel
theorem dX4_shown_45 : decode cX4_shown 45 = .ok (.aload_n 0, 1) := by decide +kernel
theorem dX4_shown_46 : decode cX4_shown 46 = .ok (.getfield 54, 3) := by decide +kernel
theorem dX4_shown_49 : decode cX4_shown 49 = .ok (.ireturn, 1) := by decide +kernel
theorem dX4_shown_50 : decode cX4_shown 50 = .ok (.aload_n 0, 1) := by decide +kernel
theorem dX4_shown_51 : decode cX4_shown 51 = .ok (.getfield 27, 3) := by decide +kernel
theorem dX4_shown_54 : decode cX4_shown 54 = .ok (.iload_n 1, 1) := by decide +kernel
theorem dX4_shown_55 : decode cX4_shown 55 = .ok (.bipush 7, 2) := by decide +kernel
theorem dX4_shown_57 : decode cX4_shown 57 = .ok (.iand, 1) := by decide +kernel
theorem dX4_shown_58 : decode cX4_shown 58 = .ok (.iaload, 1) := by decide +kernel
theorem dX4_shown_59 : decode cX4_shown 59 = .ok (.ireturn, 1) := by decide +kernel
set_option maxRecDepth 20000 in
theorem ggX4_change_X3_unpack : GoodIn wsX4_change wsX3_unpack := goodIn_r _ [10, 11, 12, 13, 14, 15, 29, 30, 31, 32, 33] (by decide +kernel) (by decide +kernel)
set_option maxRecDepth 20000 in
theorem gX4_change_X3_unpack : GoodIn wsX4_change (wsV RX4 57 RX3 yX3_unpack wsX3_unpack) := goodIn_app (goodIn_of _ (by decide +kernel)) ggX4_change_X3_unpack
theorem dX4_change_0 : decode cX4_change 0 = .ok (.iload_n 1, 1) := by decide +kernel
theorem dX4_change_1 : decode cX4_change 1 = .ok (.tableswitch 64 6 9 #[31, 64, 42, 53], 31) := by decide +kernel
theorem dX4_change_32 : decode cX4_change 32 = .ok (.aload_n 0, 1) := by decide +kernel
theorem dX4_change_33 : decode cX4_change 33 = .ok (.getfield 12, 3) := by decide +kernel
theorem dX4_change_36 : decode cX4_change 36 = .ok (.iload_n 2, 1) := by decide +kernel
theorem dX4_change_37 : decode cX4_change 37 = .ok (.invokevirtual 57, 3) := by decide +kernel
theorem dX4_change_40 : decode cX4_change 40 = .ok (.goto 39, 3) := by decide +kernel
theorem dX4_change_43 : decode cX4_change 43 = .ok (.aload_n 0, 1) := by decide +kernel
theorem dX4_change_44 : decode cX4_change 44 = .ok (.iload_n 2, 1) := by decide +kernel
theorem dX4_change_45 : decode cX4_change 45 = .ok (.ldc 61, 2) := by decide +kernel
theorem dX4_change_47 : decode cX4_change 47 = .ok (.iand, 1) := by decide +kernel
theorem dX4_change_48 : decode cX4_change 48 = .ok (.putfield 51, 3) := by decide +kernel
theorem dX4_change_51 : decode cX4_change 51 = .ok (.goto 28, 3) := by decide +kernel
theorem dX4_change_54 : decode cX4_change 54 = .ok (.aload_n 0, 1) := by decide +kernel
theorem dX4_change_55 : decode cX4_change 55 = .ok (.iload_n 2, 1) := by decide +kernel
theorem dX4_change_56 : decode cX4_change 56 = .ok (.ldc 61, 2) := by decide +kernel
theorem dX4_change_58 : decode cX4_change 58 = .ok (.iand, 1) := by decide +kernel
theorem dX4_change_59 : decode cX4_change 59 = .ok (.putfield 54, 3) := by decide +kernel
theorem dX4_change_62 : decode cX4_change 62 = .ok (.goto 17, 3) := by decide +kernel
theorem dX4_change_65 : decode cX4_change 65 = .ok (.aload_n 0, 1) := by decide +kernel
theorem dX4_change_66 : decode cX4_change 66 = .ok (.getfield 27, 3) := by decide +kernel
theorem dX4_change_69 : decode cX4_change 69 = .ok (.iload_n 1, 1) := by decide +kernel
theorem dX4_change_70 : decode cX4_change 70 = .ok (.bipush 7, 2) := by decide +kernel
theorem dX4_change_72 : decode cX4_change 72 = .ok (.iand, 1) := by decide +kernel
theorem dX4_change_73 : decode cX4_change 73 = .ok (.iload_n 2, 1) := by decide +kernel
theorem dX4_change_74 : decode cX4_change 74 = .ok (.sipush 255, 3) := by decide +kernel
theorem dX4_change_77 : decode cX4_change 77 = .ok (.iand, 1) := by decide +kernel
theorem dX4_change_78 : decode cX4_change 78 = .ok (.iastore, 1) := by decide +kernel
theorem dX4_change_79 : decode cX4_change 79 = .ok (.return_, 1) := by decide +kernel
theorem dX4_callWith_0 : decode cX4_callWith 0 = .ok (.aload_n 0, 1) := by decide +kernel
theorem dX4_callWith_1 : decode cX4_callWith 1 = .ok (.iload_n 1, 1) := by decide +kernel
theorem dX4_callWith_2 : decode cX4_callWith 2 = .ok (.putfield 31, 3) := by decide +kernel
theorem dX4_callWith_5 : decode cX4_callWith 5 = .ok (.return_, 1) := by decide +kernel
theorem dX4_isHalted_0 : decode cX4_isHalted 0 = .ok (.aload_n 0, 1) := by decide +kernel
theorem dX4_isHalted_1 : decode cX4_isHalted 1 = .ok (.getfield 62, 3) := by decide +kernel
theorem dX4_isHalted_4 : decode cX4_isHalted 4 = .ok (.ireturn, 1) := by decide +kernel
theorem dX4_hasInterruptsOn_0 : decode cX4_hasInterruptsOn 0 = .ok (.aload_n 0, 1) := by decide +kernel
theorem dX4_hasInterruptsOn_1 : decode cX4_hasInterruptsOn 1 = .ok (.getfield 66, 3) := by decide +kernel
theorem dX4_hasInterruptsOn_4 : decode cX4_hasInterruptsOn 4 = .ok (.ireturn, 1) := by decide +kernel
theorem dX4_wantedInterrupt_0 : decode cX4_wantedInterrupt 0 = .ok (.aload_n 0, 1) := by decide +kernel
theorem dX4_wantedInterrupt_1 : decode cX4_wantedInterrupt 1 = .ok (.getfield 31, 3) := by decide +kernel
theorem dX4_wantedInterrupt_4 : decode cX4_wantedInterrupt 4 = .ok (.ireturn, 1) := by decide +kernel
theorem dX4_cyclesDone_0 : decode cX4_cyclesDone 0 = .ok (.aload_n 0, 1) := by decide +kernel
theorem dX4_cyclesDone_1 : decode cX4_cyclesDone 1 = .ok (.getfield 69, 3) := by decide +kernel
theorem dX4_cyclesDone_4 : decode cX4_cyclesDone 4 = .ok (.lreturn, 1) := by decide +kernel
set_option maxRecDepth 20000 in
theorem ggX4_turn_X4_answerInterrupt : GoodIn wsX4_turn wsX4_answerInterrupt := goodIn_r _ [11, 1, 2, 4, 12, 13, 14, 15, 10, 16, 17, 18, 19, 20, 21, 22, 23, 24, 25, 308, 309, 310, 311, 312, 313, 314, 315, 316, 317, 318, 319, 320, 321] (by decide +kernel) (by decide +kernel)
set_option maxRecDepth 20000 in
theorem gX4_turn_X4_answerInterrupt : GoodIn wsX4_turn (wsV RX4 76 RX4 yX4_answerInterrupt wsX4_answerInterrupt) := goodIn_app (goodIn_of _ (by decide +kernel)) ggX4_turn_X4_answerInterrupt
set_option maxRecDepth 20000 in
theorem ggX4_turn_X4_instruction : GoodIn wsX4_turn wsX4_instruction := goodIn_r _ [29, 3, 30, 31, 32, 33, 34, 10, 35, 19, 12, 18, 36, 37, 38, 23, 39, 25, 40, 41, 42, 43, 44, 45, 46, 47, 48, 49, 50, 51, 52, 53, 54, 55, 56, 57, 58, 59, 60, 17, 61, 62, 63, 64, 65, 66, 67, 68, 69, 70, 71, 72, 73, 74, 75, 76, 77, 78, 20, 21, 22, 24, 79, 80, 81, 82, 83, 84, 85, 86, 87, 88, 89, 90, 91, 92, 93, 94, 95, 96, 97, 98, 99, 100, 101, 102, 103, 104, 105, 106, 107, 108, 109, 110, 111, 112, 113, 114, 115, 116, 117, 118, 119, 120, 121, 122, 123, 124, 125, 126, 127, 128, 129, 130, 131, 132, 133, 134, 135, 136, 137, 138, 139, 140, 141, 142, 143, 144, 145, 146, 147, 148, 149, 150, 151, 152, 4, 153, 154, 155, 156, 157, 158, 159, 160, 161, 162, 163, 164, 165, 166, 167, 168, 169, 170, 171, 172, 173, 174, 175, 176, 177, 178, 179, 180, 181, 182, 183, 184, 185, 186, 187, 188, 189, 190, 191, 192, 193, 194, 195, 196, 197, 198, 199, 200, 201, 202, 203, 204, 2, 205, 206, 207, 208, 209, 6, 210, 211, 212, 213, 214, 215, 216, 217, 218, 219, 220, 221, 222, 223, 224, 225, 226, 227, 228, 229, 230, 231, 232, 233, 234, 235, 236, 237, 238, 239, 240, 241, 242, 243, 244, 245, 246, 247, 248, 249, 250, 251, 252, 253, 254, 255, 256, 257, 258, 259, 260, 261, 262, 263, 264, 265, 266, 267, 268, 269, 270, 271, 272, 273, 274, 275, 276, 277, 278, 279, 280, 281, 282, 13, 14, 15, 16, 283, 284, 285, 286, 287, 288, 289, 290, 308, 309, 310, 311, 312, 313, 314, 315, 316, 317, 318, 319, 320, 321, 322, 323, 324, 325, 326, 327, 328, 329, 330, 331, 332, 333, 334, 335, 336, 337, 338, 339, 340, 341, 342, 343] (by decide +kernel) (by decide +kernel)
set_option maxRecDepth 20000 in
theorem gX4_turn_X4_instruction : GoodIn wsX4_turn (wsV RX4 79 RX4 yX4_instruction wsX4_instruction) := goodIn_app (goodIn_of _ (by decide +kernel)) ggX4_turn_X4_instruction
set_option maxRecDepth 20000 in
theorem ggX4_turn_X2_letPass : GoodIn wsX4_turn wsX2_letPass := goodIn_r _ [294, 247, 246, 245, 248, 249, 250, 220, 251, 242, 295, 296, 297, 298, 243, 244, 299, 300, 227, 301, 302, 37, 38, 23, 39, 25, 303, 76, 77, 78, 304, 305, 306, 307, 237, 333, 334, 335, 336, 337, 338, 339, 340, 341, 342, 343, 321] (by decide +kernel) (by decide +kernel)
set_option maxRecDepth 20000 in
theorem gX4_turn_X2_letPass : GoodIn wsX4_turn (wsV RX4 82 RX2 yX2_letPass wsX2_letPass) := goodIn_app (goodIn_of _ (by decide +kernel)) ggX4_turn_X2_letPass
theorem dX4_turn_0 : decode cX4_turn 0 = .ok (.aload_n 0, 1) := by decide +kernel
theorem dX4_turn_1 : decode cX4_turn 1 = .ok (.getfield 31, 3) := by decide +kernel
theorem dX4_turn_4 : decode cX4_turn 4 = .ok (.iconst (-1), 1) := by decide +kernel
theorem dX4_turn_5 : decode cX4_turn 5 = .ok (.if_icmp .eq 25, 3) := by decide +kernel
theorem dX4_turn_8 : decode cX4_turn 8 = .ok (.aload_n 0, 1) := by decide +kernel
theorem dX4_turn_9 : decode cX4_turn 9 = .ok (.getfield 66, 3) := by decide +kernel
theorem dX4_turn_12 : decode cX4_turn 12 = .ok (.ifCond .eq 18, 3) := by decide +kernel
theorem dX4_turn_15 : decode cX4_turn 15 = .ok (.aload_n 0, 1) := by decide +kernel
theorem dX4_turn_16 : decode cX4_turn 16 = .ok (.getfield 73, 3) := by decide +kernel
theorem dX4_turn_19 : decode cX4_turn 19 = .ok (.ifCond .ne 11, 3) := by decide +kernel
theorem dX4_turn_22 : decode cX4_turn 22 = .ok (.aload_n 0, 1) := by decide +kernel
theorem dX4_turn_23 : decode cX4_turn 23 = .ok (.invokevirtual 76, 3) := by decide +kernel
theorem dX4_turn_26 : decode cX4_turn 26 = .ok (.istore_n 1, 1) := by decide +kernel
theorem dX4_turn_27 : decode cX4_turn 27 = .ok (.goto 20, 3) := by decide +kernel
theorem dX4_turn_30 : decode cX4_turn 30 = .ok (.aload_n 0, 1) := by decide +kernel
theorem dX4_turn_31 : decode cX4_turn 31 = .ok (.getfield 62, 3) := by decide +kernel
theorem dX4_turn_34 : decode cX4_turn 34 = .ok (.ifCond .eq 8, 3) := by decide +kernel
theorem dX4_turn_37 : decode cX4_turn 37 = .ok (.iconst 4, 1) := by decide +kernel
theorem dX4_turn_38 : decode cX4_turn 38 = .ok (.istore_n 1, 1) := by decide +kernel
theorem dX4_turn_39 : decode cX4_turn 39 = .ok (.goto 8, 3) := by decide +kernel
theorem dX4_turn_42 : decode cX4_turn 42 = .ok (.aload_n 0, 1) := by decide +kernel
theorem dX4_turn_43 : decode cX4_turn 43 = .ok (.invokevirtual 79, 3) := by decide +kernel
theorem dX4_turn_46 : decode cX4_turn 46 = .ok (.istore_n 1, 1) := by decide +kernel
theorem dX4_turn_47 : decode cX4_turn 47 = .ok (.aload_n 0, 1) := by decide +kernel
theorem dX4_turn_48 : decode cX4_turn 48 = .ok (.dup, 1) := by decide +kernel
theorem dX4_turn_49 : decode cX4_turn 49 = .ok (.getfield 69, 3) := by decide +kernel
theorem dX4_turn_52 : decode cX4_turn 52 = .ok (.iload_n 1, 1) := by decide +kernel
theorem dX4_turn_53 : decode cX4_turn 53 = .ok (.i2l, 1) := by decide +kernel
theorem dX4_turn_54 : decode cX4_turn 54 = .ok (.ladd, 1) := by decide +kernel
theorem dX4_turn_55 : decode cX4_turn 55 = .ok (.putfield 69, 3) := by decide +kernel
theorem dX4_turn_58 : decode cX4_turn 58 = .ok (.aload_n 0, 1) := by decide +kernel
theorem dX4_turn_59 : decode cX4_turn 59 = .ok (.getfield 43, 3) := by decide +kernel
theorem dX4_turn_62 : decode cX4_turn 62 = .ok (.iload_n 1, 1) := by decide +kernel
theorem dX4_turn_63 : decode cX4_turn 63 = .ok (.invokevirtual 82, 3) := by decide +kernel
theorem dX4_turn_66 : decode cX4_turn 66 = .ok (.istore_n 2, 1) := by decide +kernel
theorem dX4_turn_67 : decode cX4_turn 67 = .ok (.iload_n 2, 1) := by decide +kernel
theorem dX4_turn_68 : decode cX4_turn 68 = .ok (.iconst (-1), 1) := by decide +kernel
theorem dX4_turn_69 : decode cX4_turn 69 = .ok (.if_icmp .eq 8, 3) := by decide +kernel
theorem dX4_turn_72 : decode cX4_turn 72 = .ok (.aload_n 0, 1) := by decide +kernel
theorem dX4_turn_73 : decode cX4_turn 73 = .ok (.iload_n 2, 1) := by decide +kernel
theorem dX4_turn_74 : decode cX4_turn 74 = .ok (.putfield 31, 3) := by decide +kernel
theorem dX4_turn_77 : decode cX4_turn 77 = .ok (.iload_n 1, 1) := by decide +kernel
theorem dX4_turn_78 : decode cX4_turn 78 = .ok (.ireturn, 1) := by decide +kernel
set_option maxRecDepth 20000 in
theorem ggX4_answerInterrupt_X4_push : GoodIn wsX4_answerInterrupt wsX4_push := goodIn_r _ [9, 10, 11, 12, 13, 14, 15, 16, 17, 18, 19, 20, 21, 22, 23, 24, 25, 26, 27, 28, 29, 30, 31, 32] (by decide +kernel) (by decide +kernel)
set_option maxRecDepth 20000 in
theorem gX4_answerInterrupt_X4_push : GoodIn wsX4_answerInterrupt (wsV RX4 88 RX4 yX4_push wsX4_push) := goodIn_app (goodIn_of _ (by decide +kernel)) ggX4_answerInterrupt_X4_push
theorem dX4_answerInterrupt_0 : decode cX4_answerInterrupt 0 = .ok (.aload_n 0, 1) := by decide +kernel
theorem dX4_answerInterrupt_1 : decode cX4_answerInterrupt 1 = .ok (.getfield 31, 3) := by decide +kernel
theorem dX4_answerInterrupt_4 : decode cX4_answerInterrupt 4 = .ok (.istore_n 1, 1) := by decide +kernel
theorem dX4_answerInterrupt_5 : decode cX4_answerInterrupt 5 = .ok (.aload_n 0, 1) := by decide +kernel
theorem dX4_answerInterrupt_6 : decode cX4_answerInterrupt 6 = .ok (.iconst (-1), 1) := by decide +kernel
theorem dX4_answerInterrupt_7 : decode cX4_answerInterrupt 7 = .ok (.putfield 31, 3) := by decide +kernel
theorem dX4_answerInterrupt_10 : decode cX4_answerInterrupt 10 = .ok (.aload_n 0, 1) := by decide +kernel
theorem dX4_answerInterrupt_11 : decode cX4_answerInterrupt 11 = .ok (.iconst 0, 1) := by decide +kernel
theorem dX4_answerInterrupt_12 : decode cX4_answerInterrupt 12 = .ok (.putfield 66, 3) := by decide +kernel
theorem dX4_answerInterrupt_15 : decode cX4_answerInterrupt 15 = .ok (.aload_n 0, 1) := by decide +kernel
theorem dX4_answerInterrupt_16 : decode cX4_answerInterrupt 16 = .ok (.iconst 0, 1) := by decide +kernel
theorem dX4_answerInterrupt_17 : decode cX4_answerInterrupt 17 = .ok (.putfield 62, 3) := by decide +kernel
theorem dX4_answerInterrupt_20 : decode cX4_answerInterrupt 20 = .ok (.aload_n 0, 1) := by decide +kernel
theorem dX4_answerInterrupt_21 : decode cX4_answerInterrupt 21 = .ok (.aload_n 0, 1) := by decide +kernel
theorem dX4_answerInterrupt_22 : decode cX4_answerInterrupt 22 = .ok (.getfield 51, 3) := by decide +kernel
theorem dX4_answerInterrupt_25 : decode cX4_answerInterrupt 25 = .ok (.invokevirtual 88, 3) := by decide +kernel
theorem dX4_answerInterrupt_28 : decode cX4_answerInterrupt 28 = .ok (.aload_n 0, 1) := by decide +kernel
theorem dX4_answerInterrupt_29 : decode cX4_answerInterrupt 29 = .ok (.bipush 8, 2) := by decide +kernel
theorem dX4_answerInterrupt_31 : decode cX4_answerInterrupt 31 = .ok (.iload_n 1, 1) := by decide +kernel
theorem dX4_answerInterrupt_32 : decode cX4_answerInterrupt 32 = .ok (.imul, 1) := by decide +kernel
theorem dX4_answerInterrupt_33 : decode cX4_answerInterrupt 33 = .ok (.putfield 51, 3) := by decide +kernel
theorem dX4_answerInterrupt_36 : decode cX4_answerInterrupt 36 = .ok (.bipush 11, 2) := by decide +kernel
theorem dX4_answerInterrupt_38 : decode cX4_answerInterrupt 38 = .ok (.ireturn, 1) := by decide +kernel
set_option maxRecDepth 20000 in
theorem ggX4_instruction_X4_nextByte : GoodIn wsX4_instruction wsX4_nextByte := goodIn_r _ [8, 9, 10, 11, 12, 13, 14, 15, 16, 17, 281, 282, 283, 284, 285, 286, 287, 288, 289, 290, 291, 292, 293, 294] (by decide +kernel) (by decide +kernel)
set_option maxRecDepth 20000 in
theorem gX4_instruction_X4_nextByte : GoodIn wsX4_instruction (wsV RX4 91 RX4 yX4_nextByte wsX4_nextByte) := goodIn_app (goodIn_of _ (by decide +kernel)) ggX4_instruction_X4_nextByte
set_option maxRecDepth 20000 in
theorem ggX4_instruction_X4_firstQuarter : GoodIn wsX4_instruction wsX4_firstQuarter := goodIn_r _ [21, 3, 2, 22, 23, 24, 7, 25, 26, 11, 27, 28, 29, 30, 9, 10, 31, 32, 33, 15, 34, 17, 35, 36, 37, 38, 39, 40, 41, 42, 43, 44, 45, 46, 47, 48, 49, 50, 51, 52, 53, 54, 55, 56, 57, 12, 13, 14, 16, 58, 59, 60, 61, 62, 63, 64, 65, 66, 67, 68, 69, 70, 71, 72, 73, 74, 75, 76, 77, 78, 79, 80, 81, 82, 83, 84, 85, 86, 87, 88, 89, 90, 91, 92, 93, 94, 95, 96, 97, 98, 99, 100, 101, 102, 4, 5, 6, 8, 103, 104, 105, 106, 107, 108, 109, 110, 111, 112, 113, 114, 115, 116, 117, 118, 119, 120, 121, 122, 123, 124, 125, 126, 127, 128, 129, 130, 131, 281, 282, 283, 284, 285, 286, 287, 288, 289, 290, 291, 292, 293, 294, 295, 296, 297, 298, 299, 300] (by decide +kernel) (by decide +kernel)
set_option maxRecDepth 20000 in
theorem gX4_instruction_X4_firstQuarter : GoodIn wsX4_instruction (wsV RX4 94 RX4 yX4_firstQuarter wsX4_firstQuarter) := goodIn_app (goodIn_of _ (by decide +kernel)) ggX4_instruction_X4_firstQuarter
set_option maxRecDepth 20000 in
theorem ggX4_instruction_X4_transfer : GoodIn wsX4_instruction wsX4_transfer := goodIn_r _ [135, 136, 66, 67, 68, 7, 69, 9, 2, 40, 41, 42, 43, 39, 12, 13, 14, 15, 16, 17, 95, 96, 97, 98, 54, 55, 56, 57, 281, 282, 283, 284, 285, 286, 287, 288, 289, 290, 291, 292, 293, 294] (by decide +kernel) (by decide +kernel)
set_option maxRecDepth 20000 in
theorem gX4_instruction_X4_transfer : GoodIn wsX4_instruction (wsV RX4 98 RX4 yX4_transfer wsX4_transfer) := goodIn_app (goodIn_of _ (by decide +kernel)) ggX4_instruction_X4_transfer
set_option maxRecDepth 20000 in
theorem ggX4_instruction_X4_value : GoodIn wsX4_instruction wsX4_value := goodIn_r _ [69, 9, 2, 40, 41, 42, 7, 43, 39, 12, 13, 14, 15, 16, 17, 281, 282, 283, 284, 285, 286, 287, 288, 289, 290, 291, 292, 293, 294] (by decide +kernel) (by decide +kernel)
set_option maxRecDepth 20000 in
theorem gX4_instruction_X4_value : GoodIn wsX4_instruction (wsV RX4 101 RX4 yX4_value wsX4_value) := goodIn_app (goodIn_of _ (by decide +kernel)) ggX4_instruction_X4_value
set_option maxRecDepth 20000 in
theorem ggX4_instruction_X0_combine : GoodIn wsX4_instruction wsX0_combine := goodIn_r _ [140, 75, 141, 142, 143, 73, 144, 111, 45, 46, 47, 48, 49, 76, 77, 78, 79, 80, 81, 82, 83, 84, 85, 86, 87, 88, 89, 90, 91, 92, 93, 94, 116, 117, 118, 119, 145, 146, 147, 148, 149, 150, 151, 152, 300, 295, 296, 297, 298, 299] (by decide +kernel) (by decide +kernel)
set_option maxRecDepth 20000 in
theorem gX4_instruction_X0_combine : GoodIn wsX4_instruction (wsV RX4 104 RX0 yX0_combine wsX0_combine) := goodIn_app (goodIn_of _ (by decide +kernel)) ggX4_instruction_X0_combine
set_option maxRecDepth 20000 in
theorem ggX4_instruction_X4_lastQuarter : GoodIn wsX4_instruction wsX4_lastQuarter := goodIn_r _ [156, 26, 2, 3, 10, 157, 158, 159, 7, 160, 161, 162, 163, 47, 164, 86, 49, 87, 85, 165, 166, 167, 168, 9, 39, 11, 31, 32, 33, 15, 34, 17, 169, 170, 171, 172, 40, 41, 42, 43, 173, 174, 175, 176, 177, 178, 179, 180, 80, 35, 36, 37, 38, 181, 182, 183, 184, 27, 28, 29, 30, 185, 186, 187, 188, 189, 1, 4, 5, 6, 8, 12, 13, 14, 16, 190, 191, 192, 193, 194, 195, 196, 197, 198, 199, 200, 201, 202, 203, 204, 205, 206, 207, 208, 209, 210, 211, 212, 213, 214, 215, 216, 217, 218, 219, 220, 221, 222, 223, 224, 225, 226, 227, 228, 229, 230, 231, 232, 233, 234, 235, 236, 237, 238, 239, 240, 241, 242, 243, 244, 245, 246, 247, 248, 249, 250, 251, 252, 253, 254, 255, 256, 257, 258, 259, 260, 58, 59, 60, 61, 261, 262, 263, 264, 265, 266, 267, 268, 269, 270, 271, 272, 273, 274, 275, 276, 277, 278, 279, 280, 137, 138, 139, 73, 140, 75, 141, 142, 143, 144, 111, 45, 46, 48, 76, 77, 78, 79, 81, 82, 83, 84, 88, 89, 90, 91, 92, 93, 94, 116, 117, 118, 119, 145, 146, 147, 148, 149, 150, 151, 152, 281, 282, 283, 284, 285, 286, 287, 288, 289, 290, 291, 292, 293, 295, 296, 297, 298, 299, 294, 301, 302, 303, 304, 305, 306, 307, 308, 309, 310, 311, 312, 313, 314, 315, 316, 300] (by decide +kernel) (by decide +kernel)
set_option maxRecDepth 20000 in
theorem gX4_instruction_X4_lastQuarter : GoodIn wsX4_instruction (wsV RX4 108 RX4 yX4_lastQuarter wsX4_lastQuarter) := goodIn_app (goodIn_of _ (by decide +kernel)) ggX4_instruction_X4_lastQuarter
theorem dX4_instruction_0 : decode cX4_instruction 0 = .ok (.aload_n 0, 1) := by decide +kernel
theorem dX4_instruction_1 : decode cX4_instruction 1 = .ok (.iconst 0, 1) := by decide +kernel
theorem dX4_instruction_2 : decode cX4_instruction 2 = .ok (.putfield 73, 3) := by decide +kernel
theorem dX4_instruction_5 : decode cX4_instruction 5 = .ok (.aload_n 0, 1) := by decide +kernel
theorem dX4_instruction_6 : decode cX4_instruction 6 = .ok (.invokevirtual 91, 3) := by decide +kernel
theorem dX4_instruction_9 : decode cX4_instruction 9 = .ok (.istore_n 1, 1) := by decide +kernel
theorem dX4_instruction_10 : decode cX4_instruction 10 = .ok (.iload_n 1, 1) := by decide +kernel
theorem dX4_instruction_11 : decode cX4_instruction 11 = .ok (.iconst 3, 1) := by decide +kernel
theorem dX4_instruction_12 : decode cX4_instruction 12 = .ok (.ishr, 1) := by decide +kernel
theorem dX4_instruction_13 : decode cX4_instruction 13 = .ok (.bipush 7, 2) := by decide +kernel
theorem dX4_instruction_15 : decode cX4_instruction 15 = .ok (.iand, 1) := by decide +kernel
theorem dX4_instruction_16 : decode cX4_instruction 16 = .ok (.istore_n 2, 1) := by decide +kernel
theorem dX4_instruction_17 : decode cX4_instruction 17 = .ok (.iload_n 1, 1) := by decide +kernel
theorem dX4_instruction_18 : decode cX4_instruction 18 = .ok (.bipush 7, 2) := by decide +kernel
theorem dX4_instruction_20 : decode cX4_instruction 20 = .ok (.iand, 1) := by decide +kernel
theorem dX4_instruction_21 : decode cX4_instruction 21 = .ok (.istore_n 3, 1) := by decide +kernel
theorem dX4_instruction_22 : decode cX4_instruction 22 = .ok (.iload_n 1, 1) := by decide +kernel
theorem dX4_instruction_23 : decode cX4_instruction 23 = .ok (.bipush 6, 2) := by decide +kernel
theorem dX4_instruction_25 : decode cX4_instruction 25 = .ok (.ishr, 1) := by decide +kernel
theorem dX4_instruction_26 : decode cX4_instruction 26 = .ok (.tableswitch 80 0 2 #[26, 33, 40], 26) := by decide +kernel
theorem dX4_instruction_52 : decode cX4_instruction 52 = .ok (.aload_n 0, 1) := by decide +kernel
theorem dX4_instruction_53 : decode cX4_instruction 53 = .ok (.iload_n 2, 1) := by decide +kernel
theorem dX4_instruction_54 : decode cX4_instruction 54 = .ok (.iload_n 3, 1) := by decide +kernel
theorem dX4_instruction_55 : decode cX4_instruction 55 = .ok (.invokevirtual 94, 3) := by decide +kernel
theorem dX4_instruction_58 : decode cX4_instruction 58 = .ok (.ireturn, 1) := by decide +kernel
theorem dX4_instruction_59 : decode cX4_instruction 59 = .ok (.aload_n 0, 1) := by decide +kernel
theorem dX4_instruction_60 : decode cX4_instruction 60 = .ok (.iload_n 2, 1) := by decide +kernel
theorem dX4_instruction_61 : decode cX4_instruction 61 = .ok (.iload_n 3, 1) := by decide +kernel
theorem dX4_instruction_62 : decode cX4_instruction 62 = .ok (.invokevirtual 98, 3) := by decide +kernel
theorem dX4_instruction_65 : decode cX4_instruction 65 = .ok (.ireturn, 1) := by decide +kernel
theorem dX4_instruction_66 : decode cX4_instruction 66 = .ok (.aload_n 0, 1) := by decide +kernel
theorem dX4_instruction_67 : decode cX4_instruction 67 = .ok (.getfield 27, 3) := by decide +kernel
theorem dX4_instruction_70 : decode cX4_instruction 70 = .ok (.bipush 7, 2) := by decide +kernel
theorem dX4_instruction_72 : decode cX4_instruction 72 = .ok (.aload_n 0, 1) := by decide +kernel
theorem dX4_instruction_73 : decode cX4_instruction 73 = .ok (.getfield 23, 3) := by decide +kernel
theorem dX4_instruction_76 : decode cX4_instruction 76 = .ok (.iload_n 2, 1) := by decide +kernel
theorem dX4_instruction_77 : decode cX4_instruction 77 = .ok (.aload_n 0, 1) := by decide +kernel
theorem dX4_instruction_78 : decode cX4_instruction 78 = .ok (.getfield 27, 3) := by decide +kernel
theorem dX4_instruction_81 : decode cX4_instruction 81 = .ok (.bipush 7, 2) := by decide +kernel
theorem dX4_instruction_83 : decode cX4_instruction 83 = .ok (.iaload, 1) := by decide +kernel
theorem dX4_instruction_84 : decode cX4_instruction 84 = .ok (.aload_n 0, 1) := by decide +kernel
theorem dX4_instruction_85 : decode cX4_instruction 85 = .ok (.iload_n 3, 1) := by decide +kernel
theorem dX4_instruction_86 : decode cX4_instruction 86 = .ok (.invokevirtual 101, 3) := by decide +kernel
theorem dX4_instruction_89 : decode cX4_instruction 89 = .ok (.invokevirtual 104, 3) := by decide +kernel
theorem dX4_instruction_92 : decode cX4_instruction 92 = .ok (.iastore, 1) := by decide +kernel
theorem dX4_instruction_93 : decode cX4_instruction 93 = .ok (.iload_n 3, 1) := by decide +kernel
theorem dX4_instruction_94 : decode cX4_instruction 94 = .ok (.bipush 6, 2) := by decide +kernel
theorem dX4_instruction_96 : decode cX4_instruction 96 = .ok (.if_icmp .ne 8, 3) := by decide +kernel
theorem dX4_instruction_99 : decode cX4_instruction 99 = .ok (.bipush 7, 2) := by decide +kernel
theorem dX4_instruction_101 : decode cX4_instruction 101 = .ok (.goto 4, 3) := by decide +kernel
theorem dX4_instruction_104 : decode cX4_instruction 104 = .ok (.iconst 4, 1) := by decide +kernel
theorem dX4_instruction_105 : decode cX4_instruction 105 = .ok (.ireturn, 1) := by decide +kernel
theorem dX4_instruction_106 : decode cX4_instruction 106 = .ok (.aload_n 0, 1) := by decide +kernel
theorem dX4_instruction_107 : decode cX4_instruction 107 = .ok (.iload_n 2, 1) := by decide +kernel
theorem dX4_instruction_108 : decode cX4_instruction 108 = .ok (.iload_n 3, 1) := by decide +kernel
theorem dX4_instruction_109 : decode cX4_instruction 109 = .ok (.invokevirtual 108, 3) := by decide +kernel
theorem dX4_instruction_112 : decode cX4_instruction 112 = .ok (.ireturn, 1) := by decide +kernel
set_option maxRecDepth 20000 in
theorem ggX4_firstQuarter_X4_setOrAddPair : GoodIn wsX4_firstQuarter wsX4_setOrAddPair := goodIn_r _ [7, 8, 9, 10, 11, 12, 6, 13, 14, 15, 16, 17, 18, 19, 20, 21, 22, 23, 24, 25, 26, 2, 27, 28, 29, 30, 31, 32, 33, 34, 35, 36, 127, 128, 129, 130, 131, 132, 133, 134, 135, 136, 137, 138, 139, 140, 141, 142, 143, 144, 145] (by decide +kernel) (by decide +kernel)
set_option maxRecDepth 20000 in
theorem gX4_firstQuarter_X4_setOrAddPair : GoodIn wsX4_firstQuarter (wsV RX4 111 RX4 yX4_setOrAddPair wsX4_setOrAddPair) := goodIn_app (goodIn_of _ (by decide +kernel)) ggX4_firstQuarter_X4_setOrAddPair
set_option maxRecDepth 20000 in
theorem ggX4_firstQuarter_X4_moveByAddress : GoodIn wsX4_firstQuarter wsX4_moveByAddress := goodIn_r _ [40, 14, 2, 27, 28, 29, 6, 30, 26, 41, 42, 43, 19, 44, 21, 45, 46, 47, 48, 10, 11, 12, 13, 15, 9, 16, 17, 18, 20, 49, 50, 51, 52, 22, 23, 24, 25, 127, 128, 129, 130, 131, 132, 133, 134, 135, 136, 137, 138, 139, 140] (by decide +kernel) (by decide +kernel)
set_option maxRecDepth 20000 in
theorem gX4_firstQuarter_X4_moveByAddress : GoodIn wsX4_firstQuarter (wsV RX4 114 RX4 yX4_moveByAddress wsX4_moveByAddress) := goodIn_app (goodIn_of _ (by decide +kernel)) ggX4_firstQuarter_X4_moveByAddress
set_option maxRecDepth 20000 in
theorem ggX4_firstQuarter_X4_stepPair : GoodIn wsX4_firstQuarter wsX4_stepPair := goodIn_r _ [56, 27, 28, 29, 6, 30, 26, 2, 22, 23, 24, 25, 9, 127, 128, 129, 130, 131, 132, 133, 134, 135, 136, 137, 138, 139] (by decide +kernel) (by decide +kernel)
set_option maxRecDepth 20000 in
theorem gX4_firstQuarter_X4_stepPair : GoodIn wsX4_firstQuarter (wsV RX4 117 RX4 yX4_stepPair wsX4_stepPair) := goodIn_app (goodIn_of _ (by decide +kernel)) ggX4_firstQuarter_X4_stepPair
set_option maxRecDepth 20000 in
theorem ggX4_firstQuarter_X4_value : GoodIn wsX4_firstQuarter wsX4_value := goodIn_r _ [60, 14, 2, 27, 28, 29, 6, 30, 26, 45, 46, 47, 19, 48, 21, 127, 128, 129, 130, 131, 132, 133, 134, 135, 136, 137, 138, 139, 140] (by decide +kernel) (by decide +kernel)
set_option maxRecDepth 20000 in
theorem gX4_firstQuarter_X4_value : GoodIn wsX4_firstQuarter (wsV RX4 101 RX4 yX4_value wsX4_value) := goodIn_app (goodIn_of _ (by decide +kernel)) ggX4_firstQuarter_X4_value
set_option maxRecDepth 20000 in
theorem ggX4_firstQuarter_X0_oneMore : GoodIn wsX4_firstQuarter wsX0_oneMore := goodIn_r _ [65, 66, 67, 68, 69, 34, 70, 71, 72, 73, 74, 75, 76, 77, 78, 79, 80, 81, 82, 83, 84, 85, 146, 141, 142, 143, 144, 145] (by decide +kernel) (by decide +kernel)
set_option maxRecDepth 20000 in
theorem gX4_firstQuarter_X0_oneMore : GoodIn wsX4_firstQuarter (wsV RX4 120 RX0 yX0_oneMore wsX0_oneMore) := goodIn_app (goodIn_of _ (by decide +kernel)) ggX4_firstQuarter_X0_oneMore
set_option maxRecDepth 20000 in
theorem ggX4_firstQuarter_X4_setValue : GoodIn wsX4_firstQuarter wsX4_setValue := goodIn_r _ [89, 14, 2, 27, 28, 29, 6, 30, 26, 41, 42, 43, 19, 44, 21, 127, 128, 129, 130, 131, 132, 133, 134, 135, 136, 137, 138, 139, 140] (by decide +kernel) (by decide +kernel)
set_option maxRecDepth 20000 in
theorem gX4_firstQuarter_X4_setValue : GoodIn wsX4_firstQuarter (wsV RX4 123 RX4 yX4_setValue wsX4_setValue) := goodIn_app (goodIn_of _ (by decide +kernel)) ggX4_firstQuarter_X4_setValue
set_option maxRecDepth 20000 in
theorem ggX4_firstQuarter_X0_oneLess : GoodIn wsX4_firstQuarter wsX0_oneLess := goodIn_r _ [93, 66, 67, 68, 69, 34, 70, 71, 72, 73, 74, 75, 76, 77, 78, 79, 80, 81, 82, 83, 84, 85, 146, 141, 142, 143, 144, 145] (by decide +kernel) (by decide +kernel)
set_option maxRecDepth 20000 in
theorem gX4_firstQuarter_X0_oneLess : GoodIn wsX4_firstQuarter (wsV RX4 127 RX0 yX0_oneLess wsX0_oneLess) := goodIn_app (goodIn_of _ (by decide +kernel)) ggX4_firstQuarter_X0_oneLess
set_option maxRecDepth 20000 in
theorem ggX4_firstQuarter_X4_nextByte : GoodIn wsX4_firstQuarter wsX4_nextByte := goodIn_r _ [97, 14, 15, 9, 45, 46, 47, 19, 48, 21, 127, 128, 129, 130, 131, 132, 133, 134, 135, 136, 137, 138, 139, 140] (by decide +kernel) (by decide +kernel)
set_option maxRecDepth 20000 in
theorem gX4_firstQuarter_X4_nextByte : GoodIn wsX4_firstQuarter (wsV RX4 91 RX4 yX4_nextByte wsX4_nextByte) := goodIn_app (goodIn_of _ (by decide +kernel)) ggX4_firstQuarter_X4_nextByte
set_option maxRecDepth 20000 in
theorem ggX4_firstQuarter_X0_adjust : GoodIn wsX4_firstQuarter wsX0_adjust := goodIn_r _ [101, 66, 102, 103, 104, 64, 105, 106, 32, 33, 34, 35, 36, 107, 108, 109, 110, 111, 112, 113, 114, 115, 116, 117, 118, 119, 120, 121, 122, 71, 123, 124, 125, 126, 67, 68, 69, 70, 72, 73, 74, 75, 76, 77, 78, 79, 80, 81, 82, 83, 84, 85, 146, 141, 142, 143, 144, 145] (by decide +kernel) (by decide +kernel)
set_option maxRecDepth 20000 in
theorem gX4_firstQuarter_X0_adjust : GoodIn wsX4_firstQuarter (wsV RX4 130 RX0 yX0_adjust wsX0_adjust) := goodIn_app (goodIn_of _ (by decide +kernel)) ggX4_firstQuarter_X0_adjust
theorem dX4_firstQuarter_0 : decode cX4_firstQuarter 0 = .ok (.iload_n 2, 1) := by decide +kernel
theorem dX4_firstQuarter_1 : decode cX4_firstQuarter 1 = .ok (.tableswitch 146 0 6 #[43, 45, 51, 57, 63, 93, 123], 43) := by decide +kernel
theorem dX4_firstQuarter_44 : decode cX4_firstQuarter 44 = .ok (.iconst 4, 1) := by decide +kernel
theorem dX4_firstQuarter_45 : decode cX4_firstQuarter 45 = .ok (.ireturn, 1) := by decide +kernel
theorem dX4_firstQuarter_46 : decode cX4_firstQuarter 46 = .ok (.aload_n 0, 1) := by decide +kernel
theorem dX4_firstQuarter_47 : decode cX4_firstQuarter 47 = .ok (.iload_n 1, 1) := by decide +kernel
theorem dX4_firstQuarter_48 : decode cX4_firstQuarter 48 = .ok (.invokevirtual 111, 3) := by decide +kernel
theorem dX4_firstQuarter_51 : decode cX4_firstQuarter 51 = .ok (.ireturn, 1) := by decide +kernel
theorem dX4_firstQuarter_52 : decode cX4_firstQuarter 52 = .ok (.aload_n 0, 1) := by decide +kernel
theorem dX4_firstQuarter_53 : decode cX4_firstQuarter 53 = .ok (.iload_n 1, 1) := by decide +kernel
theorem dX4_firstQuarter_54 : decode cX4_firstQuarter 54 = .ok (.invokevirtual 114, 3) := by decide +kernel
theorem dX4_firstQuarter_57 : decode cX4_firstQuarter 57 = .ok (.ireturn, 1) := by decide +kernel
theorem dX4_firstQuarter_58 : decode cX4_firstQuarter 58 = .ok (.aload_n 0, 1) := by decide +kernel
theorem dX4_firstQuarter_59 : decode cX4_firstQuarter 59 = .ok (.iload_n 1, 1) := by decide +kernel
theorem dX4_firstQuarter_60 : decode cX4_firstQuarter 60 = .ok (.invokevirtual 117, 3) := by decide +kernel
theorem dX4_firstQuarter_63 : decode cX4_firstQuarter 63 = .ok (.ireturn, 1) := by decide +kernel
theorem dX4_firstQuarter_64 : decode cX4_firstQuarter 64 = .ok (.aload_n 0, 1) := by decide +kernel
theorem dX4_firstQuarter_65 : decode cX4_firstQuarter 65 = .ok (.iload_n 1, 1) := by decide +kernel
theorem dX4_firstQuarter_66 : decode cX4_firstQuarter 66 = .ok (.aload_n 0, 1) := by decide +kernel
theorem dX4_firstQuarter_67 : decode cX4_firstQuarter 67 = .ok (.getfield 23, 3) := by decide +kernel
theorem dX4_firstQuarter_70 : decode cX4_firstQuarter 70 = .ok (.aload_n 0, 1) := by decide +kernel
theorem dX4_firstQuarter_71 : decode cX4_firstQuarter 71 = .ok (.iload_n 1, 1) := by decide +kernel
theorem dX4_firstQuarter_72 : decode cX4_firstQuarter 72 = .ok (.invokevirtual 101, 3) := by decide +kernel
theorem dX4_firstQuarter_75 : decode cX4_firstQuarter 75 = .ok (.invokevirtual 120, 3) := by decide +kernel
theorem dX4_firstQuarter_78 : decode cX4_firstQuarter 78 = .ok (.invokevirtual 123, 3) := by decide +kernel
theorem dX4_firstQuarter_81 : decode cX4_firstQuarter 81 = .ok (.iload_n 1, 1) := by decide +kernel
theorem dX4_firstQuarter_82 : decode cX4_firstQuarter 82 = .ok (.bipush 6, 2) := by decide +kernel
theorem dX4_firstQuarter_84 : decode cX4_firstQuarter 84 = .ok (.if_icmp .ne 8, 3) := by decide +kernel
theorem dX4_firstQuarter_87 : decode cX4_firstQuarter 87 = .ok (.bipush 10, 2) := by decide +kernel
theorem dX4_firstQuarter_89 : decode cX4_firstQuarter 89 = .ok (.goto 4, 3) := by decide +kernel
theorem dX4_firstQuarter_92 : decode cX4_firstQuarter 92 = .ok (.iconst 5, 1) := by decide +kernel
theorem dX4_firstQuarter_93 : decode cX4_firstQuarter 93 = .ok (.ireturn, 1) := by decide +kernel
theorem dX4_firstQuarter_94 : decode cX4_firstQuarter 94 = .ok (.aload_n 0, 1) := by decide +kernel
theorem dX4_firstQuarter_95 : decode cX4_firstQuarter 95 = .ok (.iload_n 1, 1) := by decide +kernel
theorem dX4_firstQuarter_96 : decode cX4_firstQuarter 96 = .ok (.aload_n 0, 1) := by decide +kernel
theorem dX4_firstQuarter_97 : decode cX4_firstQuarter 97 = .ok (.getfield 23, 3) := by decide +kernel
theorem dX4_firstQuarter_100 : decode cX4_firstQuarter 100 = .ok (.aload_n 0, 1) := by decide +kernel
theorem dX4_firstQuarter_101 : decode cX4_firstQuarter 101 = .ok (.iload_n 1, 1) := by decide +kernel
theorem dX4_firstQuarter_102 : decode cX4_firstQuarter 102 = .ok (.invokevirtual 101, 3) := by decide +kernel
theorem dX4_firstQuarter_105 : decode cX4_firstQuarter 105 = .ok (.invokevirtual 127, 3) := by decide +kernel
theorem dX4_firstQuarter_108 : decode cX4_firstQuarter 108 = .ok (.invokevirtual 123, 3) := by decide +kernel
theorem dX4_firstQuarter_111 : decode cX4_firstQuarter 111 = .ok (.iload_n 1, 1) := by decide +kernel
theorem dX4_firstQuarter_112 : decode cX4_firstQuarter 112 = .ok (.bipush 6, 2) := by decide +kernel
theorem dX4_firstQuarter_114 : decode cX4_firstQuarter 114 = .ok (.if_icmp .ne 8, 3) := by decide +kernel
theorem dX4_firstQuarter_117 : decode cX4_firstQuarter 117 = .ok (.bipush 10, 2) := by decide +kernel
theorem dX4_firstQuarter_119 : decode cX4_firstQuarter 119 = .ok (.goto 4, 3) := by decide +kernel
theorem dX4_firstQuarter_122 : decode cX4_firstQuarter 122 = .ok (.iconst 5, 1) := by decide +kernel
theorem dX4_firstQuarter_123 : decode cX4_firstQuarter 123 = .ok (.ireturn, 1) := by decide +kernel
theorem dX4_firstQuarter_124 : decode cX4_firstQuarter 124 = .ok (.aload_n 0, 1) := by decide +kernel
theorem dX4_firstQuarter_125 : decode cX4_firstQuarter 125 = .ok (.iload_n 1, 1) := by decide +kernel
theorem dX4_firstQuarter_126 : decode cX4_firstQuarter 126 = .ok (.aload_n 0, 1) := by decide +kernel
theorem dX4_firstQuarter_127 : decode cX4_firstQuarter 127 = .ok (.invokevirtual 91, 3) := by decide +kernel
theorem dX4_firstQuarter_130 : decode cX4_firstQuarter 130 = .ok (.invokevirtual 123, 3) := by decide +kernel
theorem dX4_firstQuarter_133 : decode cX4_firstQuarter 133 = .ok (.iload_n 1, 1) := by decide +kernel
theorem dX4_firstQuarter_134 : decode cX4_firstQuarter 134 = .ok (.bipush 6, 2) := by decide +kernel
theorem dX4_firstQuarter_136 : decode cX4_firstQuarter 136 = .ok (.if_icmp .ne 8, 3) := by decide +kernel
theorem dX4_firstQuarter_139 : decode cX4_firstQuarter 139 = .ok (.bipush 10, 2) := by decide +kernel
theorem dX4_firstQuarter_141 : decode cX4_firstQuarter 141 = .ok (.goto 5, 3) := by decide +kernel
theorem dX4_firstQuarter_144 : decode cX4_firstQuarter 144 = .ok (.bipush 7, 2) := by decide +kernel
theorem dX4_firstQuarter_146 : decode cX4_firstQuarter 146 = .ok (.ireturn, 1) := by decide +kernel
theorem dX4_firstQuarter_147 : decode cX4_firstQuarter 147 = .ok (.aload_n 0, 1) := by decide +kernel
theorem dX4_firstQuarter_148 : decode cX4_firstQuarter 148 = .ok (.getfield 27, 3) := by decide +kernel
theorem dX4_firstQuarter_151 : decode cX4_firstQuarter 151 = .ok (.bipush 7, 2) := by decide +kernel
theorem dX4_firstQuarter_153 : decode cX4_firstQuarter 153 = .ok (.aload_n 0, 1) := by decide +kernel
theorem dX4_firstQuarter_154 : decode cX4_firstQuarter 154 = .ok (.getfield 23, 3) := by decide +kernel
theorem dX4_firstQuarter_157 : decode cX4_firstQuarter 157 = .ok (.iload_n 1, 1) := by decide +kernel
theorem dX4_firstQuarter_158 : decode cX4_firstQuarter 158 = .ok (.aload_n 0, 1) := by decide +kernel
theorem dX4_firstQuarter_159 : decode cX4_firstQuarter 159 = .ok (.getfield 27, 3) := by decide +kernel
theorem dX4_firstQuarter_162 : decode cX4_firstQuarter 162 = .ok (.bipush 7, 2) := by decide +kernel
theorem dX4_firstQuarter_164 : decode cX4_firstQuarter 164 = .ok (.iaload, 1) := by decide +kernel
theorem dX4_firstQuarter_165 : decode cX4_firstQuarter 165 = .ok (.invokevirtual 130, 3) := by decide +kernel
theorem dX4_firstQuarter_168 : decode cX4_firstQuarter 168 = .ok (.iastore, 1) := by decide +kernel
theorem dX4_firstQuarter_169 : decode cX4_firstQuarter 169 = .ok (.iconst 4, 1) := by decide +kernel
theorem dX4_firstQuarter_170 : decode cX4_firstQuarter 170 = .ok (.ireturn, 1) := by decide +kernel
set_option maxRecDepth 20000 in
theorem ggX4_setOrAddPair_X4_nextWord : GoodIn wsX4_setOrAddPair wsX4_nextWord := goodIn_r _ [7, 8, 9, 2, 10, 11, 12, 13, 14, 15, 32, 33, 34, 35, 36, 37, 38, 39, 40, 41, 42, 43, 44, 45] (by decide +kernel) (by decide +kernel)
set_option maxRecDepth 20000 in
theorem gX4_setOrAddPair_X4_nextWord : GoodIn wsX4_setOrAddPair (wsV RX4 133 RX4 yX4_nextWord wsX4_nextWord) := goodIn_app (goodIn_of _ (by decide +kernel)) ggX4_setOrAddPair_X4_nextWord
set_option maxRecDepth 20000 in
theorem ggX4_setOrAddPair_X4_setPair : GoodIn wsX4_setOrAddPair wsX4_setPair := goodIn_r _ [19, 2, 20, 21, 32, 33, 34, 35, 36, 37, 38, 39, 40, 41, 42, 43, 44] (by decide +kernel) (by decide +kernel)
set_option maxRecDepth 20000 in
theorem gX4_setOrAddPair_X4_setPair : GoodIn wsX4_setOrAddPair (wsV RX4 136 RX4 yX4_setPair wsX4_setPair) := goodIn_app (goodIn_of _ (by decide +kernel)) ggX4_setOrAddPair_X4_setPair
set_option maxRecDepth 20000 in
theorem ggX4_setOrAddPair_X4_pair : GoodIn wsX4_setOrAddPair wsX4_pair := goodIn_r _ [25, 20, 21, 32, 33, 34, 35, 36, 37, 38, 39, 40, 41, 42, 43, 44] (by decide +kernel) (by decide +kernel)
set_option maxRecDepth 20000 in
theorem gX4_setOrAddPair_X4_pair : GoodIn wsX4_setOrAddPair (wsV RX4 139 RX4 yX4_pair wsX4_pair) := goodIn_app (goodIn_of _ (by decide +kernel)) ggX4_setOrAddPair_X4_pair
set_option maxRecDepth 20000 in
theorem ggX4_setOrAddPair_X3_setCarry : GoodIn wsX4_setOrAddPair wsX3_setCarry := goodIn_r _ [30, 31, 46, 47, 48, 49, 50] (by decide +kernel) (by decide +kernel)
set_option maxRecDepth 20000 in
theorem gX4_setOrAddPair_X3_setCarry : GoodIn wsX4_setOrAddPair (wsV RX4 142 RX3 yX3_setCarry wsX3_setCarry) := goodIn_app (goodIn_of _ (by decide +kernel)) ggX4_setOrAddPair_X3_setCarry
theorem dX4_setOrAddPair_0 : decode cX4_setOrAddPair 0 = .ok (.iload_n 1, 1) := by decide +kernel
theorem dX4_setOrAddPair_1 : decode cX4_setOrAddPair 1 = .ok (.iconst 1, 1) := by decide +kernel
theorem dX4_setOrAddPair_2 : decode cX4_setOrAddPair 2 = .ok (.ishr, 1) := by decide +kernel
theorem dX4_setOrAddPair_3 : decode cX4_setOrAddPair 3 = .ok (.istore_n 2, 1) := by decide +kernel
theorem dX4_setOrAddPair_4 : decode cX4_setOrAddPair 4 = .ok (.iload_n 1, 1) := by decide +kernel
theorem dX4_setOrAddPair_5 : decode cX4_setOrAddPair 5 = .ok (.iconst 1, 1) := by decide +kernel
theorem dX4_setOrAddPair_6 : decode cX4_setOrAddPair 6 = .ok (.iand, 1) := by decide +kernel
theorem dX4_setOrAddPair_7 : decode cX4_setOrAddPair 7 = .ok (.ifCond .ne 15, 3) := by decide +kernel
theorem dX4_setOrAddPair_10 : decode cX4_setOrAddPair 10 = .ok (.aload_n 0, 1) := by decide +kernel
theorem dX4_setOrAddPair_11 : decode cX4_setOrAddPair 11 = .ok (.iload_n 2, 1) := by decide +kernel
theorem dX4_setOrAddPair_12 : decode cX4_setOrAddPair 12 = .ok (.aload_n 0, 1) := by decide +kernel
theorem dX4_setOrAddPair_13 : decode cX4_setOrAddPair 13 = .ok (.invokevirtual 133, 3) := by decide +kernel
theorem dX4_setOrAddPair_16 : decode cX4_setOrAddPair 16 = .ok (.invokevirtual 136, 3) := by decide +kernel
theorem dX4_setOrAddPair_19 : decode cX4_setOrAddPair 19 = .ok (.goto 39, 3) := by decide +kernel
theorem dX4_setOrAddPair_22 : decode cX4_setOrAddPair 22 = .ok (.aload_n 0, 1) := by decide +kernel
theorem dX4_setOrAddPair_23 : decode cX4_setOrAddPair 23 = .ok (.iconst 2, 1) := by decide +kernel
theorem dX4_setOrAddPair_24 : decode cX4_setOrAddPair 24 = .ok (.invokevirtual 139, 3) := by decide +kernel
theorem dX4_setOrAddPair_27 : decode cX4_setOrAddPair 27 = .ok (.aload_n 0, 1) := by decide +kernel
theorem dX4_setOrAddPair_28 : decode cX4_setOrAddPair 28 = .ok (.iload_n 2, 1) := by decide +kernel
theorem dX4_setOrAddPair_29 : decode cX4_setOrAddPair 29 = .ok (.invokevirtual 139, 3) := by decide +kernel
theorem dX4_setOrAddPair_32 : decode cX4_setOrAddPair 32 = .ok (.iadd, 1) := by decide +kernel
theorem dX4_setOrAddPair_33 : decode cX4_setOrAddPair 33 = .ok (.istore_n 3, 1) := by decide +kernel
theorem dX4_setOrAddPair_34 : decode cX4_setOrAddPair 34 = .ok (.aload_n 0, 1) := by decide +kernel
theorem dX4_setOrAddPair_35 : decode cX4_setOrAddPair 35 = .ok (.getfield 12, 3) := by decide +kernel
theorem dX4_setOrAddPair_38 : decode cX4_setOrAddPair 38 = .ok (.iload_n 3, 1) := by decide +kernel
theorem dX4_setOrAddPair_39 : decode cX4_setOrAddPair 39 = .ok (.ldc 61, 2) := by decide +kernel
theorem dX4_setOrAddPair_41 : decode cX4_setOrAddPair 41 = .ok (.if_icmp .le 7, 3) := by decide +kernel
theorem dX4_setOrAddPair_44 : decode cX4_setOrAddPair 44 = .ok (.iconst 1, 1) := by decide +kernel
theorem dX4_setOrAddPair_45 : decode cX4_setOrAddPair 45 = .ok (.goto 4, 3) := by decide +kernel
theorem dX4_setOrAddPair_48 : decode cX4_setOrAddPair 48 = .ok (.iconst 0, 1) := by decide +kernel
theorem dX4_setOrAddPair_49 : decode cX4_setOrAddPair 49 = .ok (.invokevirtual 142, 3) := by decide +kernel
theorem dX4_setOrAddPair_52 : decode cX4_setOrAddPair 52 = .ok (.aload_n 0, 1) := by decide +kernel
theorem dX4_setOrAddPair_53 : decode cX4_setOrAddPair 53 = .ok (.iconst 2, 1) := by decide +kernel
theorem dX4_setOrAddPair_54 : decode cX4_setOrAddPair 54 = .ok (.iload_n 3, 1) := by decide +kernel
theorem dX4_setOrAddPair_55 : decode cX4_setOrAddPair 55 = .ok (.invokevirtual 136, 3) := by decide +kernel
theorem dX4_setOrAddPair_58 : decode cX4_setOrAddPair 58 = .ok (.bipush 10, 2) := by decide +kernel
theorem dX4_setOrAddPair_60 : decode cX4_setOrAddPair 60 = .ok (.ireturn, 1) := by decide +kernel
set_option maxRecDepth 20000 in
theorem ggX4_stepPair_X4_pair : GoodIn wsX4_stepPair wsX4_pair := goodIn_r _ [5, 6, 7, 13, 14, 15, 16, 17, 18, 19, 20, 21, 22, 23, 24, 25] (by decide +kernel) (by decide +kernel)
set_option maxRecDepth 20000 in
theorem gX4_stepPair_X4_pair : GoodIn wsX4_stepPair (wsV RX4 139 RX4 yX4_pair wsX4_pair) := goodIn_app (goodIn_of _ (by decide +kernel)) ggX4_stepPair_X4_pair
set_option maxRecDepth 20000 in
theorem ggX4_stepPair_X4_setPair : GoodIn wsX4_stepPair wsX4_setPair := goodIn_r _ [11, 12, 6, 7, 13, 14, 15, 16, 17, 18, 19, 20, 21, 22, 23, 24, 25] (by decide +kernel) (by decide +kernel)
set_option maxRecDepth 20000 in
theorem gX4_stepPair_X4_setPair : GoodIn wsX4_stepPair (wsV RX4 136 RX4 yX4_setPair wsX4_setPair) := goodIn_app (goodIn_of _ (by decide +kernel)) ggX4_stepPair_X4_setPair
theorem dX4_stepPair_0 : decode cX4_stepPair 0 = .ok (.iload_n 1, 1) := by decide +kernel
theorem dX4_stepPair_1 : decode cX4_stepPair 1 = .ok (.iconst 1, 1) := by decide +kernel
theorem dX4_stepPair_2 : decode cX4_stepPair 2 = .ok (.ishr, 1) := by decide +kernel
theorem dX4_stepPair_3 : decode cX4_stepPair 3 = .ok (.istore_n 2, 1) := by decide +kernel
theorem dX4_stepPair_4 : decode cX4_stepPair 4 = .ok (.aload_n 0, 1) := by decide +kernel
theorem dX4_stepPair_5 : decode cX4_stepPair 5 = .ok (.iload_n 2, 1) := by decide +kernel
theorem dX4_stepPair_6 : decode cX4_stepPair 6 = .ok (.iload_n 1, 1) := by decide +kernel
theorem dX4_stepPair_7 : decode cX4_stepPair 7 = .ok (.iconst 1, 1) := by decide +kernel
theorem dX4_stepPair_8 : decode cX4_stepPair 8 = .ok (.iand, 1) := by decide +kernel
theorem dX4_stepPair_9 : decode cX4_stepPair 9 = .ok (.ifCond .ne 13, 3) := by decide +kernel
theorem dX4_stepPair_12 : decode cX4_stepPair 12 = .ok (.aload_n 0, 1) := by decide +kernel
theorem dX4_stepPair_13 : decode cX4_stepPair 13 = .ok (.iload_n 2, 1) := by decide +kernel
theorem dX4_stepPair_14 : decode cX4_stepPair 14 = .ok (.invokevirtual 139, 3) := by decide +kernel
theorem dX4_stepPair_17 : decode cX4_stepPair 17 = .ok (.iconst 1, 1) := by decide +kernel
theorem dX4_stepPair_18 : decode cX4_stepPair 18 = .ok (.iadd, 1) := by decide +kernel
theorem dX4_stepPair_19 : decode cX4_stepPair 19 = .ok (.goto 10, 3) := by decide +kernel
theorem dX4_stepPair_22 : decode cX4_stepPair 22 = .ok (.aload_n 0, 1) := by decide +kernel
theorem dX4_stepPair_23 : decode cX4_stepPair 23 = .ok (.iload_n 2, 1) := by decide +kernel
theorem dX4_stepPair_24 : decode cX4_stepPair 24 = .ok (.invokevirtual 139, 3) := by decide +kernel
theorem dX4_stepPair_27 : decode cX4_stepPair 27 = .ok (.iconst 1, 1) := by decide +kernel
theorem dX4_stepPair_28 : decode cX4_stepPair 28 = .ok (.isub, 1) := by decide +kernel
theorem dX4_stepPair_29 : decode cX4_stepPair 29 = .ok (.invokevirtual 136, 3) := by decide +kernel
theorem dX4_stepPair_32 : decode cX4_stepPair 32 = .ok (.iconst 5, 1) := by decide +kernel
theorem dX4_stepPair_33 : decode cX4_stepPair 33 = .ok (.ireturn, 1) := by decide +kernel
set_option maxRecDepth 20000 in
theorem ggX4_moveByAddress_X4_pair : GoodIn wsX4_moveByAddress wsX4_pair := goodIn_r _ [7, 8, 2, 37, 38, 39, 40, 41, 42, 43, 44, 45, 46, 47, 48, 49] (by decide +kernel) (by decide +kernel)
set_option maxRecDepth 20000 in
theorem gX4_moveByAddress_X4_pair : GoodIn wsX4_moveByAddress (wsV RX4 139 RX4 yX4_pair wsX4_pair) := goodIn_app (goodIn_of _ (by decide +kernel)) ggX4_moveByAddress_X4_pair
set_option maxRecDepth 20000 in
theorem ggX4_moveByAddress_X5_setByte : GoodIn wsX4_moveByAddress wsX5_setByte := goodIn_r _ [13, 14, 50] (by decide +kernel) (by decide +kernel)
set_option maxRecDepth 20000 in
theorem gX4_moveByAddress_X5_setByte : GoodIn wsX4_moveByAddress (wsV RX4 146 RX5 yX5_setByte wsX5_setByte) := goodIn_app (goodIn_of _ (by decide +kernel)) ggX4_moveByAddress_X5_setByte
set_option maxRecDepth 20000 in
theorem ggX4_moveByAddress_X5_byteAt : GoodIn wsX4_moveByAddress wsX5_byteAt := goodIn_r _ [18, 14, 50] (by decide +kernel) (by decide +kernel)
set_option maxRecDepth 20000 in
theorem gX4_moveByAddress_X5_byteAt : GoodIn wsX4_moveByAddress (wsV RX4 151 RX5 yX5_byteAt wsX5_byteAt) := goodIn_app (goodIn_of _ (by decide +kernel)) ggX4_moveByAddress_X5_byteAt
set_option maxRecDepth 20000 in
theorem ggX4_moveByAddress_X4_nextWord : GoodIn wsX4_moveByAddress wsX4_nextWord := goodIn_r _ [22, 1, 23, 24, 25, 26, 27, 12, 28, 14, 37, 38, 39, 40, 41, 42, 43, 44, 45, 46, 47, 48, 49, 50] (by decide +kernel) (by decide +kernel)
set_option maxRecDepth 20000 in
theorem gX4_moveByAddress_X4_nextWord : GoodIn wsX4_moveByAddress (wsV RX4 133 RX4 yX4_nextWord wsX4_nextWord) := goodIn_app (goodIn_of _ (by decide +kernel)) ggX4_moveByAddress_X4_nextWord
set_option maxRecDepth 20000 in
theorem ggX4_moveByAddress_X5_setWord : GoodIn wsX4_moveByAddress wsX5_setWord := goodIn_r _ [32, 14, 50] (by decide +kernel) (by decide +kernel)
set_option maxRecDepth 20000 in
theorem gX4_moveByAddress_X5_setWord : GoodIn wsX4_moveByAddress (wsV RX4 154 RX5 yX5_setWord wsX5_setWord) := goodIn_app (goodIn_of _ (by decide +kernel)) ggX4_moveByAddress_X5_setWord
set_option maxRecDepth 20000 in
theorem ggX4_moveByAddress_X5_wordAt : GoodIn wsX4_moveByAddress wsX5_wordAt := goodIn_r _ [28, 14, 50] (by decide +kernel) (by decide +kernel)
set_option maxRecDepth 20000 in
theorem gX4_moveByAddress_X5_wordAt : GoodIn wsX4_moveByAddress (wsV RX4 157 RX5 yX5_wordAt wsX5_wordAt) := goodIn_app (goodIn_of _ (by decide +kernel)) ggX4_moveByAddress_X5_wordAt
set_option maxRecDepth 20000 in
theorem ggX4_moveByAddress_X4_setPair : GoodIn wsX4_moveByAddress wsX4_setPair := goodIn_r _ [36, 24, 8, 2, 37, 38, 39, 40, 41, 42, 43, 44, 45, 46, 47, 48, 49] (by decide +kernel) (by decide +kernel)
set_option maxRecDepth 20000 in
theorem gX4_moveByAddress_X4_setPair : GoodIn wsX4_moveByAddress (wsV RX4 136 RX4 yX4_setPair wsX4_setPair) := goodIn_app (goodIn_of _ (by decide +kernel)) ggX4_moveByAddress_X4_setPair
theorem dX4_moveByAddress_0 : decode cX4_moveByAddress 0 = .ok (.iload_n 1, 1) := by decide +kernel
theorem dX4_moveByAddress_1 : decode cX4_moveByAddress 1 = .ok (.tableswitch 150 0 6 #[43, 67, 43, 67, 91, 110, 129], 43) := by decide +kernel
theorem dX4_moveByAddress_44 : decode cX4_moveByAddress 44 = .ok (.aload_n 0, 1) := by decide +kernel
theorem dX4_moveByAddress_45 : decode cX4_moveByAddress 45 = .ok (.getfield 35, 3) := by decide +kernel
theorem dX4_moveByAddress_48 : decode cX4_moveByAddress 48 = .ok (.aload_n 0, 1) := by decide +kernel
theorem dX4_moveByAddress_49 : decode cX4_moveByAddress 49 = .ok (.iload_n 1, 1) := by decide +kernel
theorem dX4_moveByAddress_50 : decode cX4_moveByAddress 50 = .ok (.iconst 1, 1) := by decide +kernel
theorem dX4_moveByAddress_51 : decode cX4_moveByAddress 51 = .ok (.ishr, 1) := by decide +kernel
theorem dX4_moveByAddress_52 : decode cX4_moveByAddress 52 = .ok (.invokevirtual 139, 3) := by decide +kernel
theorem dX4_moveByAddress_55 : decode cX4_moveByAddress 55 = .ok (.aload_n 0, 1) := by decide +kernel
theorem dX4_moveByAddress_56 : decode cX4_moveByAddress 56 = .ok (.getfield 27, 3) := by decide +kernel
theorem dX4_moveByAddress_59 : decode cX4_moveByAddress 59 = .ok (.bipush 7, 2) := by decide +kernel
theorem dX4_moveByAddress_61 : decode cX4_moveByAddress 61 = .ok (.iaload, 1) := by decide +kernel
theorem dX4_moveByAddress_62 : decode cX4_moveByAddress 62 = .ok (.invokevirtual 146, 3) := by decide +kernel
theorem dX4_moveByAddress_65 : decode cX4_moveByAddress 65 = .ok (.bipush 7, 2) := by decide +kernel
theorem dX4_moveByAddress_67 : decode cX4_moveByAddress 67 = .ok (.ireturn, 1) := by decide +kernel
theorem dX4_moveByAddress_68 : decode cX4_moveByAddress 68 = .ok (.aload_n 0, 1) := by decide +kernel
theorem dX4_moveByAddress_69 : decode cX4_moveByAddress 69 = .ok (.getfield 27, 3) := by decide +kernel
theorem dX4_moveByAddress_72 : decode cX4_moveByAddress 72 = .ok (.bipush 7, 2) := by decide +kernel
theorem dX4_moveByAddress_74 : decode cX4_moveByAddress 74 = .ok (.aload_n 0, 1) := by decide +kernel
theorem dX4_moveByAddress_75 : decode cX4_moveByAddress 75 = .ok (.getfield 35, 3) := by decide +kernel
theorem dX4_moveByAddress_78 : decode cX4_moveByAddress 78 = .ok (.aload_n 0, 1) := by decide +kernel
theorem dX4_moveByAddress_79 : decode cX4_moveByAddress 79 = .ok (.iload_n 1, 1) := by decide +kernel
theorem dX4_moveByAddress_80 : decode cX4_moveByAddress 80 = .ok (.iconst 1, 1) := by decide +kernel
theorem dX4_moveByAddress_81 : decode cX4_moveByAddress 81 = .ok (.ishr, 1) := by decide +kernel
theorem dX4_moveByAddress_82 : decode cX4_moveByAddress 82 = .ok (.invokevirtual 139, 3) := by decide +kernel
theorem dX4_moveByAddress_85 : decode cX4_moveByAddress 85 = .ok (.invokevirtual 151, 3) := by decide +kernel
theorem dX4_moveByAddress_88 : decode cX4_moveByAddress 88 = .ok (.iastore, 1) := by decide +kernel
theorem dX4_moveByAddress_89 : decode cX4_moveByAddress 89 = .ok (.bipush 7, 2) := by decide +kernel
theorem dX4_moveByAddress_91 : decode cX4_moveByAddress 91 = .ok (.ireturn, 1) := by decide +kernel
theorem dX4_moveByAddress_92 : decode cX4_moveByAddress 92 = .ok (.aload_n 0, 1) := by decide +kernel
theorem dX4_moveByAddress_93 : decode cX4_moveByAddress 93 = .ok (.getfield 35, 3) := by decide +kernel
theorem dX4_moveByAddress_96 : decode cX4_moveByAddress 96 = .ok (.aload_n 0, 1) := by decide +kernel
theorem dX4_moveByAddress_97 : decode cX4_moveByAddress 97 = .ok (.invokevirtual 133, 3) := by decide +kernel
theorem dX4_moveByAddress_100 : decode cX4_moveByAddress 100 = .ok (.aload_n 0, 1) := by decide +kernel
theorem dX4_moveByAddress_101 : decode cX4_moveByAddress 101 = .ok (.iconst 2, 1) := by decide +kernel
theorem dX4_moveByAddress_102 : decode cX4_moveByAddress 102 = .ok (.invokevirtual 139, 3) := by decide +kernel
theorem dX4_moveByAddress_105 : decode cX4_moveByAddress 105 = .ok (.invokevirtual 154, 3) := by decide +kernel
theorem dX4_moveByAddress_108 : decode cX4_moveByAddress 108 = .ok (.bipush 16, 2) := by decide +kernel
theorem dX4_moveByAddress_110 : decode cX4_moveByAddress 110 = .ok (.ireturn, 1) := by decide +kernel
theorem dX4_moveByAddress_111 : decode cX4_moveByAddress 111 = .ok (.aload_n 0, 1) := by decide +kernel
theorem dX4_moveByAddress_112 : decode cX4_moveByAddress 112 = .ok (.iconst 2, 1) := by decide +kernel
theorem dX4_moveByAddress_113 : decode cX4_moveByAddress 113 = .ok (.aload_n 0, 1) := by decide +kernel
theorem dX4_moveByAddress_114 : decode cX4_moveByAddress 114 = .ok (.getfield 35, 3) := by decide +kernel
theorem dX4_moveByAddress_117 : decode cX4_moveByAddress 117 = .ok (.aload_n 0, 1) := by decide +kernel
theorem dX4_moveByAddress_118 : decode cX4_moveByAddress 118 = .ok (.invokevirtual 133, 3) := by decide +kernel
theorem dX4_moveByAddress_121 : decode cX4_moveByAddress 121 = .ok (.invokevirtual 157, 3) := by decide +kernel
theorem dX4_moveByAddress_124 : decode cX4_moveByAddress 124 = .ok (.invokevirtual 136, 3) := by decide +kernel
theorem dX4_moveByAddress_127 : decode cX4_moveByAddress 127 = .ok (.bipush 16, 2) := by decide +kernel
theorem dX4_moveByAddress_129 : decode cX4_moveByAddress 129 = .ok (.ireturn, 1) := by decide +kernel
theorem dX4_moveByAddress_130 : decode cX4_moveByAddress 130 = .ok (.aload_n 0, 1) := by decide +kernel
theorem dX4_moveByAddress_131 : decode cX4_moveByAddress 131 = .ok (.getfield 35, 3) := by decide +kernel
theorem dX4_moveByAddress_134 : decode cX4_moveByAddress 134 = .ok (.aload_n 0, 1) := by decide +kernel
theorem dX4_moveByAddress_135 : decode cX4_moveByAddress 135 = .ok (.invokevirtual 133, 3) := by decide +kernel
theorem dX4_moveByAddress_138 : decode cX4_moveByAddress 138 = .ok (.aload_n 0, 1) := by decide +kernel
theorem dX4_moveByAddress_139 : decode cX4_moveByAddress 139 = .ok (.getfield 27, 3) := by decide +kernel
theorem dX4_moveByAddress_142 : decode cX4_moveByAddress 142 = .ok (.bipush 7, 2) := by decide +kernel
theorem dX4_moveByAddress_144 : decode cX4_moveByAddress 144 = .ok (.iaload, 1) := by decide +kernel
theorem dX4_moveByAddress_145 : decode cX4_moveByAddress 145 = .ok (.invokevirtual 146, 3) := by decide +kernel
theorem dX4_moveByAddress_148 : decode cX4_moveByAddress 148 = .ok (.bipush 13, 2) := by decide +kernel
theorem dX4_moveByAddress_150 : decode cX4_moveByAddress 150 = .ok (.ireturn, 1) := by decide +kernel
theorem dX4_moveByAddress_151 : decode cX4_moveByAddress 151 = .ok (.aload_n 0, 1) := by decide +kernel
theorem dX4_moveByAddress_152 : decode cX4_moveByAddress 152 = .ok (.getfield 27, 3) := by decide +kernel
theorem dX4_moveByAddress_155 : decode cX4_moveByAddress 155 = .ok (.bipush 7, 2) := by decide +kernel
theorem dX4_moveByAddress_157 : decode cX4_moveByAddress 157 = .ok (.aload_n 0, 1) := by decide +kernel
theorem dX4_moveByAddress_158 : decode cX4_moveByAddress 158 = .ok (.getfield 35, 3) := by decide +kernel
theorem dX4_moveByAddress_161 : decode cX4_moveByAddress 161 = .ok (.aload_n 0, 1) := by decide +kernel
theorem dX4_moveByAddress_162 : decode cX4_moveByAddress 162 = .ok (.invokevirtual 133, 3) := by decide +kernel
theorem dX4_moveByAddress_165 : decode cX4_moveByAddress 165 = .ok (.invokevirtual 151, 3) := by decide +kernel
theorem dX4_moveByAddress_168 : decode cX4_moveByAddress 168 = .ok (.iastore, 1) := by decide +kernel
theorem dX4_moveByAddress_169 : decode cX4_moveByAddress 169 = .ok (.bipush 13, 2) := by decide +kernel
theorem dX4_moveByAddress_171 : decode cX4_moveByAddress 171 = .ok (.ireturn, 1) := by decide +kernel
set_option maxRecDepth 20000 in
theorem ggX4_transfer_X4_value : GoodIn wsX4_transfer wsX4_value := goodIn_r _ [6, 7, 8, 9, 10, 11, 5, 12, 13, 14, 15, 16, 17, 18, 19, 28, 29, 30, 31, 32, 33, 34, 35, 36, 37, 38, 39, 40, 41] (by decide +kernel) (by decide +kernel)
set_option maxRecDepth 20000 in
theorem gX4_transfer_X4_value : GoodIn wsX4_transfer (wsV RX4 101 RX4 yX4_value wsX4_value) := goodIn_app (goodIn_of _ (by decide +kernel)) ggX4_transfer_X4_value
set_option maxRecDepth 20000 in
theorem ggX4_transfer_X4_setValue : GoodIn wsX4_transfer wsX4_setValue := goodIn_r _ [23, 7, 8, 9, 10, 11, 5, 12, 13, 24, 25, 26, 17, 27, 19, 28, 29, 30, 31, 32, 33, 34, 35, 36, 37, 38, 39, 40, 41] (by decide +kernel) (by decide +kernel)
set_option maxRecDepth 20000 in
theorem gX4_transfer_X4_setValue : GoodIn wsX4_transfer (wsV RX4 123 RX4 yX4_setValue wsX4_setValue) := goodIn_app (goodIn_of _ (by decide +kernel)) ggX4_transfer_X4_setValue
theorem dX4_transfer_0 : decode cX4_transfer 0 = .ok (.iload_n 1, 1) := by decide +kernel
theorem dX4_transfer_1 : decode cX4_transfer 1 = .ok (.bipush 6, 2) := by decide +kernel
theorem dX4_transfer_3 : decode cX4_transfer 3 = .ok (.if_icmp .ne 17, 3) := by decide +kernel
theorem dX4_transfer_6 : decode cX4_transfer 6 = .ok (.iload_n 2, 1) := by decide +kernel
theorem dX4_transfer_7 : decode cX4_transfer 7 = .ok (.bipush 6, 2) := by decide +kernel
theorem dX4_transfer_9 : decode cX4_transfer 9 = .ok (.if_icmp .ne 11, 3) := by decide +kernel
theorem dX4_transfer_12 : decode cX4_transfer 12 = .ok (.aload_n 0, 1) := by decide +kernel
theorem dX4_transfer_13 : decode cX4_transfer 13 = .ok (.iconst 1, 1) := by decide +kernel
theorem dX4_transfer_14 : decode cX4_transfer 14 = .ok (.putfield 62, 3) := by decide +kernel
theorem dX4_transfer_17 : decode cX4_transfer 17 = .ok (.bipush 7, 2) := by decide +kernel
theorem dX4_transfer_19 : decode cX4_transfer 19 = .ok (.ireturn, 1) := by decide +kernel
theorem dX4_transfer_20 : decode cX4_transfer 20 = .ok (.aload_n 0, 1) := by decide +kernel
theorem dX4_transfer_21 : decode cX4_transfer 21 = .ok (.iload_n 1, 1) := by decide +kernel
theorem dX4_transfer_22 : decode cX4_transfer 22 = .ok (.aload_n 0, 1) := by decide +kernel
end
section
theorem dX4_transfer_23 : decode cX4_transfer 23 = .ok (.iload_n 2, 1) := by decide +kernel
theorem dX4_transfer_24 : decode cX4_transfer 24 = .ok (.invokevirtual 101, 3) := by decide +kernel
theorem dX4_transfer_27 : decode cX4_transfer 27 = .ok (.invokevirtual 123, 3) := by decide +kernel
theorem dX4_transfer_30 : decode cX4_transfer 30 = .ok (.iload_n 1, 1) := by decide +kernel
theorem dX4_transfer_31 : decode cX4_transfer 31 = .ok (.bipush 6, 2) := by decide +kernel
theorem dX4_transfer_33 : decode cX4_transfer 33 = .ok (.if_icmp .eq 9, 3) := by decide +kernel
theorem dX4_transfer_36 : decode cX4_transfer 36 = .ok (.iload_n 2, 1) := by decide +kernel
theorem dX4_transfer_37 : decode cX4_transfer 37 = .ok (.bipush 6, 2) := by decide +kernel
theorem dX4_transfer_39 : decode cX4_transfer 39 = .ok (.if_icmp .ne 8, 3) := by decide +kernel
theorem dX4_transfer_42 : decode cX4_transfer 42 = .ok (.bipush 7, 2) := by decide +kernel
theorem dX4_transfer_44 : decode cX4_transfer 44 = .ok (.goto 4, 3) := by decide +kernel
theorem dX4_transfer_47 : decode cX4_transfer 47 = .ok (.iconst 5, 1) := by decide +kernel
theorem dX4_transfer_48 : decode cX4_transfer 48 = .ok (.ireturn, 1) := by decide +kernel
set_option maxRecDepth 20000 in
theorem ggX4_lastQuarter_X4_returnIf : GoodIn wsX4_lastQuarter wsX4_returnIf := goodIn_r _ [9, 1, 4, 10, 11, 12, 13, 14, 15, 16, 17, 18, 19, 20, 21, 8, 22, 23, 24, 25, 26, 27, 28, 29, 30, 31, 211, 212, 213, 214, 215, 216, 217, 218, 219, 220, 221, 222, 223, 224, 225, 226, 227, 228, 229] (by decide +kernel) (by decide +kernel)
set_option maxRecDepth 20000 in
theorem gX4_lastQuarter_X4_returnIf : GoodIn wsX4_lastQuarter (wsV RX4 160 RX4 yX4_returnIf wsX4_returnIf) := goodIn_app (goodIn_of _ (by decide +kernel)) ggX4_lastQuarter_X4_returnIf
set_option maxRecDepth 20000 in
theorem ggX4_lastQuarter_X4_popOrReturn : GoodIn wsX4_lastQuarter wsX4_popOrReturn := goodIn_r _ [35, 4, 24, 19, 20, 21, 8, 22, 23, 25, 26, 27, 28, 29, 30, 31, 36, 37, 38, 39, 2, 40, 41, 42, 43, 1, 44, 45, 46, 13, 47, 18, 15, 48, 17, 16, 49, 50, 51, 52, 211, 212, 213, 214, 215, 216, 217, 218, 219, 220, 221, 222, 223, 229, 224, 225, 226, 227, 228] (by decide +kernel) (by decide +kernel)
set_option maxRecDepth 20000 in
theorem gX4_lastQuarter_X4_popOrReturn : GoodIn wsX4_lastQuarter (wsV RX4 163 RX4 yX4_popOrReturn wsX4_popOrReturn) := goodIn_app (goodIn_of _ (by decide +kernel)) ggX4_lastQuarter_X4_popOrReturn
set_option maxRecDepth 20000 in
theorem ggX4_lastQuarter_X3_holds : GoodIn wsX4_lastQuarter wsX3_holds := goodIn_r _ [14, 15, 16, 17, 18, 224, 225, 226, 227, 228] (by decide +kernel) (by decide +kernel)
set_option maxRecDepth 20000 in
theorem gX4_lastQuarter_X3_holds : GoodIn wsX4_lastQuarter (wsV RX4 166 RX3 yX3_holds wsX3_holds) := goodIn_app (goodIn_of _ (by decide +kernel)) ggX4_lastQuarter_X3_holds
set_option maxRecDepth 20000 in
theorem ggX4_lastQuarter_X4_jumpIf : GoodIn wsX4_lastQuarter wsX4_jumpIf := goodIn_r _ [56, 4, 57, 58, 59, 8, 60, 23, 25, 26, 27, 28, 29, 30, 31, 211, 212, 213, 214, 215, 216, 217, 218, 219, 220, 221, 222, 223, 229] (by decide +kernel) (by decide +kernel)
set_option maxRecDepth 20000 in
theorem gX4_lastQuarter_X4_jumpIf : GoodIn wsX4_lastQuarter (wsV RX4 170 RX4 yX4_jumpIf wsX4_jumpIf) := goodIn_app (goodIn_of _ (by decide +kernel)) ggX4_lastQuarter_X4_jumpIf
set_option maxRecDepth 20000 in
theorem ggX4_lastQuarter_X4_portOrExchange : GoodIn wsX4_lastQuarter wsX4_portOrExchange := goodIn_r _ [64, 2, 65, 66, 67, 68, 69, 8, 70, 23, 4, 25, 71, 72, 73, 29, 74, 31, 75, 76, 77, 78, 79, 80, 81, 82, 83, 84, 85, 86, 87, 88, 89, 90, 91, 92, 93, 94, 95, 96, 97, 98, 99, 100, 101, 102, 103, 104, 105, 106, 107, 108, 109, 110, 111, 112, 113, 114, 115, 116, 117, 118, 119, 120, 121, 122, 123, 124, 125, 126, 127, 128, 129, 130, 131, 132, 133, 134, 135, 136, 137, 138, 139, 140, 141, 142, 143, 144, 145, 24, 26, 27, 28, 30, 36, 37, 38, 39, 146, 147, 148, 149, 49, 50, 51, 52, 150, 151, 152, 153, 211, 212, 213, 214, 215, 216, 217, 218, 219, 220, 221, 222, 223, 229, 230, 231, 232, 233, 234, 235, 236, 237, 238, 239, 240, 241, 242, 243, 244, 245] (by decide +kernel) (by decide +kernel)
set_option maxRecDepth 20000 in
theorem gX4_lastQuarter_X4_portOrExchange : GoodIn wsX4_lastQuarter (wsV RX4 174 RX4 yX4_portOrExchange wsX4_portOrExchange) := goodIn_app (goodIn_of _ (by decide +kernel)) ggX4_lastQuarter_X4_portOrExchange
set_option maxRecDepth 20000 in
theorem ggX4_lastQuarter_X4_callIf : GoodIn wsX4_lastQuarter wsX4_callIf := goodIn_r _ [157, 4, 57, 58, 59, 8, 60, 23, 25, 26, 27, 28, 29, 30, 31, 158, 159, 160, 161, 24, 146, 147, 148, 149, 211, 212, 213, 214, 215, 216, 217, 218, 219, 220, 221, 222, 223, 229] (by decide +kernel) (by decide +kernel)
set_option maxRecDepth 20000 in
theorem gX4_lastQuarter_X4_callIf : GoodIn wsX4_lastQuarter (wsV RX4 177 RX4 yX4_callIf wsX4_callIf) := goodIn_app (goodIn_of _ (by decide +kernel)) ggX4_lastQuarter_X4_callIf
set_option maxRecDepth 20000 in
theorem ggX4_lastQuarter_X4_pushPair : GoodIn wsX4_lastQuarter wsX4_pushPair := goodIn_r _ [165, 2, 1, 166, 167, 168, 13, 169, 18, 15, 48, 17, 16, 36, 37, 38, 8, 39, 24, 158, 159, 160, 161, 25, 23, 146, 147, 148, 29, 149, 31, 211, 212, 213, 214, 215, 216, 217, 218, 219, 220, 221, 222, 223, 224, 225, 226, 227, 228, 229] (by decide +kernel) (by decide +kernel)
set_option maxRecDepth 20000 in
theorem gX4_lastQuarter_X4_pushPair : GoodIn wsX4_lastQuarter (wsV RX4 180 RX4 yX4_pushPair wsX4_pushPair) := goodIn_app (goodIn_of _ (by decide +kernel)) ggX4_lastQuarter_X4_pushPair
set_option maxRecDepth 20000 in
theorem ggX4_lastQuarter_X4_nextByte : GoodIn wsX4_lastQuarter wsX4_nextByte := goodIn_r _ [70, 23, 4, 25, 71, 72, 73, 29, 74, 31, 211, 212, 213, 214, 215, 216, 217, 218, 219, 220, 221, 222, 223, 229] (by decide +kernel) (by decide +kernel)
set_option maxRecDepth 20000 in
theorem gX4_lastQuarter_X4_nextByte : GoodIn wsX4_lastQuarter (wsV RX4 91 RX4 yX4_nextByte wsX4_nextByte) := goodIn_app (goodIn_of _ (by decide +kernel)) ggX4_lastQuarter_X4_nextByte
set_option maxRecDepth 20000 in
theorem ggX4_lastQuarter_X0_combine : GoodIn wsX4_lastQuarter wsX0_combine := goodIn_r _ [174, 175, 176, 177, 178, 173, 179, 180, 181, 182, 13, 183, 16, 184, 185, 186, 187, 48, 188, 189, 190, 191, 18, 15, 17, 192, 193, 194, 195, 196, 197, 198, 199, 200, 201, 202, 203, 204, 205, 206, 207, 208, 209, 210, 246, 224, 225, 226, 227, 228] (by decide +kernel) (by decide +kernel)
set_option maxRecDepth 20000 in
theorem gX4_lastQuarter_X0_combine : GoodIn wsX4_lastQuarter (wsV RX4 104 RX0 yX0_combine wsX0_combine) := goodIn_app (goodIn_of _ (by decide +kernel)) ggX4_lastQuarter_X0_combine
set_option maxRecDepth 20000 in
theorem ggX4_lastQuarter_X4_push : GoodIn wsX4_lastQuarter wsX4_push := goodIn_r _ [161, 24, 25, 23, 146, 147, 148, 29, 149, 31, 211, 212, 213, 214, 215, 216, 217, 218, 219, 220, 221, 222, 223, 229] (by decide +kernel) (by decide +kernel)
set_option maxRecDepth 20000 in
theorem gX4_lastQuarter_X4_push : GoodIn wsX4_lastQuarter (wsV RX4 88 RX4 yX4_push wsX4_push) := goodIn_app (goodIn_of _ (by decide +kernel)) ggX4_lastQuarter_X4_push
theorem dX4_lastQuarter_0 : decode cX4_lastQuarter 0 = .ok (.iload_n 2, 1) := by decide +kernel
theorem dX4_lastQuarter_1 : decode cX4_lastQuarter 1 = .ok (.tableswitch 149 0 6 #[43, 49, 55, 68, 87, 100, 120], 43) := by decide +kernel
theorem dX4_lastQuarter_44 : decode cX4_lastQuarter 44 = .ok (.aload_n 0, 1) := by decide +kernel
theorem dX4_lastQuarter_45 : decode cX4_lastQuarter 45 = .ok (.iload_n 1, 1) := by decide +kernel
theorem dX4_lastQuarter_46 : decode cX4_lastQuarter 46 = .ok (.invokevirtual 160, 3) := by decide +kernel
theorem dX4_lastQuarter_49 : decode cX4_lastQuarter 49 = .ok (.ireturn, 1) := by decide +kernel
theorem dX4_lastQuarter_50 : decode cX4_lastQuarter 50 = .ok (.aload_n 0, 1) := by decide +kernel
theorem dX4_lastQuarter_51 : decode cX4_lastQuarter 51 = .ok (.iload_n 1, 1) := by decide +kernel
theorem dX4_lastQuarter_52 : decode cX4_lastQuarter 52 = .ok (.invokevirtual 163, 3) := by decide +kernel
theorem dX4_lastQuarter_55 : decode cX4_lastQuarter 55 = .ok (.ireturn, 1) := by decide +kernel
theorem dX4_lastQuarter_56 : decode cX4_lastQuarter 56 = .ok (.aload_n 0, 1) := by decide +kernel
theorem dX4_lastQuarter_57 : decode cX4_lastQuarter 57 = .ok (.aload_n 0, 1) := by decide +kernel
theorem dX4_lastQuarter_58 : decode cX4_lastQuarter 58 = .ok (.getfield 12, 3) := by decide +kernel
theorem dX4_lastQuarter_61 : decode cX4_lastQuarter 61 = .ok (.iload_n 1, 1) := by decide +kernel
theorem dX4_lastQuarter_62 : decode cX4_lastQuarter 62 = .ok (.invokevirtual 166, 3) := by decide +kernel
theorem dX4_lastQuarter_65 : decode cX4_lastQuarter 65 = .ok (.invokevirtual 170, 3) := by decide +kernel
theorem dX4_lastQuarter_68 : decode cX4_lastQuarter 68 = .ok (.ireturn, 1) := by decide +kernel
theorem dX4_lastQuarter_69 : decode cX4_lastQuarter 69 = .ok (.iload_n 1, 1) := by decide +kernel
theorem dX4_lastQuarter_70 : decode cX4_lastQuarter 70 = .ok (.iconst 2, 1) := by decide +kernel
theorem dX4_lastQuarter_71 : decode cX4_lastQuarter 71 = .ok (.if_icmp .ge 11, 3) := by decide +kernel
theorem dX4_lastQuarter_74 : decode cX4_lastQuarter 74 = .ok (.aload_n 0, 1) := by decide +kernel
theorem dX4_lastQuarter_75 : decode cX4_lastQuarter 75 = .ok (.iconst 1, 1) := by decide +kernel
theorem dX4_lastQuarter_76 : decode cX4_lastQuarter 76 = .ok (.invokevirtual 170, 3) := by decide +kernel
theorem dX4_lastQuarter_79 : decode cX4_lastQuarter 79 = .ok (.goto 8, 3) := by decide +kernel
theorem dX4_lastQuarter_82 : decode cX4_lastQuarter 82 = .ok (.aload_n 0, 1) := by decide +kernel
theorem dX4_lastQuarter_83 : decode cX4_lastQuarter 83 = .ok (.iload_n 1, 1) := by decide +kernel
theorem dX4_lastQuarter_84 : decode cX4_lastQuarter 84 = .ok (.invokevirtual 174, 3) := by decide +kernel
theorem dX4_lastQuarter_87 : decode cX4_lastQuarter 87 = .ok (.ireturn, 1) := by decide +kernel
theorem dX4_lastQuarter_88 : decode cX4_lastQuarter 88 = .ok (.aload_n 0, 1) := by decide +kernel
theorem dX4_lastQuarter_89 : decode cX4_lastQuarter 89 = .ok (.aload_n 0, 1) := by decide +kernel
theorem dX4_lastQuarter_90 : decode cX4_lastQuarter 90 = .ok (.getfield 12, 3) := by decide +kernel
theorem dX4_lastQuarter_93 : decode cX4_lastQuarter 93 = .ok (.iload_n 1, 1) := by decide +kernel
theorem dX4_lastQuarter_94 : decode cX4_lastQuarter 94 = .ok (.invokevirtual 166, 3) := by decide +kernel
theorem dX4_lastQuarter_97 : decode cX4_lastQuarter 97 = .ok (.invokevirtual 177, 3) := by decide +kernel
theorem dX4_lastQuarter_100 : decode cX4_lastQuarter 100 = .ok (.ireturn, 1) := by decide +kernel
theorem dX4_lastQuarter_101 : decode cX4_lastQuarter 101 = .ok (.iload_n 1, 1) := by decide +kernel
theorem dX4_lastQuarter_102 : decode cX4_lastQuarter 102 = .ok (.iconst 1, 1) := by decide +kernel
theorem dX4_lastQuarter_103 : decode cX4_lastQuarter 103 = .ok (.iand, 1) := by decide +kernel
theorem dX4_lastQuarter_104 : decode cX4_lastQuarter 104 = .ok (.ifCond .ne 11, 3) := by decide +kernel
theorem dX4_lastQuarter_107 : decode cX4_lastQuarter 107 = .ok (.aload_n 0, 1) := by decide +kernel
theorem dX4_lastQuarter_108 : decode cX4_lastQuarter 108 = .ok (.iload_n 1, 1) := by decide +kernel
theorem dX4_lastQuarter_109 : decode cX4_lastQuarter 109 = .ok (.invokevirtual 180, 3) := by decide +kernel
theorem dX4_lastQuarter_112 : decode cX4_lastQuarter 112 = .ok (.goto 8, 3) := by decide +kernel
theorem dX4_lastQuarter_115 : decode cX4_lastQuarter 115 = .ok (.aload_n 0, 1) := by decide +kernel
theorem dX4_lastQuarter_116 : decode cX4_lastQuarter 116 = .ok (.iconst 1, 1) := by decide +kernel
theorem dX4_lastQuarter_117 : decode cX4_lastQuarter 117 = .ok (.invokevirtual 177, 3) := by decide +kernel
theorem dX4_lastQuarter_120 : decode cX4_lastQuarter 120 = .ok (.ireturn, 1) := by decide +kernel
theorem dX4_lastQuarter_121 : decode cX4_lastQuarter 121 = .ok (.aload_n 0, 1) := by decide +kernel
theorem dX4_lastQuarter_122 : decode cX4_lastQuarter 122 = .ok (.getfield 27, 3) := by decide +kernel
theorem dX4_lastQuarter_125 : decode cX4_lastQuarter 125 = .ok (.bipush 7, 2) := by decide +kernel
theorem dX4_lastQuarter_127 : decode cX4_lastQuarter 127 = .ok (.aload_n 0, 1) := by decide +kernel
theorem dX4_lastQuarter_128 : decode cX4_lastQuarter 128 = .ok (.getfield 23, 3) := by decide +kernel
theorem dX4_lastQuarter_131 : decode cX4_lastQuarter 131 = .ok (.iload_n 1, 1) := by decide +kernel
theorem dX4_lastQuarter_132 : decode cX4_lastQuarter 132 = .ok (.aload_n 0, 1) := by decide +kernel
theorem dX4_lastQuarter_133 : decode cX4_lastQuarter 133 = .ok (.getfield 27, 3) := by decide +kernel
theorem dX4_lastQuarter_136 : decode cX4_lastQuarter 136 = .ok (.bipush 7, 2) := by decide +kernel
theorem dX4_lastQuarter_138 : decode cX4_lastQuarter 138 = .ok (.iaload, 1) := by decide +kernel
theorem dX4_lastQuarter_139 : decode cX4_lastQuarter 139 = .ok (.aload_n 0, 1) := by decide +kernel
theorem dX4_lastQuarter_140 : decode cX4_lastQuarter 140 = .ok (.invokevirtual 91, 3) := by decide +kernel
theorem dX4_lastQuarter_143 : decode cX4_lastQuarter 143 = .ok (.invokevirtual 104, 3) := by decide +kernel
theorem dX4_lastQuarter_146 : decode cX4_lastQuarter 146 = .ok (.iastore, 1) := by decide +kernel
theorem dX4_lastQuarter_147 : decode cX4_lastQuarter 147 = .ok (.bipush 7, 2) := by decide +kernel
theorem dX4_lastQuarter_149 : decode cX4_lastQuarter 149 = .ok (.ireturn, 1) := by decide +kernel
theorem dX4_lastQuarter_150 : decode cX4_lastQuarter 150 = .ok (.aload_n 0, 1) := by decide +kernel
theorem dX4_lastQuarter_151 : decode cX4_lastQuarter 151 = .ok (.aload_n 0, 1) := by decide +kernel
theorem dX4_lastQuarter_152 : decode cX4_lastQuarter 152 = .ok (.getfield 51, 3) := by decide +kernel
theorem dX4_lastQuarter_155 : decode cX4_lastQuarter 155 = .ok (.invokevirtual 88, 3) := by decide +kernel
theorem dX4_lastQuarter_158 : decode cX4_lastQuarter 158 = .ok (.aload_n 0, 1) := by decide +kernel
theorem dX4_lastQuarter_159 : decode cX4_lastQuarter 159 = .ok (.bipush 8, 2) := by decide +kernel
theorem dX4_lastQuarter_161 : decode cX4_lastQuarter 161 = .ok (.iload_n 1, 1) := by decide +kernel
theorem dX4_lastQuarter_162 : decode cX4_lastQuarter 162 = .ok (.imul, 1) := by decide +kernel
theorem dX4_lastQuarter_163 : decode cX4_lastQuarter 163 = .ok (.putfield 51, 3) := by decide +kernel
theorem dX4_lastQuarter_166 : decode cX4_lastQuarter 166 = .ok (.bipush 11, 2) := by decide +kernel
theorem dX4_lastQuarter_168 : decode cX4_lastQuarter 168 = .ok (.ireturn, 1) := by decide +kernel
set_option maxRecDepth 20000 in
theorem ggX4_returnIf_X3_holds : GoodIn wsX4_returnIf wsX3_holds := goodIn_r _ [7, 8, 9, 10, 11, 39, 40, 41, 42, 43] (by decide +kernel) (by decide +kernel)
set_option maxRecDepth 20000 in
theorem gX4_returnIf_X3_holds : GoodIn wsX4_returnIf (wsV RX4 166 RX3 yX3_holds wsX3_holds) := goodIn_app (goodIn_of _ (by decide +kernel)) ggX4_returnIf_X3_holds
set_option maxRecDepth 20000 in
theorem ggX4_returnIf_X4_pop : GoodIn wsX4_returnIf wsX4_pop := goodIn_r _ [16, 17, 18, 19, 20, 21, 22, 23, 24, 25, 26, 27, 28, 29, 30, 31, 32, 33, 34, 35, 36, 37, 38, 44] (by decide +kernel) (by decide +kernel)
set_option maxRecDepth 20000 in
theorem gX4_returnIf_X4_pop : GoodIn wsX4_returnIf (wsV RX4 183 RX4 yX4_pop wsX4_pop) := goodIn_app (goodIn_of _ (by decide +kernel)) ggX4_returnIf_X4_pop
theorem dX4_returnIf_0 : decode cX4_returnIf 0 = .ok (.aload_n 0, 1) := by decide +kernel
theorem dX4_returnIf_1 : decode cX4_returnIf 1 = .ok (.getfield 12, 3) := by decide +kernel
theorem dX4_returnIf_4 : decode cX4_returnIf 4 = .ok (.iload_n 1, 1) := by decide +kernel
theorem dX4_returnIf_5 : decode cX4_returnIf 5 = .ok (.invokevirtual 166, 3) := by decide +kernel
theorem dX4_returnIf_8 : decode cX4_returnIf 8 = .ok (.ifCond .ne 5, 3) := by decide +kernel
theorem dX4_returnIf_11 : decode cX4_returnIf 11 = .ok (.iconst 5, 1) := by decide +kernel
theorem dX4_returnIf_12 : decode cX4_returnIf 12 = .ok (.ireturn, 1) := by decide +kernel
theorem dX4_returnIf_13 : decode cX4_returnIf 13 = .ok (.aload_n 0, 1) := by decide +kernel
theorem dX4_returnIf_14 : decode cX4_returnIf 14 = .ok (.aload_n 0, 1) := by decide +kernel
theorem dX4_returnIf_15 : decode cX4_returnIf 15 = .ok (.invokevirtual 183, 3) := by decide +kernel
theorem dX4_returnIf_18 : decode cX4_returnIf 18 = .ok (.putfield 51, 3) := by decide +kernel
theorem dX4_returnIf_21 : decode cX4_returnIf 21 = .ok (.bipush 11, 2) := by decide +kernel
theorem dX4_returnIf_23 : decode cX4_returnIf 23 = .ok (.ireturn, 1) := by decide +kernel
set_option maxRecDepth 20000 in
theorem ggX4_popOrReturn_X4_pop : GoodIn wsX4_popOrReturn wsX4_pop := goodIn_r _ [7, 8, 2, 9, 10, 11, 12, 13, 14, 15, 40, 41, 42, 43, 44, 45, 46, 47, 48, 49, 50, 51, 52, 53] (by decide +kernel) (by decide +kernel)
set_option maxRecDepth 20000 in
theorem gX4_popOrReturn_X4_pop : GoodIn wsX4_popOrReturn (wsV RX4 183 RX4 yX4_pop wsX4_pop) := goodIn_app (goodIn_of _ (by decide +kernel)) ggX4_popOrReturn_X4_pop
set_option maxRecDepth 20000 in
theorem ggX4_popOrReturn_X4_pair : GoodIn wsX4_popOrReturn wsX4_pair := goodIn_r _ [19, 2, 20, 40, 41, 42, 43, 44, 45, 46, 47, 48, 49, 50, 51, 52] (by decide +kernel) (by decide +kernel)
set_option maxRecDepth 20000 in
theorem gX4_popOrReturn_X4_pair : GoodIn wsX4_popOrReturn (wsV RX4 139 RX4 yX4_pair wsX4_pair) := goodIn_app (goodIn_of _ (by decide +kernel)) ggX4_popOrReturn_X4_pair
set_option maxRecDepth 20000 in
theorem ggX4_popOrReturn_X4_popAccumulator : GoodIn wsX4_popOrReturn wsX4_popAccumulator := goodIn_r _ [24, 20, 25, 3, 4, 5, 6, 7, 8, 2, 9, 10, 11, 12, 13, 14, 15, 26, 27, 28, 29, 30, 31, 32, 33, 34, 35, 40, 41, 42, 43, 44, 45, 46, 47, 48, 49, 50, 51, 52, 53, 54, 55, 56, 57, 58] (by decide +kernel) (by decide +kernel)
set_option maxRecDepth 20000 in
theorem gX4_popOrReturn_X4_popAccumulator : GoodIn wsX4_popOrReturn (wsV RX4 186 RX4 yX4_popAccumulator wsX4_popAccumulator) := goodIn_app (goodIn_of _ (by decide +kernel)) ggX4_popOrReturn_X4_popAccumulator
set_option maxRecDepth 20000 in
theorem ggX4_popOrReturn_X4_setPair : GoodIn wsX4_popOrReturn wsX4_setPair := goodIn_r _ [39, 9, 2, 20, 40, 41, 42, 43, 44, 45, 46, 47, 48, 49, 50, 51, 52] (by decide +kernel) (by decide +kernel)
set_option maxRecDepth 20000 in
theorem gX4_popOrReturn_X4_setPair : GoodIn wsX4_popOrReturn (wsV RX4 136 RX4 yX4_setPair wsX4_setPair) := goodIn_app (goodIn_of _ (by decide +kernel)) ggX4_popOrReturn_X4_setPair
theorem dX4_popOrReturn_0 : decode cX4_popOrReturn 0 = .ok (.iload_n 1, 1) := by decide +kernel
theorem dX4_popOrReturn_1 : decode cX4_popOrReturn 1 = .ok (.tableswitch 81 1 7 #[43, 81, 43, 81, 54, 65, 70], 43) := by decide +kernel
theorem dX4_popOrReturn_44 : decode cX4_popOrReturn 44 = .ok (.aload_n 0, 1) := by decide +kernel
theorem dX4_popOrReturn_45 : decode cX4_popOrReturn 45 = .ok (.aload_n 0, 1) := by decide +kernel
theorem dX4_popOrReturn_46 : decode cX4_popOrReturn 46 = .ok (.invokevirtual 183, 3) := by decide +kernel
theorem dX4_popOrReturn_49 : decode cX4_popOrReturn 49 = .ok (.putfield 51, 3) := by decide +kernel
theorem dX4_popOrReturn_52 : decode cX4_popOrReturn 52 = .ok (.bipush 10, 2) := by decide +kernel
theorem dX4_popOrReturn_54 : decode cX4_popOrReturn 54 = .ok (.ireturn, 1) := by decide +kernel
theorem dX4_popOrReturn_55 : decode cX4_popOrReturn 55 = .ok (.aload_n 0, 1) := by decide +kernel
theorem dX4_popOrReturn_56 : decode cX4_popOrReturn 56 = .ok (.aload_n 0, 1) := by decide +kernel
theorem dX4_popOrReturn_57 : decode cX4_popOrReturn 57 = .ok (.iconst 2, 1) := by decide +kernel
theorem dX4_popOrReturn_58 : decode cX4_popOrReturn 58 = .ok (.invokevirtual 139, 3) := by decide +kernel
theorem dX4_popOrReturn_61 : decode cX4_popOrReturn 61 = .ok (.putfield 51, 3) := by decide +kernel
theorem dX4_popOrReturn_64 : decode cX4_popOrReturn 64 = .ok (.iconst 5, 1) := by decide +kernel
theorem dX4_popOrReturn_65 : decode cX4_popOrReturn 65 = .ok (.ireturn, 1) := by decide +kernel
theorem dX4_popOrReturn_66 : decode cX4_popOrReturn 66 = .ok (.aload_n 0, 1) := by decide +kernel
theorem dX4_popOrReturn_67 : decode cX4_popOrReturn 67 = .ok (.invokevirtual 186, 3) := by decide +kernel
theorem dX4_popOrReturn_70 : decode cX4_popOrReturn 70 = .ok (.ireturn, 1) := by decide +kernel
theorem dX4_popOrReturn_71 : decode cX4_popOrReturn 71 = .ok (.aload_n 0, 1) := by decide +kernel
theorem dX4_popOrReturn_72 : decode cX4_popOrReturn 72 = .ok (.aload_n 0, 1) := by decide +kernel
theorem dX4_popOrReturn_73 : decode cX4_popOrReturn 73 = .ok (.iconst 2, 1) := by decide +kernel
theorem dX4_popOrReturn_74 : decode cX4_popOrReturn 74 = .ok (.invokevirtual 139, 3) := by decide +kernel
theorem dX4_popOrReturn_77 : decode cX4_popOrReturn 77 = .ok (.putfield 54, 3) := by decide +kernel
theorem dX4_popOrReturn_80 : decode cX4_popOrReturn 80 = .ok (.iconst 5, 1) := by decide +kernel
theorem dX4_popOrReturn_81 : decode cX4_popOrReturn 81 = .ok (.ireturn, 1) := by decide +kernel
theorem dX4_popOrReturn_82 : decode cX4_popOrReturn 82 = .ok (.aload_n 0, 1) := by decide +kernel
theorem dX4_popOrReturn_83 : decode cX4_popOrReturn 83 = .ok (.iload_n 1, 1) := by decide +kernel
theorem dX4_popOrReturn_84 : decode cX4_popOrReturn 84 = .ok (.iconst 1, 1) := by decide +kernel
theorem dX4_popOrReturn_85 : decode cX4_popOrReturn 85 = .ok (.ishr, 1) := by decide +kernel
theorem dX4_popOrReturn_86 : decode cX4_popOrReturn 86 = .ok (.aload_n 0, 1) := by decide +kernel
theorem dX4_popOrReturn_87 : decode cX4_popOrReturn 87 = .ok (.invokevirtual 183, 3) := by decide +kernel
theorem dX4_popOrReturn_90 : decode cX4_popOrReturn 90 = .ok (.invokevirtual 136, 3) := by decide +kernel
theorem dX4_popOrReturn_93 : decode cX4_popOrReturn 93 = .ok (.bipush 10, 2) := by decide +kernel
theorem dX4_popOrReturn_95 : decode cX4_popOrReturn 95 = .ok (.ireturn, 1) := by decide +kernel
set_option maxRecDepth 20000 in
theorem ggX4_popAccumulator_X4_pop : GoodIn wsX4_popAccumulator wsX4_pop := goodIn_r _ [7, 8, 9, 10, 11, 12, 13, 14, 15, 16, 27, 28, 29, 30, 31, 32, 33, 34, 35, 36, 37, 38, 39, 40] (by decide +kernel) (by decide +kernel)
set_option maxRecDepth 20000 in
theorem gX4_popAccumulator_X4_pop : GoodIn wsX4_popAccumulator (wsV RX4 183 RX4 yX4_pop wsX4_pop) := goodIn_app (goodIn_of _ (by decide +kernel)) ggX4_popAccumulator_X4_pop
set_option maxRecDepth 20000 in
theorem ggX4_popAccumulator_X3_unpack : GoodIn wsX4_popAccumulator wsX3_unpack := goodIn_r _ [21, 22, 23, 24, 25, 26, 41, 42, 43, 44, 45] (by decide +kernel) (by decide +kernel)
set_option maxRecDepth 20000 in
theorem gX4_popAccumulator_X3_unpack : GoodIn wsX4_popAccumulator (wsV RX4 57 RX3 yX3_unpack wsX3_unpack) := goodIn_app (goodIn_of _ (by decide +kernel)) ggX4_popAccumulator_X3_unpack
theorem dX4_popAccumulator_0 : decode cX4_popAccumulator 0 = .ok (.aload_n 0, 1) := by decide +kernel
theorem dX4_popAccumulator_1 : decode cX4_popAccumulator 1 = .ok (.invokevirtual 183, 3) := by decide +kernel
theorem dX4_popAccumulator_4 : decode cX4_popAccumulator 4 = .ok (.istore_n 1, 1) := by decide +kernel
theorem dX4_popAccumulator_5 : decode cX4_popAccumulator 5 = .ok (.aload_n 0, 1) := by decide +kernel
theorem dX4_popAccumulator_6 : decode cX4_popAccumulator 6 = .ok (.getfield 27, 3) := by decide +kernel
theorem dX4_popAccumulator_9 : decode cX4_popAccumulator 9 = .ok (.bipush 7, 2) := by decide +kernel
theorem dX4_popAccumulator_11 : decode cX4_popAccumulator 11 = .ok (.iload_n 1, 1) := by decide +kernel
theorem dX4_popAccumulator_12 : decode cX4_popAccumulator 12 = .ok (.bipush 8, 2) := by decide +kernel
theorem dX4_popAccumulator_14 : decode cX4_popAccumulator 14 = .ok (.ishr, 1) := by decide +kernel
theorem dX4_popAccumulator_15 : decode cX4_popAccumulator 15 = .ok (.iastore, 1) := by decide +kernel
theorem dX4_popAccumulator_16 : decode cX4_popAccumulator 16 = .ok (.aload_n 0, 1) := by decide +kernel
theorem dX4_popAccumulator_17 : decode cX4_popAccumulator 17 = .ok (.getfield 12, 3) := by decide +kernel
theorem dX4_popAccumulator_20 : decode cX4_popAccumulator 20 = .ok (.iload_n 1, 1) := by decide +kernel
theorem dX4_popAccumulator_21 : decode cX4_popAccumulator 21 = .ok (.invokevirtual 57, 3) := by decide +kernel
theorem dX4_popAccumulator_24 : decode cX4_popAccumulator 24 = .ok (.bipush 10, 2) := by decide +kernel
theorem dX4_popAccumulator_26 : decode cX4_popAccumulator 26 = .ok (.ireturn, 1) := by decide +kernel
set_option maxRecDepth 20000 in
theorem ggX4_jumpIf_X4_nextWord : GoodIn wsX4_jumpIf wsX4_nextWord := goodIn_r _ [6, 7, 1, 8, 9, 10, 11, 12, 13, 14, 15, 16, 17, 18, 19, 20, 21, 22, 23, 24, 25, 26, 27, 28] (by decide +kernel) (by decide +kernel)
set_option maxRecDepth 20000 in
theorem gX4_jumpIf_X4_nextWord : GoodIn wsX4_jumpIf (wsV RX4 133 RX4 yX4_nextWord wsX4_nextWord) := goodIn_app (goodIn_of _ (by decide +kernel)) ggX4_jumpIf_X4_nextWord
theorem dX4_jumpIf_0 : decode cX4_jumpIf 0 = .ok (.aload_n 0, 1) := by decide +kernel
theorem dX4_jumpIf_1 : decode cX4_jumpIf 1 = .ok (.invokevirtual 133, 3) := by decide +kernel
theorem dX4_jumpIf_4 : decode cX4_jumpIf 4 = .ok (.istore_n 2, 1) := by decide +kernel
theorem dX4_jumpIf_5 : decode cX4_jumpIf 5 = .ok (.iload_n 1, 1) := by decide +kernel
theorem dX4_jumpIf_6 : decode cX4_jumpIf 6 = .ok (.ifCond .eq 8, 3) := by decide +kernel
theorem dX4_jumpIf_9 : decode cX4_jumpIf 9 = .ok (.aload_n 0, 1) := by decide +kernel
theorem dX4_jumpIf_10 : decode cX4_jumpIf 10 = .ok (.iload_n 2, 1) := by decide +kernel
theorem dX4_jumpIf_11 : decode cX4_jumpIf 11 = .ok (.putfield 51, 3) := by decide +kernel
theorem dX4_jumpIf_14 : decode cX4_jumpIf 14 = .ok (.bipush 10, 2) := by decide +kernel
theorem dX4_jumpIf_16 : decode cX4_jumpIf 16 = .ok (.ireturn, 1) := by decide +kernel
set_option maxRecDepth 20000 in
theorem ggX4_callIf_X4_nextWord : GoodIn wsX4_callIf wsX4_nextWord := goodIn_r _ [6, 7, 1, 8, 9, 10, 11, 12, 13, 14, 24, 25, 26, 27, 28, 29, 30, 31, 32, 33, 34, 35, 36, 37] (by decide +kernel) (by decide +kernel)
set_option maxRecDepth 20000 in
theorem gX4_callIf_X4_nextWord : GoodIn wsX4_callIf (wsV RX4 133 RX4 yX4_nextWord wsX4_nextWord) := goodIn_app (goodIn_of _ (by decide +kernel)) ggX4_callIf_X4_nextWord
set_option maxRecDepth 20000 in
theorem ggX4_callIf_X4_push : GoodIn wsX4_callIf wsX4_push := goodIn_r _ [18, 19, 8, 7, 20, 21, 22, 12, 23, 14, 24, 25, 26, 27, 28, 29, 30, 31, 32, 33, 34, 35, 36, 37] (by decide +kernel) (by decide +kernel)
set_option maxRecDepth 20000 in
theorem gX4_callIf_X4_push : GoodIn wsX4_callIf (wsV RX4 88 RX4 yX4_push wsX4_push) := goodIn_app (goodIn_of _ (by decide +kernel)) ggX4_callIf_X4_push
theorem dX4_callIf_0 : decode cX4_callIf 0 = .ok (.aload_n 0, 1) := by decide +kernel
theorem dX4_callIf_1 : decode cX4_callIf 1 = .ok (.invokevirtual 133, 3) := by decide +kernel
theorem dX4_callIf_4 : decode cX4_callIf 4 = .ok (.istore_n 2, 1) := by decide +kernel
theorem dX4_callIf_5 : decode cX4_callIf 5 = .ok (.iload_n 1, 1) := by decide +kernel
theorem dX4_callIf_6 : decode cX4_callIf 6 = .ok (.ifCond .ne 6, 3) := by decide +kernel
theorem dX4_callIf_9 : decode cX4_callIf 9 = .ok (.bipush 11, 2) := by decide +kernel
theorem dX4_callIf_11 : decode cX4_callIf 11 = .ok (.ireturn, 1) := by decide +kernel
theorem dX4_callIf_12 : decode cX4_callIf 12 = .ok (.aload_n 0, 1) := by decide +kernel
theorem dX4_callIf_13 : decode cX4_callIf 13 = .ok (.aload_n 0, 1) := by decide +kernel
theorem dX4_callIf_14 : decode cX4_callIf 14 = .ok (.getfield 51, 3) := by decide +kernel
theorem dX4_callIf_17 : decode cX4_callIf 17 = .ok (.invokevirtual 88, 3) := by decide +kernel
theorem dX4_callIf_20 : decode cX4_callIf 20 = .ok (.aload_n 0, 1) := by decide +kernel
theorem dX4_callIf_21 : decode cX4_callIf 21 = .ok (.iload_n 2, 1) := by decide +kernel
theorem dX4_callIf_22 : decode cX4_callIf 22 = .ok (.putfield 51, 3) := by decide +kernel
theorem dX4_callIf_25 : decode cX4_callIf 25 = .ok (.bipush 17, 2) := by decide +kernel
theorem dX4_callIf_27 : decode cX4_callIf 27 = .ok (.ireturn, 1) := by decide +kernel
set_option maxRecDepth 20000 in
theorem ggX4_pushPair_X3_packed : GoodIn wsX4_pushPair wsX3_packed := goodIn_r _ [7, 8, 9, 10, 11, 12, 44, 45, 46, 47, 48] (by decide +kernel) (by decide +kernel)
set_option maxRecDepth 20000 in
theorem gX4_pushPair_X3_packed : GoodIn wsX4_pushPair (wsV RX4 47 RX3 yX3_packed wsX3_packed) := goodIn_app (goodIn_of _ (by decide +kernel)) ggX4_pushPair_X3_packed
set_option maxRecDepth 20000 in
theorem ggX4_pushPair_X4_pair : GoodIn wsX4_pushPair wsX4_pair := goodIn_r _ [17, 18, 1, 31, 32, 33, 34, 35, 36, 37, 38, 39, 40, 41, 42, 43] (by decide +kernel) (by decide +kernel)
set_option maxRecDepth 20000 in
theorem gX4_pushPair_X4_pair : GoodIn wsX4_pushPair (wsV RX4 139 RX4 yX4_pair wsX4_pair) := goodIn_app (goodIn_of _ (by decide +kernel)) ggX4_pushPair_X4_pair
set_option maxRecDepth 20000 in
theorem ggX4_pushPair_X4_push : GoodIn wsX4_pushPair wsX4_push := goodIn_r _ [22, 18, 23, 24, 25, 26, 27, 28, 29, 30, 31, 32, 33, 34, 35, 36, 37, 38, 39, 40, 41, 42, 43, 49] (by decide +kernel) (by decide +kernel)
set_option maxRecDepth 20000 in
theorem gX4_pushPair_X4_push : GoodIn wsX4_pushPair (wsV RX4 88 RX4 yX4_push wsX4_push) := goodIn_app (goodIn_of _ (by decide +kernel)) ggX4_pushPair_X4_push
theorem dX4_pushPair_0 : decode cX4_pushPair 0 = .ok (.aload_n 0, 1) := by decide +kernel
theorem dX4_pushPair_1 : decode cX4_pushPair 1 = .ok (.iload_n 1, 1) := by decide +kernel
theorem dX4_pushPair_2 : decode cX4_pushPair 2 = .ok (.bipush 6, 2) := by decide +kernel
theorem dX4_pushPair_4 : decode cX4_pushPair 4 = .ok (.if_icmp .ne 24, 3) := by decide +kernel
theorem dX4_pushPair_7 : decode cX4_pushPair 7 = .ok (.aload_n 0, 1) := by decide +kernel
theorem dX4_pushPair_8 : decode cX4_pushPair 8 = .ok (.getfield 27, 3) := by decide +kernel
theorem dX4_pushPair_11 : decode cX4_pushPair 11 = .ok (.bipush 7, 2) := by decide +kernel
theorem dX4_pushPair_13 : decode cX4_pushPair 13 = .ok (.iaload, 1) := by decide +kernel
theorem dX4_pushPair_14 : decode cX4_pushPair 14 = .ok (.bipush 8, 2) := by decide +kernel
theorem dX4_pushPair_16 : decode cX4_pushPair 16 = .ok (.ishl, 1) := by decide +kernel
theorem dX4_pushPair_17 : decode cX4_pushPair 17 = .ok (.aload_n 0, 1) := by decide +kernel
theorem dX4_pushPair_18 : decode cX4_pushPair 18 = .ok (.getfield 12, 3) := by decide +kernel
theorem dX4_pushPair_21 : decode cX4_pushPair 21 = .ok (.invokevirtual 47, 3) := by decide +kernel
theorem dX4_pushPair_24 : decode cX4_pushPair 24 = .ok (.ior, 1) := by decide +kernel
theorem dX4_pushPair_25 : decode cX4_pushPair 25 = .ok (.goto 10, 3) := by decide +kernel
theorem dX4_pushPair_28 : decode cX4_pushPair 28 = .ok (.aload_n 0, 1) := by decide +kernel
theorem dX4_pushPair_29 : decode cX4_pushPair 29 = .ok (.iload_n 1, 1) := by decide +kernel
theorem dX4_pushPair_30 : decode cX4_pushPair 30 = .ok (.iconst 1, 1) := by decide +kernel
theorem dX4_pushPair_31 : decode cX4_pushPair 31 = .ok (.ishr, 1) := by decide +kernel
theorem dX4_pushPair_32 : decode cX4_pushPair 32 = .ok (.invokevirtual 139, 3) := by decide +kernel
theorem dX4_pushPair_35 : decode cX4_pushPair 35 = .ok (.invokevirtual 88, 3) := by decide +kernel
theorem dX4_pushPair_38 : decode cX4_pushPair 38 = .ok (.bipush 11, 2) := by decide +kernel
theorem dX4_pushPair_40 : decode cX4_pushPair 40 = .ok (.ireturn, 1) := by decide +kernel
set_option maxRecDepth 20000 in
theorem ggX4_portOrExchange_X4_nextByte : GoodIn wsX4_portOrExchange wsX4_nextByte := goodIn_r _ [8, 9, 10, 11, 12, 13, 14, 15, 16, 17, 110, 111, 112, 113, 114, 115, 116, 117, 118, 119, 120, 121, 122, 123] (by decide +kernel) (by decide +kernel)
set_option maxRecDepth 20000 in
theorem gX4_portOrExchange_X4_nextByte : GoodIn wsX4_portOrExchange (wsV RX4 91 RX4 yX4_nextByte wsX4_nextByte) := goodIn_app (goodIn_of _ (by decide +kernel)) ggX4_portOrExchange_X4_nextByte
set_option maxRecDepth 20000 in
theorem ggX4_portOrExchange_X4_sendToPort : GoodIn wsX4_portOrExchange wsX4_sendToPort := goodIn_r _ [21, 22, 23, 24, 25, 26, 27, 28, 29, 30, 31, 32, 33, 34, 35, 36, 37, 38, 39, 40, 41, 42, 43, 44, 45, 46, 47, 48, 49, 50, 51, 52, 53, 54, 55, 56, 57, 58, 59, 60, 61, 62, 63, 64, 65, 110, 111, 112, 113, 114, 115, 116, 117, 118, 119, 120, 121, 122, 124, 125, 126, 127, 128, 129, 130, 131, 132, 133, 134, 135, 136, 137, 138, 139] (by decide +kernel) (by decide +kernel)
set_option maxRecDepth 20000 in
theorem gX4_portOrExchange_X4_sendToPort : GoodIn wsX4_portOrExchange (wsV RX4 189 RX4 yX4_sendToPort wsX4_sendToPort) := goodIn_app (goodIn_of _ (by decide +kernel)) ggX4_portOrExchange_X4_sendToPort
set_option maxRecDepth 20000 in
theorem ggX4_portOrExchange_X4_takeFromPort : GoodIn wsX4_portOrExchange wsX4_takeFromPort := goodIn_r _ [69, 22, 23, 70, 71, 72, 27, 73, 74, 75, 76, 77, 78, 79, 80, 81, 82, 83, 34, 84, 56, 110, 111, 112, 113, 114, 115, 116, 117, 118, 119, 120, 121, 122, 124, 125, 126, 127, 128, 129, 130, 131, 132, 133, 134, 135, 136, 137, 138, 139] (by decide +kernel) (by decide +kernel)
set_option maxRecDepth 20000 in
theorem gX4_portOrExchange_X4_takeFromPort : GoodIn wsX4_portOrExchange (wsV RX4 192 RX4 yX4_takeFromPort wsX4_takeFromPort) := goodIn_app (goodIn_of _ (by decide +kernel)) ggX4_portOrExchange_X4_takeFromPort
set_option maxRecDepth 20000 in
theorem ggX4_portOrExchange_X4_swapWithStack : GoodIn wsX4_portOrExchange wsX4_swapWithStack := goodIn_r _ [88, 9, 89, 90, 91, 92, 15, 93, 17, 94, 95, 96, 7, 97, 1, 98, 99, 100, 101, 102, 103, 104, 105, 11, 110, 111, 112, 113, 114, 115, 116, 117, 118, 119, 120, 121, 122, 123] (by decide +kernel) (by decide +kernel)
set_option maxRecDepth 20000 in
theorem gX4_portOrExchange_X4_swapWithStack : GoodIn wsX4_portOrExchange (wsV RX4 195 RX4 yX4_swapWithStack wsX4_swapWithStack) := goodIn_app (goodIn_of _ (by decide +kernel)) ggX4_portOrExchange_X4_swapWithStack
set_option maxRecDepth 20000 in
theorem ggX4_portOrExchange_X4_swapPairs : GoodIn wsX4_portOrExchange wsX4_swapPairs := goodIn_r _ [109, 94, 95, 96, 7, 97, 89, 1, 102, 103, 104, 105, 11, 110, 111, 112, 113, 114, 115, 116, 117, 118, 119, 120, 121, 122] (by decide +kernel) (by decide +kernel)
set_option maxRecDepth 20000 in
theorem gX4_portOrExchange_X4_swapPairs : GoodIn wsX4_portOrExchange (wsV RX4 198 RX4 yX4_swapPairs wsX4_swapPairs) := goodIn_app (goodIn_of _ (by decide +kernel)) ggX4_portOrExchange_X4_swapPairs
theorem dX4_portOrExchange_0 : decode cX4_portOrExchange 0 = .ok (.iload_n 1, 1) := by decide +kernel
theorem dX4_portOrExchange_1 : decode cX4_portOrExchange 1 = .ok (.tableswitch 88 2 6 #[35, 53, 71, 76, 81], 35) := by decide +kernel
theorem dX4_portOrExchange_36 : decode cX4_portOrExchange 36 = .ok (.aload_n 0, 1) := by decide +kernel
theorem dX4_portOrExchange_37 : decode cX4_portOrExchange 37 = .ok (.aload_n 0, 1) := by decide +kernel
theorem dX4_portOrExchange_38 : decode cX4_portOrExchange 38 = .ok (.invokevirtual 91, 3) := by decide +kernel
theorem dX4_portOrExchange_41 : decode cX4_portOrExchange 41 = .ok (.aload_n 0, 1) := by decide +kernel
theorem dX4_portOrExchange_42 : decode cX4_portOrExchange 42 = .ok (.getfield 27, 3) := by decide +kernel
theorem dX4_portOrExchange_45 : decode cX4_portOrExchange 45 = .ok (.bipush 7, 2) := by decide +kernel
theorem dX4_portOrExchange_47 : decode cX4_portOrExchange 47 = .ok (.iaload, 1) := by decide +kernel
theorem dX4_portOrExchange_48 : decode cX4_portOrExchange 48 = .ok (.invokevirtual 189, 3) := by decide +kernel
theorem dX4_portOrExchange_51 : decode cX4_portOrExchange 51 = .ok (.bipush 10, 2) := by decide +kernel
theorem dX4_portOrExchange_53 : decode cX4_portOrExchange 53 = .ok (.ireturn, 1) := by decide +kernel
theorem dX4_portOrExchange_54 : decode cX4_portOrExchange 54 = .ok (.aload_n 0, 1) := by decide +kernel
theorem dX4_portOrExchange_55 : decode cX4_portOrExchange 55 = .ok (.getfield 27, 3) := by decide +kernel
theorem dX4_portOrExchange_58 : decode cX4_portOrExchange 58 = .ok (.bipush 7, 2) := by decide +kernel
theorem dX4_portOrExchange_60 : decode cX4_portOrExchange 60 = .ok (.aload_n 0, 1) := by decide +kernel
theorem dX4_portOrExchange_61 : decode cX4_portOrExchange 61 = .ok (.aload_n 0, 1) := by decide +kernel
theorem dX4_portOrExchange_62 : decode cX4_portOrExchange 62 = .ok (.invokevirtual 91, 3) := by decide +kernel
theorem dX4_portOrExchange_65 : decode cX4_portOrExchange 65 = .ok (.invokevirtual 192, 3) := by decide +kernel
theorem dX4_portOrExchange_68 : decode cX4_portOrExchange 68 = .ok (.iastore, 1) := by decide +kernel
theorem dX4_portOrExchange_69 : decode cX4_portOrExchange 69 = .ok (.bipush 10, 2) := by decide +kernel
theorem dX4_portOrExchange_71 : decode cX4_portOrExchange 71 = .ok (.ireturn, 1) := by decide +kernel
theorem dX4_portOrExchange_72 : decode cX4_portOrExchange 72 = .ok (.aload_n 0, 1) := by decide +kernel
theorem dX4_portOrExchange_73 : decode cX4_portOrExchange 73 = .ok (.invokevirtual 195, 3) := by decide +kernel
theorem dX4_portOrExchange_76 : decode cX4_portOrExchange 76 = .ok (.ireturn, 1) := by decide +kernel
theorem dX4_portOrExchange_77 : decode cX4_portOrExchange 77 = .ok (.aload_n 0, 1) := by decide +kernel
theorem dX4_portOrExchange_78 : decode cX4_portOrExchange 78 = .ok (.invokevirtual 198, 3) := by decide +kernel
theorem dX4_portOrExchange_81 : decode cX4_portOrExchange 81 = .ok (.ireturn, 1) := by decide +kernel
theorem dX4_portOrExchange_82 : decode cX4_portOrExchange 82 = .ok (.aload_n 0, 1) := by decide +kernel
theorem dX4_portOrExchange_83 : decode cX4_portOrExchange 83 = .ok (.iconst 0, 1) := by decide +kernel
theorem dX4_portOrExchange_84 : decode cX4_portOrExchange 84 = .ok (.putfield 66, 3) := by decide +kernel
theorem dX4_portOrExchange_87 : decode cX4_portOrExchange 87 = .ok (.iconst 4, 1) := by decide +kernel
theorem dX4_portOrExchange_88 : decode cX4_portOrExchange 88 = .ok (.ireturn, 1) := by decide +kernel
theorem dX4_portOrExchange_89 : decode cX4_portOrExchange 89 = .ok (.aload_n 0, 1) := by decide +kernel
theorem dX4_portOrExchange_90 : decode cX4_portOrExchange 90 = .ok (.iconst 1, 1) := by decide +kernel
theorem dX4_portOrExchange_91 : decode cX4_portOrExchange 91 = .ok (.putfield 66, 3) := by decide +kernel
theorem dX4_portOrExchange_94 : decode cX4_portOrExchange 94 = .ok (.aload_n 0, 1) := by decide +kernel
theorem dX4_portOrExchange_95 : decode cX4_portOrExchange 95 = .ok (.iconst 1, 1) := by decide +kernel
theorem dX4_portOrExchange_96 : decode cX4_portOrExchange 96 = .ok (.putfield 73, 3) := by decide +kernel
theorem dX4_portOrExchange_99 : decode cX4_portOrExchange 99 = .ok (.iconst 4, 1) := by decide +kernel
theorem dX4_portOrExchange_100 : decode cX4_portOrExchange 100 = .ok (.ireturn, 1) := by decide +kernel
set_option maxRecDepth 20000 in
theorem ggX4_swapWithStack_X5_wordAt : GoodIn wsX4_swapWithStack wsX5_wordAt := goodIn_r _ [7, 8, 37] (by decide +kernel) (by decide +kernel)
set_option maxRecDepth 20000 in
theorem gX4_swapWithStack_X5_wordAt : GoodIn wsX4_swapWithStack (wsV RX4 157 RX5 yX5_wordAt wsX5_wordAt) := goodIn_app (goodIn_of _ (by decide +kernel)) ggX4_swapWithStack_X5_wordAt
set_option maxRecDepth 20000 in
theorem ggX4_swapWithStack_X4_pair : GoodIn wsX4_swapWithStack wsX4_pair := goodIn_r _ [13, 2, 14, 24, 25, 26, 27, 28, 29, 30, 31, 32, 33, 34, 35, 36] (by decide +kernel) (by decide +kernel)
set_option maxRecDepth 20000 in
theorem gX4_swapWithStack_X4_pair : GoodIn wsX4_swapWithStack (wsV RX4 139 RX4 yX4_pair wsX4_pair) := goodIn_app (goodIn_of _ (by decide +kernel)) ggX4_swapWithStack_X4_pair
set_option maxRecDepth 20000 in
theorem ggX4_swapWithStack_X5_setWord : GoodIn wsX4_swapWithStack wsX5_setWord := goodIn_r _ [18, 8, 37] (by decide +kernel) (by decide +kernel)
set_option maxRecDepth 20000 in
theorem gX4_swapWithStack_X5_setWord : GoodIn wsX4_swapWithStack (wsV RX4 154 RX5 yX5_setWord wsX5_setWord) := goodIn_app (goodIn_of _ (by decide +kernel)) ggX4_swapWithStack_X5_setWord
set_option maxRecDepth 20000 in
theorem ggX4_swapWithStack_X4_setPair : GoodIn wsX4_swapWithStack wsX4_setPair := goodIn_r _ [22, 23, 2, 14, 24, 25, 26, 27, 28, 29, 30, 31, 32, 33, 34, 35, 36] (by decide +kernel) (by decide +kernel)
set_option maxRecDepth 20000 in
theorem gX4_swapWithStack_X4_setPair : GoodIn wsX4_swapWithStack (wsV RX4 136 RX4 yX4_setPair wsX4_setPair) := goodIn_app (goodIn_of _ (by decide +kernel)) ggX4_swapWithStack_X4_setPair
theorem dX4_swapWithStack_0 : decode cX4_swapWithStack 0 = .ok (.aload_n 0, 1) := by decide +kernel
theorem dX4_swapWithStack_1 : decode cX4_swapWithStack 1 = .ok (.getfield 35, 3) := by decide +kernel
theorem dX4_swapWithStack_4 : decode cX4_swapWithStack 4 = .ok (.aload_n 0, 1) := by decide +kernel
theorem dX4_swapWithStack_5 : decode cX4_swapWithStack 5 = .ok (.getfield 54, 3) := by decide +kernel
theorem dX4_swapWithStack_8 : decode cX4_swapWithStack 8 = .ok (.invokevirtual 157, 3) := by decide +kernel
theorem dX4_swapWithStack_11 : decode cX4_swapWithStack 11 = .ok (.istore_n 1, 1) := by decide +kernel
theorem dX4_swapWithStack_12 : decode cX4_swapWithStack 12 = .ok (.aload_n 0, 1) := by decide +kernel
theorem dX4_swapWithStack_13 : decode cX4_swapWithStack 13 = .ok (.getfield 35, 3) := by decide +kernel
theorem dX4_swapWithStack_16 : decode cX4_swapWithStack 16 = .ok (.aload_n 0, 1) := by decide +kernel
theorem dX4_swapWithStack_17 : decode cX4_swapWithStack 17 = .ok (.getfield 54, 3) := by decide +kernel
theorem dX4_swapWithStack_20 : decode cX4_swapWithStack 20 = .ok (.aload_n 0, 1) := by decide +kernel
theorem dX4_swapWithStack_21 : decode cX4_swapWithStack 21 = .ok (.iconst 2, 1) := by decide +kernel
theorem dX4_swapWithStack_22 : decode cX4_swapWithStack 22 = .ok (.invokevirtual 139, 3) := by decide +kernel
theorem dX4_swapWithStack_25 : decode cX4_swapWithStack 25 = .ok (.invokevirtual 154, 3) := by decide +kernel
theorem dX4_swapWithStack_28 : decode cX4_swapWithStack 28 = .ok (.aload_n 0, 1) := by decide +kernel
theorem dX4_swapWithStack_29 : decode cX4_swapWithStack 29 = .ok (.iconst 2, 1) := by decide +kernel
theorem dX4_swapWithStack_30 : decode cX4_swapWithStack 30 = .ok (.iload_n 1, 1) := by decide +kernel
theorem dX4_swapWithStack_31 : decode cX4_swapWithStack 31 = .ok (.invokevirtual 136, 3) := by decide +kernel
theorem dX4_swapWithStack_34 : decode cX4_swapWithStack 34 = .ok (.bipush 18, 2) := by decide +kernel
theorem dX4_swapWithStack_36 : decode cX4_swapWithStack 36 = .ok (.ireturn, 1) := by decide +kernel
set_option maxRecDepth 20000 in
theorem ggX4_swapPairs_X4_pair : GoodIn wsX4_swapPairs wsX4_pair := goodIn_r _ [5, 6, 7, 13, 14, 15, 16, 17, 18, 19, 20, 21, 22, 23, 24, 25] (by decide +kernel) (by decide +kernel)
set_option maxRecDepth 20000 in
theorem gX4_swapPairs_X4_pair : GoodIn wsX4_swapPairs (wsV RX4 139 RX4 yX4_pair wsX4_pair) := goodIn_app (goodIn_of _ (by decide +kernel)) ggX4_swapPairs_X4_pair
set_option maxRecDepth 20000 in
theorem ggX4_swapPairs_X4_setPair : GoodIn wsX4_swapPairs wsX4_setPair := goodIn_r _ [11, 12, 6, 7, 13, 14, 15, 16, 17, 18, 19, 20, 21, 22, 23, 24, 25] (by decide +kernel) (by decide +kernel)
set_option maxRecDepth 20000 in
theorem gX4_swapPairs_X4_setPair : GoodIn wsX4_swapPairs (wsV RX4 136 RX4 yX4_setPair wsX4_setPair) := goodIn_app (goodIn_of _ (by decide +kernel)) ggX4_swapPairs_X4_setPair
theorem dX4_swapPairs_0 : decode cX4_swapPairs 0 = .ok (.aload_n 0, 1) := by decide +kernel
theorem dX4_swapPairs_1 : decode cX4_swapPairs 1 = .ok (.iconst 1, 1) := by decide +kernel
theorem dX4_swapPairs_2 : decode cX4_swapPairs 2 = .ok (.invokevirtual 139, 3) := by decide +kernel
theorem dX4_swapPairs_5 : decode cX4_swapPairs 5 = .ok (.istore_n 1, 1) := by decide +kernel
theorem dX4_swapPairs_6 : decode cX4_swapPairs 6 = .ok (.aload_n 0, 1) := by decide +kernel
theorem dX4_swapPairs_7 : decode cX4_swapPairs 7 = .ok (.iconst 1, 1) := by decide +kernel
theorem dX4_swapPairs_8 : decode cX4_swapPairs 8 = .ok (.aload_n 0, 1) := by decide +kernel
theorem dX4_swapPairs_9 : decode cX4_swapPairs 9 = .ok (.iconst 2, 1) := by decide +kernel
theorem dX4_swapPairs_10 : decode cX4_swapPairs 10 = .ok (.invokevirtual 139, 3) := by decide +kernel
theorem dX4_swapPairs_13 : decode cX4_swapPairs 13 = .ok (.invokevirtual 136, 3) := by decide +kernel
theorem dX4_swapPairs_16 : decode cX4_swapPairs 16 = .ok (.aload_n 0, 1) := by decide +kernel
theorem dX4_swapPairs_17 : decode cX4_swapPairs 17 = .ok (.iconst 2, 1) := by decide +kernel
theorem dX4_swapPairs_18 : decode cX4_swapPairs 18 = .ok (.iload_n 1, 1) := by decide +kernel
theorem dX4_swapPairs_19 : decode cX4_swapPairs 19 = .ok (.invokevirtual 136, 3) := by decide +kernel
theorem dX4_swapPairs_22 : decode cX4_swapPairs 22 = .ok (.iconst 4, 1) := by decide +kernel
theorem dX4_swapPairs_23 : decode cX4_swapPairs 23 = .ok (.ireturn, 1) := by decide +kernel
set_option maxRecDepth 20000 in
theorem ggX4_sendToPort_X1_append : GoodIn wsX4_sendToPort wsX1_append := goodIn_r _ [7, 8, 9, 58, 59, 60, 61, 62] (by decide +kernel) (by decide +kernel)
set_option maxRecDepth 20000 in
theorem gX4_sendToPort_X1_append : GoodIn wsX4_sendToPort (wsV RX4 201 RX1 yX1_append wsX1_append) := goodIn_app (goodIn_of _ (by decide +kernel)) ggX4_sendToPort_X1_append
set_option maxRecDepth 20000 in
theorem ggX4_sendToPort_X2_setSector : GoodIn wsX4_sendToPort wsX2_setSector := goodIn_r _ [14, 15, 63, 64, 65, 66, 67, 68, 69, 70, 71, 72, 73] (by decide +kernel) (by decide +kernel)
set_option maxRecDepth 20000 in
theorem gX4_sendToPort_X2_setSector : GoodIn wsX4_sendToPort (wsV RX4 206 RX2 yX2_setSector wsX2_setSector) := goodIn_app (goodIn_of _ (by decide +kernel)) ggX4_sendToPort_X2_setSector
set_option maxRecDepth 20000 in
theorem ggX4_sendToPort_X2_setLowAddress : GoodIn wsX4_sendToPort wsX2_setLowAddress := goodIn_r _ [19, 20, 21, 63, 64, 65, 66, 67, 68, 69, 70, 71, 72, 73] (by decide +kernel) (by decide +kernel)
set_option maxRecDepth 20000 in
theorem gX4_sendToPort_X2_setLowAddress : GoodIn wsX4_sendToPort (wsV RX4 209 RX2 yX2_setLowAddress wsX2_setLowAddress) := goodIn_app (goodIn_of _ (by decide +kernel)) ggX4_sendToPort_X2_setLowAddress
set_option maxRecDepth 20000 in
theorem ggX4_sendToPort_X2_setHighAddress : GoodIn wsX4_sendToPort wsX2_setHighAddress := goodIn_r _ [25, 20, 63, 64, 65, 66, 67, 68, 69, 70, 71, 72, 73] (by decide +kernel) (by decide +kernel)
set_option maxRecDepth 20000 in
theorem gX4_sendToPort_X2_setHighAddress : GoodIn wsX4_sendToPort (wsV RX4 212 RX2 yX2_setHighAddress wsX2_setHighAddress) := goodIn_app (goodIn_of _ (by decide +kernel)) ggX4_sendToPort_X2_setHighAddress
set_option maxRecDepth 20000 in
theorem ggX4_sendToPort_X2_setCall : GoodIn wsX4_sendToPort wsX2_setCall := goodIn_r _ [29, 30, 63, 64, 65, 66, 67, 68, 69, 70, 71, 72, 73] (by decide +kernel) (by decide +kernel)
set_option maxRecDepth 20000 in
theorem gX4_sendToPort_X2_setCall : GoodIn wsX4_sendToPort (wsV RX4 215 RX2 yX2_setCall wsX2_setCall) := goodIn_app (goodIn_of _ (by decide +kernel)) ggX4_sendToPort_X2_setCall
set_option maxRecDepth 20000 in
theorem ggX4_sendToPort_X2_command : GoodIn wsX4_sendToPort wsX2_command := goodIn_r _ [34, 15, 35, 36, 37, 38, 39, 40, 41, 42, 43, 13, 44, 63, 64, 65, 66, 67, 68, 69, 70, 71, 72, 73] (by decide +kernel) (by decide +kernel)
set_option maxRecDepth 20000 in
theorem gX4_sendToPort_X2_command : GoodIn wsX4_sendToPort (wsV RX4 218 RX2 yX2_command wsX2_command) := goodIn_app (goodIn_of _ (by decide +kernel)) ggX4_sendToPort_X2_command
theorem dX4_sendToPort_0 : decode cX4_sendToPort 0 = .ok (.iload_n 1, 1) := by decide +kernel
theorem dX4_sendToPort_1 : decode cX4_sendToPort 1 = .ok (.tableswitch 105 1 6 #[39, 50, 61, 72, 83, 94], 39) := by decide +kernel
theorem dX4_sendToPort_40 : decode cX4_sendToPort 40 = .ok (.aload_n 0, 1) := by decide +kernel
theorem dX4_sendToPort_41 : decode cX4_sendToPort 41 = .ok (.getfield 39, 3) := by decide +kernel
theorem dX4_sendToPort_44 : decode cX4_sendToPort 44 = .ok (.iload_n 2, 1) := by decide +kernel
theorem dX4_sendToPort_45 : decode cX4_sendToPort 45 = .ok (.invokevirtual 201, 3) := by decide +kernel
theorem dX4_sendToPort_48 : decode cX4_sendToPort 48 = .ok (.goto 58, 3) := by decide +kernel
theorem dX4_sendToPort_51 : decode cX4_sendToPort 51 = .ok (.aload_n 0, 1) := by decide +kernel
theorem dX4_sendToPort_52 : decode cX4_sendToPort 52 = .ok (.getfield 43, 3) := by decide +kernel
theorem dX4_sendToPort_55 : decode cX4_sendToPort 55 = .ok (.iload_n 2, 1) := by decide +kernel
theorem dX4_sendToPort_56 : decode cX4_sendToPort 56 = .ok (.invokevirtual 206, 3) := by decide +kernel
theorem dX4_sendToPort_59 : decode cX4_sendToPort 59 = .ok (.goto 47, 3) := by decide +kernel
theorem dX4_sendToPort_62 : decode cX4_sendToPort 62 = .ok (.aload_n 0, 1) := by decide +kernel
theorem dX4_sendToPort_63 : decode cX4_sendToPort 63 = .ok (.getfield 43, 3) := by decide +kernel
theorem dX4_sendToPort_66 : decode cX4_sendToPort 66 = .ok (.iload_n 2, 1) := by decide +kernel
theorem dX4_sendToPort_67 : decode cX4_sendToPort 67 = .ok (.invokevirtual 209, 3) := by decide +kernel
theorem dX4_sendToPort_70 : decode cX4_sendToPort 70 = .ok (.goto 36, 3) := by decide +kernel
theorem dX4_sendToPort_73 : decode cX4_sendToPort 73 = .ok (.aload_n 0, 1) := by decide +kernel
theorem dX4_sendToPort_74 : decode cX4_sendToPort 74 = .ok (.getfield 43, 3) := by decide +kernel
theorem dX4_sendToPort_77 : decode cX4_sendToPort 77 = .ok (.iload_n 2, 1) := by decide +kernel
theorem dX4_sendToPort_78 : decode cX4_sendToPort 78 = .ok (.invokevirtual 212, 3) := by decide +kernel
theorem dX4_sendToPort_81 : decode cX4_sendToPort 81 = .ok (.goto 25, 3) := by decide +kernel
theorem dX4_sendToPort_84 : decode cX4_sendToPort 84 = .ok (.aload_n 0, 1) := by decide +kernel
theorem dX4_sendToPort_85 : decode cX4_sendToPort 85 = .ok (.getfield 43, 3) := by decide +kernel
theorem dX4_sendToPort_88 : decode cX4_sendToPort 88 = .ok (.iload_n 2, 1) := by decide +kernel
theorem dX4_sendToPort_89 : decode cX4_sendToPort 89 = .ok (.invokevirtual 215, 3) := by decide +kernel
theorem dX4_sendToPort_92 : decode cX4_sendToPort 92 = .ok (.goto 14, 3) := by decide +kernel
theorem dX4_sendToPort_95 : decode cX4_sendToPort 95 = .ok (.aload_n 0, 1) := by decide +kernel
theorem dX4_sendToPort_96 : decode cX4_sendToPort 96 = .ok (.getfield 43, 3) := by decide +kernel
theorem dX4_sendToPort_99 : decode cX4_sendToPort 99 = .ok (.iload_n 2, 1) := by decide +kernel
theorem dX4_sendToPort_100 : decode cX4_sendToPort 100 = .ok (.invokevirtual 218, 3) := by decide +kernel
theorem dX4_sendToPort_103 : decode cX4_sendToPort 103 = .ok (.goto 3, 3) := by decide +kernel
theorem dX4_sendToPort_106 : decode cX4_sendToPort 106 = .ok (.return_, 1) := by decide +kernel
set_option maxRecDepth 20000 in
theorem ggX4_takeFromPort_X1_hasInput : GoodIn wsX4_takeFromPort wsX1_hasInput := goodIn_r _ [7, 8, 34, 35, 36, 37, 38] (by decide +kernel) (by decide +kernel)
set_option maxRecDepth 20000 in
theorem gX4_takeFromPort_X1_hasInput : GoodIn wsX4_takeFromPort (wsV RX4 221 RX1 yX1_hasInput wsX1_hasInput) := goodIn_app (goodIn_of _ (by decide +kernel)) ggX4_takeFromPort_X1_hasInput
set_option maxRecDepth 20000 in
theorem ggX4_takeFromPort_X1_nextInput : GoodIn wsX4_takeFromPort wsX1_nextInput := goodIn_r _ [12, 8, 13, 14, 34, 35, 36, 37, 38] (by decide +kernel) (by decide +kernel)
set_option maxRecDepth 20000 in
theorem gX4_takeFromPort_X1_nextInput : GoodIn wsX4_takeFromPort (wsV RX4 225 RX1 yX1_nextInput wsX1_nextInput) := goodIn_app (goodIn_of _ (by decide +kernel)) ggX4_takeFromPort_X1_nextInput
set_option maxRecDepth 20000 in
theorem ggX4_takeFromPort_X2_takeState : GoodIn wsX4_takeFromPort wsX2_takeState := goodIn_r _ [19, 20, 39, 40, 41, 42, 43, 44, 45, 46, 47, 48, 49] (by decide +kernel) (by decide +kernel)
set_option maxRecDepth 20000 in
theorem gX4_takeFromPort_X2_takeState : GoodIn wsX4_takeFromPort (wsV RX4 228 RX2 yX2_takeState wsX2_takeState) := goodIn_app (goodIn_of _ (by decide +kernel)) ggX4_takeFromPort_X2_takeState
theorem dX4_takeFromPort_0 : decode cX4_takeFromPort 0 = .ok (.iload_n 1, 1) := by decide +kernel
theorem dX4_takeFromPort_1 : decode cX4_takeFromPort 1 = .ok (.lookupswitch 67 #[(0, 35), (1, 51), (6, 59)], 35) := by decide +kernel
theorem dX4_takeFromPort_36 : decode cX4_takeFromPort 36 = .ok (.aload_n 0, 1) := by decide +kernel
theorem dX4_takeFromPort_37 : decode cX4_takeFromPort 37 = .ok (.getfield 39, 3) := by decide +kernel
theorem dX4_takeFromPort_40 : decode cX4_takeFromPort 40 = .ok (.invokevirtual 221, 3) := by decide +kernel
theorem dX4_takeFromPort_43 : decode cX4_takeFromPort 43 = .ok (.ifCond .eq 7, 3) := by decide +kernel
theorem dX4_takeFromPort_46 : decode cX4_takeFromPort 46 = .ok (.iconst 1, 1) := by decide +kernel
theorem dX4_takeFromPort_47 : decode cX4_takeFromPort 47 = .ok (.goto 4, 3) := by decide +kernel
theorem dX4_takeFromPort_50 : decode cX4_takeFromPort 50 = .ok (.iconst 0, 1) := by decide +kernel
theorem dX4_takeFromPort_51 : decode cX4_takeFromPort 51 = .ok (.ireturn, 1) := by decide +kernel
theorem dX4_takeFromPort_52 : decode cX4_takeFromPort 52 = .ok (.aload_n 0, 1) := by decide +kernel
theorem dX4_takeFromPort_53 : decode cX4_takeFromPort 53 = .ok (.getfield 39, 3) := by decide +kernel
theorem dX4_takeFromPort_56 : decode cX4_takeFromPort 56 = .ok (.invokevirtual 225, 3) := by decide +kernel
theorem dX4_takeFromPort_59 : decode cX4_takeFromPort 59 = .ok (.ireturn, 1) := by decide +kernel
theorem dX4_takeFromPort_60 : decode cX4_takeFromPort 60 = .ok (.aload_n 0, 1) := by decide +kernel
theorem dX4_takeFromPort_61 : decode cX4_takeFromPort 61 = .ok (.getfield 43, 3) := by decide +kernel
theorem dX4_takeFromPort_64 : decode cX4_takeFromPort 64 = .ok (.invokevirtual 228, 3) := by decide +kernel
theorem dX4_takeFromPort_67 : decode cX4_takeFromPort 67 = .ok (.ireturn, 1) := by decide +kernel
theorem dX4_takeFromPort_68 : decode cX4_takeFromPort 68 = .ok (.sipush 255, 3) := by decide +kernel
theorem dX4_takeFromPort_71 : decode cX4_takeFromPort 71 = .ok (.ireturn, 1) := by decide +kernel
set_option maxRecDepth 20000 in
theorem ggX4_value_X4_pair : GoodIn wsX4_value wsX4_pair := goodIn_r _ [7, 8, 2, 15, 16, 17, 18, 19, 20, 21, 22, 23, 24, 25, 26, 27] (by decide +kernel) (by decide +kernel)
set_option maxRecDepth 20000 in
theorem gX4_value_X4_pair : GoodIn wsX4_value (wsV RX4 139 RX4 yX4_pair wsX4_pair) := goodIn_app (goodIn_of _ (by decide +kernel)) ggX4_value_X4_pair
set_option maxRecDepth 20000 in
theorem ggX4_value_X5_byteAt : GoodIn wsX4_value wsX5_byteAt := goodIn_r _ [13, 14, 28] (by decide +kernel) (by decide +kernel)
set_option maxRecDepth 20000 in
theorem gX4_value_X5_byteAt : GoodIn wsX4_value (wsV RX4 151 RX5 yX5_byteAt wsX5_byteAt) := goodIn_app (goodIn_of _ (by decide +kernel)) ggX4_value_X5_byteAt
theorem dX4_value_0 : decode cX4_value 0 = .ok (.iload_n 1, 1) := by decide +kernel
theorem dX4_value_1 : decode cX4_value 1 = .ok (.bipush 6, 2) := by decide +kernel
theorem dX4_value_3 : decode cX4_value 3 = .ok (.if_icmp .ne 18, 3) := by decide +kernel
theorem dX4_value_6 : decode cX4_value 6 = .ok (.aload_n 0, 1) := by decide +kernel
theorem dX4_value_7 : decode cX4_value 7 = .ok (.getfield 35, 3) := by decide +kernel
theorem dX4_value_10 : decode cX4_value 10 = .ok (.aload_n 0, 1) := by decide +kernel
theorem dX4_value_11 : decode cX4_value 11 = .ok (.iconst 2, 1) := by decide +kernel
theorem dX4_value_12 : decode cX4_value 12 = .ok (.invokevirtual 139, 3) := by decide +kernel
theorem dX4_value_15 : decode cX4_value 15 = .ok (.invokevirtual 151, 3) := by decide +kernel
theorem dX4_value_18 : decode cX4_value 18 = .ok (.goto 9, 3) := by decide +kernel
theorem dX4_value_21 : decode cX4_value 21 = .ok (.aload_n 0, 1) := by decide +kernel
theorem dX4_value_22 : decode cX4_value 22 = .ok (.getfield 27, 3) := by decide +kernel
theorem dX4_value_25 : decode cX4_value 25 = .ok (.iload_n 1, 1) := by decide +kernel
theorem dX4_value_26 : decode cX4_value 26 = .ok (.iaload, 1) := by decide +kernel
theorem dX4_value_27 : decode cX4_value 27 = .ok (.ireturn, 1) := by decide +kernel
set_option maxRecDepth 20000 in
theorem ggX4_setValue_X4_pair : GoodIn wsX4_setValue wsX4_pair := goodIn_r _ [7, 8, 2, 15, 16, 17, 18, 19, 20, 21, 22, 23, 24, 25, 26, 27] (by decide +kernel) (by decide +kernel)
set_option maxRecDepth 20000 in
theorem gX4_setValue_X4_pair : GoodIn wsX4_setValue (wsV RX4 139 RX4 yX4_pair wsX4_pair) := goodIn_app (goodIn_of _ (by decide +kernel)) ggX4_setValue_X4_pair
set_option maxRecDepth 20000 in
theorem ggX4_setValue_X5_setByte : GoodIn wsX4_setValue wsX5_setByte := goodIn_r _ [13, 14, 28] (by decide +kernel) (by decide +kernel)
set_option maxRecDepth 20000 in
theorem gX4_setValue_X5_setByte : GoodIn wsX4_setValue (wsV RX4 146 RX5 yX5_setByte wsX5_setByte) := goodIn_app (goodIn_of _ (by decide +kernel)) ggX4_setValue_X5_setByte
theorem dX4_setValue_0 : decode cX4_setValue 0 = .ok (.iload_n 1, 1) := by decide +kernel
theorem dX4_setValue_1 : decode cX4_setValue 1 = .ok (.bipush 6, 2) := by decide +kernel
theorem dX4_setValue_3 : decode cX4_setValue 3 = .ok (.if_icmp .ne 19, 3) := by decide +kernel
theorem dX4_setValue_6 : decode cX4_setValue 6 = .ok (.aload_n 0, 1) := by decide +kernel
theorem dX4_setValue_7 : decode cX4_setValue 7 = .ok (.getfield 35, 3) := by decide +kernel
theorem dX4_setValue_10 : decode cX4_setValue 10 = .ok (.aload_n 0, 1) := by decide +kernel
theorem dX4_setValue_11 : decode cX4_setValue 11 = .ok (.iconst 2, 1) := by decide +kernel
theorem dX4_setValue_12 : decode cX4_setValue 12 = .ok (.invokevirtual 139, 3) := by decide +kernel
theorem dX4_setValue_15 : decode cX4_setValue 15 = .ok (.iload_n 2, 1) := by decide +kernel
theorem dX4_setValue_16 : decode cX4_setValue 16 = .ok (.invokevirtual 146, 3) := by decide +kernel
theorem dX4_setValue_19 : decode cX4_setValue 19 = .ok (.goto 10, 3) := by decide +kernel
theorem dX4_setValue_22 : decode cX4_setValue 22 = .ok (.aload_n 0, 1) := by decide +kernel
theorem dX4_setValue_23 : decode cX4_setValue 23 = .ok (.getfield 27, 3) := by decide +kernel
theorem dX4_setValue_26 : decode cX4_setValue 26 = .ok (.iload_n 1, 1) := by decide +kernel
theorem dX4_setValue_27 : decode cX4_setValue 27 = .ok (.iload_n 2, 1) := by decide +kernel
theorem dX4_setValue_28 : decode cX4_setValue 28 = .ok (.iastore, 1) := by decide +kernel
theorem dX4_setValue_29 : decode cX4_setValue 29 = .ok (.return_, 1) := by decide +kernel
theorem dX4_pair_0 : decode cX4_pair 0 = .ok (.iload_n 1, 1) := by decide +kernel
theorem dX4_pair_1 : decode cX4_pair 1 = .ok (.iconst 3, 1) := by decide +kernel
theorem dX4_pair_2 : decode cX4_pair 2 = .ok (.if_icmp .ne 10, 3) := by decide +kernel
theorem dX4_pair_5 : decode cX4_pair 5 = .ok (.aload_n 0, 1) := by decide +kernel
theorem dX4_pair_6 : decode cX4_pair 6 = .ok (.getfield 54, 3) := by decide +kernel
theorem dX4_pair_9 : decode cX4_pair 9 = .ok (.goto 25, 3) := by decide +kernel
theorem dX4_pair_12 : decode cX4_pair 12 = .ok (.aload_n 0, 1) := by decide +kernel
theorem dX4_pair_13 : decode cX4_pair 13 = .ok (.getfield 27, 3) := by decide +kernel
theorem dX4_pair_16 : decode cX4_pair 16 = .ok (.iconst 2, 1) := by decide +kernel
theorem dX4_pair_17 : decode cX4_pair 17 = .ok (.iload_n 1, 1) := by decide +kernel
theorem dX4_pair_18 : decode cX4_pair 18 = .ok (.imul, 1) := by decide +kernel
theorem dX4_pair_19 : decode cX4_pair 19 = .ok (.iaload, 1) := by decide +kernel
theorem dX4_pair_20 : decode cX4_pair 20 = .ok (.bipush 8, 2) := by decide +kernel
theorem dX4_pair_22 : decode cX4_pair 22 = .ok (.ishl, 1) := by decide +kernel
theorem dX4_pair_23 : decode cX4_pair 23 = .ok (.aload_n 0, 1) := by decide +kernel
theorem dX4_pair_24 : decode cX4_pair 24 = .ok (.getfield 27, 3) := by decide +kernel
theorem dX4_pair_27 : decode cX4_pair 27 = .ok (.iconst 2, 1) := by decide +kernel
theorem dX4_pair_28 : decode cX4_pair 28 = .ok (.iload_n 1, 1) := by decide +kernel
theorem dX4_pair_29 : decode cX4_pair 29 = .ok (.imul, 1) := by decide +kernel
theorem dX4_pair_30 : decode cX4_pair 30 = .ok (.iconst 1, 1) := by decide +kernel
theorem dX4_pair_31 : decode cX4_pair 31 = .ok (.iadd, 1) := by decide +kernel
theorem dX4_pair_32 : decode cX4_pair 32 = .ok (.iaload, 1) := by decide +kernel
theorem dX4_pair_33 : decode cX4_pair 33 = .ok (.ior, 1) := by decide +kernel
theorem dX4_pair_34 : decode cX4_pair 34 = .ok (.ireturn, 1) := by decide +kernel
theorem dX4_setPair_0 : decode cX4_setPair 0 = .ok (.iload_n 1, 1) := by decide +kernel
theorem dX4_setPair_1 : decode cX4_setPair 1 = .ok (.iconst 3, 1) := by decide +kernel
theorem dX4_setPair_2 : decode cX4_setPair 2 = .ok (.if_icmp .ne 14, 3) := by decide +kernel
theorem dX4_setPair_5 : decode cX4_setPair 5 = .ok (.aload_n 0, 1) := by decide +kernel
theorem dX4_setPair_6 : decode cX4_setPair 6 = .ok (.iload_n 2, 1) := by decide +kernel
theorem dX4_setPair_7 : decode cX4_setPair 7 = .ok (.ldc 61, 2) := by decide +kernel
theorem dX4_setPair_9 : decode cX4_setPair 9 = .ok (.iand, 1) := by decide +kernel
theorem dX4_setPair_10 : decode cX4_setPair 10 = .ok (.putfield 54, 3) := by decide +kernel
theorem dX4_setPair_13 : decode cX4_setPair 13 = .ok (.goto 34, 3) := by decide +kernel
theorem dX4_setPair_16 : decode cX4_setPair 16 = .ok (.aload_n 0, 1) := by decide +kernel
theorem dX4_setPair_17 : decode cX4_setPair 17 = .ok (.getfield 27, 3) := by decide +kernel
theorem dX4_setPair_20 : decode cX4_setPair 20 = .ok (.iconst 2, 1) := by decide +kernel
theorem dX4_setPair_21 : decode cX4_setPair 21 = .ok (.iload_n 1, 1) := by decide +kernel
theorem dX4_setPair_22 : decode cX4_setPair 22 = .ok (.imul, 1) := by decide +kernel
theorem dX4_setPair_23 : decode cX4_setPair 23 = .ok (.iload_n 2, 1) := by decide +kernel
theorem dX4_setPair_24 : decode cX4_setPair 24 = .ok (.bipush 8, 2) := by decide +kernel
theorem dX4_setPair_26 : decode cX4_setPair 26 = .ok (.ishr, 1) := by decide +kernel
theorem dX4_setPair_27 : decode cX4_setPair 27 = .ok (.sipush 255, 3) := by decide +kernel
theorem dX4_setPair_30 : decode cX4_setPair 30 = .ok (.iand, 1) := by decide +kernel
end
section
theorem dX4_setPair_31 : decode cX4_setPair 31 = .ok (.iastore, 1) := by decide +kernel
theorem dX4_setPair_32 : decode cX4_setPair 32 = .ok (.aload_n 0, 1) := by decide +kernel
theorem dX4_setPair_33 : decode cX4_setPair 33 = .ok (.getfield 27, 3) := by decide +kernel
theorem dX4_setPair_36 : decode cX4_setPair 36 = .ok (.iconst 2, 1) := by decide +kernel
theorem dX4_setPair_37 : decode cX4_setPair 37 = .ok (.iload_n 1, 1) := by decide +kernel
theorem dX4_setPair_38 : decode cX4_setPair 38 = .ok (.imul, 1) := by decide +kernel
theorem dX4_setPair_39 : decode cX4_setPair 39 = .ok (.iconst 1, 1) := by decide +kernel
theorem dX4_setPair_40 : decode cX4_setPair 40 = .ok (.iadd, 1) := by decide +kernel
theorem dX4_setPair_41 : decode cX4_setPair 41 = .ok (.iload_n 2, 1) := by decide +kernel
theorem dX4_setPair_42 : decode cX4_setPair 42 = .ok (.sipush 255, 3) := by decide +kernel
theorem dX4_setPair_45 : decode cX4_setPair 45 = .ok (.iand, 1) := by decide +kernel
theorem dX4_setPair_46 : decode cX4_setPair 46 = .ok (.iastore, 1) := by decide +kernel
theorem dX4_setPair_47 : decode cX4_setPair 47 = .ok (.return_, 1) := by decide +kernel
set_option maxRecDepth 20000 in
theorem ggX4_push_X5_setWord : GoodIn wsX4_push wsX5_setWord := goodIn_r _ [8, 9, 23] (by decide +kernel) (by decide +kernel)
set_option maxRecDepth 20000 in
theorem gX4_push_X5_setWord : GoodIn wsX4_push (wsV RX4 154 RX5 yX5_setWord wsX5_setWord) := goodIn_app (goodIn_of _ (by decide +kernel)) ggX4_push_X5_setWord
theorem dX4_push_0 : decode cX4_push 0 = .ok (.aload_n 0, 1) := by decide +kernel
theorem dX4_push_1 : decode cX4_push 1 = .ok (.aload_n 0, 1) := by decide +kernel
theorem dX4_push_2 : decode cX4_push 2 = .ok (.getfield 54, 3) := by decide +kernel
theorem dX4_push_5 : decode cX4_push 5 = .ok (.iconst 2, 1) := by decide +kernel
theorem dX4_push_6 : decode cX4_push 6 = .ok (.isub, 1) := by decide +kernel
theorem dX4_push_7 : decode cX4_push 7 = .ok (.ldc 61, 2) := by decide +kernel
theorem dX4_push_9 : decode cX4_push 9 = .ok (.iand, 1) := by decide +kernel
theorem dX4_push_10 : decode cX4_push 10 = .ok (.putfield 54, 3) := by decide +kernel
theorem dX4_push_13 : decode cX4_push 13 = .ok (.aload_n 0, 1) := by decide +kernel
theorem dX4_push_14 : decode cX4_push 14 = .ok (.getfield 35, 3) := by decide +kernel
theorem dX4_push_17 : decode cX4_push 17 = .ok (.aload_n 0, 1) := by decide +kernel
theorem dX4_push_18 : decode cX4_push 18 = .ok (.getfield 54, 3) := by decide +kernel
theorem dX4_push_21 : decode cX4_push 21 = .ok (.iload_n 1, 1) := by decide +kernel
theorem dX4_push_22 : decode cX4_push 22 = .ok (.invokevirtual 154, 3) := by decide +kernel
theorem dX4_push_25 : decode cX4_push 25 = .ok (.return_, 1) := by decide +kernel
set_option maxRecDepth 20000 in
theorem ggX4_pop_X5_wordAt : GoodIn wsX4_pop wsX5_wordAt := goodIn_r _ [8, 9, 23] (by decide +kernel) (by decide +kernel)
set_option maxRecDepth 20000 in
theorem gX4_pop_X5_wordAt : GoodIn wsX4_pop (wsV RX4 157 RX5 yX5_wordAt wsX5_wordAt) := goodIn_app (goodIn_of _ (by decide +kernel)) ggX4_pop_X5_wordAt
theorem dX4_pop_0 : decode cX4_pop 0 = .ok (.aload_n 0, 1) := by decide +kernel
theorem dX4_pop_1 : decode cX4_pop 1 = .ok (.getfield 35, 3) := by decide +kernel
theorem dX4_pop_4 : decode cX4_pop 4 = .ok (.aload_n 0, 1) := by decide +kernel
theorem dX4_pop_5 : decode cX4_pop 5 = .ok (.getfield 54, 3) := by decide +kernel
theorem dX4_pop_8 : decode cX4_pop 8 = .ok (.invokevirtual 157, 3) := by decide +kernel
theorem dX4_pop_11 : decode cX4_pop 11 = .ok (.istore_n 1, 1) := by decide +kernel
theorem dX4_pop_12 : decode cX4_pop 12 = .ok (.aload_n 0, 1) := by decide +kernel
theorem dX4_pop_13 : decode cX4_pop 13 = .ok (.aload_n 0, 1) := by decide +kernel
theorem dX4_pop_14 : decode cX4_pop 14 = .ok (.getfield 54, 3) := by decide +kernel
theorem dX4_pop_17 : decode cX4_pop 17 = .ok (.iconst 2, 1) := by decide +kernel
theorem dX4_pop_18 : decode cX4_pop 18 = .ok (.iadd, 1) := by decide +kernel
theorem dX4_pop_19 : decode cX4_pop 19 = .ok (.ldc 61, 2) := by decide +kernel
theorem dX4_pop_21 : decode cX4_pop 21 = .ok (.iand, 1) := by decide +kernel
theorem dX4_pop_22 : decode cX4_pop 22 = .ok (.putfield 54, 3) := by decide +kernel
theorem dX4_pop_25 : decode cX4_pop 25 = .ok (.iload_n 1, 1) := by decide +kernel
theorem dX4_pop_26 : decode cX4_pop 26 = .ok (.ireturn, 1) := by decide +kernel
set_option maxRecDepth 20000 in
theorem ggX4_nextByte_X5_byteAt : GoodIn wsX4_nextByte wsX5_byteAt := goodIn_r _ [8, 9, 23] (by decide +kernel) (by decide +kernel)
set_option maxRecDepth 20000 in
theorem gX4_nextByte_X5_byteAt : GoodIn wsX4_nextByte (wsV RX4 151 RX5 yX5_byteAt wsX5_byteAt) := goodIn_app (goodIn_of _ (by decide +kernel)) ggX4_nextByte_X5_byteAt
theorem dX4_nextByte_0 : decode cX4_nextByte 0 = .ok (.aload_n 0, 1) := by decide +kernel
theorem dX4_nextByte_1 : decode cX4_nextByte 1 = .ok (.getfield 35, 3) := by decide +kernel
theorem dX4_nextByte_4 : decode cX4_nextByte 4 = .ok (.aload_n 0, 1) := by decide +kernel
theorem dX4_nextByte_5 : decode cX4_nextByte 5 = .ok (.getfield 51, 3) := by decide +kernel
theorem dX4_nextByte_8 : decode cX4_nextByte 8 = .ok (.invokevirtual 151, 3) := by decide +kernel
theorem dX4_nextByte_11 : decode cX4_nextByte 11 = .ok (.istore_n 1, 1) := by decide +kernel
theorem dX4_nextByte_12 : decode cX4_nextByte 12 = .ok (.aload_n 0, 1) := by decide +kernel
theorem dX4_nextByte_13 : decode cX4_nextByte 13 = .ok (.aload_n 0, 1) := by decide +kernel
theorem dX4_nextByte_14 : decode cX4_nextByte 14 = .ok (.getfield 51, 3) := by decide +kernel
theorem dX4_nextByte_17 : decode cX4_nextByte 17 = .ok (.iconst 1, 1) := by decide +kernel
theorem dX4_nextByte_18 : decode cX4_nextByte 18 = .ok (.iadd, 1) := by decide +kernel
theorem dX4_nextByte_19 : decode cX4_nextByte 19 = .ok (.ldc 61, 2) := by decide +kernel
theorem dX4_nextByte_21 : decode cX4_nextByte 21 = .ok (.iand, 1) := by decide +kernel
theorem dX4_nextByte_22 : decode cX4_nextByte 22 = .ok (.putfield 51, 3) := by decide +kernel
theorem dX4_nextByte_25 : decode cX4_nextByte 25 = .ok (.iload_n 1, 1) := by decide +kernel
theorem dX4_nextByte_26 : decode cX4_nextByte 26 = .ok (.ireturn, 1) := by decide +kernel
set_option maxRecDepth 20000 in
theorem ggX4_nextWord_X5_wordAt : GoodIn wsX4_nextWord wsX5_wordAt := goodIn_r _ [8, 9, 23] (by decide +kernel) (by decide +kernel)
set_option maxRecDepth 20000 in
theorem gX4_nextWord_X5_wordAt : GoodIn wsX4_nextWord (wsV RX4 157 RX5 yX5_wordAt wsX5_wordAt) := goodIn_app (goodIn_of _ (by decide +kernel)) ggX4_nextWord_X5_wordAt
theorem dX4_nextWord_0 : decode cX4_nextWord 0 = .ok (.aload_n 0, 1) := by decide +kernel
theorem dX4_nextWord_1 : decode cX4_nextWord 1 = .ok (.getfield 35, 3) := by decide +kernel
theorem dX4_nextWord_4 : decode cX4_nextWord 4 = .ok (.aload_n 0, 1) := by decide +kernel
theorem dX4_nextWord_5 : decode cX4_nextWord 5 = .ok (.getfield 51, 3) := by decide +kernel
theorem dX4_nextWord_8 : decode cX4_nextWord 8 = .ok (.invokevirtual 157, 3) := by decide +kernel
theorem dX4_nextWord_11 : decode cX4_nextWord 11 = .ok (.istore_n 1, 1) := by decide +kernel
theorem dX4_nextWord_12 : decode cX4_nextWord 12 = .ok (.aload_n 0, 1) := by decide +kernel
theorem dX4_nextWord_13 : decode cX4_nextWord 13 = .ok (.aload_n 0, 1) := by decide +kernel
theorem dX4_nextWord_14 : decode cX4_nextWord 14 = .ok (.getfield 51, 3) := by decide +kernel
theorem dX4_nextWord_17 : decode cX4_nextWord 17 = .ok (.iconst 2, 1) := by decide +kernel
theorem dX4_nextWord_18 : decode cX4_nextWord 18 = .ok (.iadd, 1) := by decide +kernel
theorem dX4_nextWord_19 : decode cX4_nextWord 19 = .ok (.ldc 61, 2) := by decide +kernel
theorem dX4_nextWord_21 : decode cX4_nextWord 21 = .ok (.iand, 1) := by decide +kernel
theorem dX4_nextWord_22 : decode cX4_nextWord 22 = .ok (.putfield 51, 3) := by decide +kernel
theorem dX4_nextWord_25 : decode cX4_nextWord 25 = .ok (.iload_n 1, 1) := by decide +kernel
theorem dX4_nextWord_26 : decode cX4_nextWord 26 = .ok (.ireturn, 1) := by decide +kernel
theorem dX5_init_0 : decode cX5_init 0 = .ok (.aload_n 0, 1) := by decide +kernel
theorem dX5_init_1 : decode cX5_init 1 = .ok (.invokespecial 5, 3) := by decide +kernel
theorem dX5_init_4 : decode cX5_init 4 = .ok (.aload_n 0, 1) := by decide +kernel
theorem dX5_init_5 : decode cX5_init 5 = .ok (.sipush 4096, 3) := by decide +kernel
theorem dX5_init_8 : decode cX5_init 8 = .ok (.newarray .int, 2) := by decide +kernel
theorem dX5_init_10 : decode cX5_init 10 = .ok (.putfield 11, 3) := by decide +kernel
theorem dX5_init_13 : decode cX5_init 13 = .ok (.return_, 1) := by decide +kernel
theorem dX5_byteAt_0 : decode cX5_byteAt 0 = .ok (.aload_n 0, 1) := by decide +kernel
theorem dX5_byteAt_1 : decode cX5_byteAt 1 = .ok (.getfield 11, 3) := by decide +kernel
theorem dX5_byteAt_4 : decode cX5_byteAt 4 = .ok (.iload_n 1, 1) := by decide +kernel
theorem dX5_byteAt_5 : decode cX5_byteAt 5 = .ok (.sipush 4095, 3) := by decide +kernel
theorem dX5_byteAt_8 : decode cX5_byteAt 8 = .ok (.iand, 1) := by decide +kernel
theorem dX5_byteAt_9 : decode cX5_byteAt 9 = .ok (.iaload, 1) := by decide +kernel
theorem dX5_byteAt_10 : decode cX5_byteAt 10 = .ok (.ireturn, 1) := by decide +kernel
theorem dX5_setByte_0 : decode cX5_setByte 0 = .ok (.aload_n 0, 1) := by decide +kernel
theorem dX5_setByte_1 : decode cX5_setByte 1 = .ok (.getfield 11, 3) := by decide +kernel
theorem dX5_setByte_4 : decode cX5_setByte 4 = .ok (.iload_n 1, 1) := by decide +kernel
theorem dX5_setByte_5 : decode cX5_setByte 5 = .ok (.sipush 4095, 3) := by decide +kernel
theorem dX5_setByte_8 : decode cX5_setByte 8 = .ok (.iand, 1) := by decide +kernel
theorem dX5_setByte_9 : decode cX5_setByte 9 = .ok (.iload_n 2, 1) := by decide +kernel
theorem dX5_setByte_10 : decode cX5_setByte 10 = .ok (.sipush 255, 3) := by decide +kernel
theorem dX5_setByte_13 : decode cX5_setByte 13 = .ok (.iand, 1) := by decide +kernel
theorem dX5_setByte_14 : decode cX5_setByte 14 = .ok (.iastore, 1) := by decide +kernel
theorem dX5_setByte_15 : decode cX5_setByte 15 = .ok (.return_, 1) := by decide +kernel
set_option maxRecDepth 20000 in
theorem ggX5_exchange_X5_byteAt : GoodIn wsX5_exchange wsX5_byteAt := goodIn_r _ [5, 6, 11] (by decide +kernel) (by decide +kernel)
set_option maxRecDepth 20000 in
theorem gX5_exchange_X5_byteAt : GoodIn wsX5_exchange (wsV RX5 15 RX5 yX5_byteAt wsX5_byteAt) := goodIn_app (goodIn_of _ (by decide +kernel)) ggX5_exchange_X5_byteAt
set_option maxRecDepth 20000 in
theorem ggX5_exchange_X5_setByte : GoodIn wsX5_exchange wsX5_setByte := goodIn_r _ [10, 6, 11] (by decide +kernel) (by decide +kernel)
set_option maxRecDepth 20000 in
theorem gX5_exchange_X5_setByte : GoodIn wsX5_exchange (wsV RX5 19 RX5 yX5_setByte wsX5_setByte) := goodIn_app (goodIn_of _ (by decide +kernel)) ggX5_exchange_X5_setByte
theorem dX5_exchange_0 : decode cX5_exchange 0 = .ok (.aload_n 0, 1) := by decide +kernel
theorem dX5_exchange_1 : decode cX5_exchange 1 = .ok (.iload_n 1, 1) := by decide +kernel
theorem dX5_exchange_2 : decode cX5_exchange 2 = .ok (.invokevirtual 15, 3) := by decide +kernel
theorem dX5_exchange_5 : decode cX5_exchange 5 = .ok (.istore_n 3, 1) := by decide +kernel
theorem dX5_exchange_6 : decode cX5_exchange 6 = .ok (.aload_n 0, 1) := by decide +kernel
theorem dX5_exchange_7 : decode cX5_exchange 7 = .ok (.iload_n 1, 1) := by decide +kernel
theorem dX5_exchange_8 : decode cX5_exchange 8 = .ok (.iload_n 2, 1) := by decide +kernel
theorem dX5_exchange_9 : decode cX5_exchange 9 = .ok (.invokevirtual 19, 3) := by decide +kernel
theorem dX5_exchange_12 : decode cX5_exchange 12 = .ok (.iload_n 3, 1) := by decide +kernel
theorem dX5_exchange_13 : decode cX5_exchange 13 = .ok (.ireturn, 1) := by decide +kernel
theorem dX5_wordAt_0 : decode cX5_wordAt 0 = .ok (.aload_n 0, 1) := by decide +kernel
theorem dX5_wordAt_1 : decode cX5_wordAt 1 = .ok (.getfield 11, 3) := by decide +kernel
theorem dX5_wordAt_4 : decode cX5_wordAt 4 = .ok (.iload_n 1, 1) := by decide +kernel
theorem dX5_wordAt_5 : decode cX5_wordAt 5 = .ok (.sipush 4095, 3) := by decide +kernel
theorem dX5_wordAt_8 : decode cX5_wordAt 8 = .ok (.iand, 1) := by decide +kernel
theorem dX5_wordAt_9 : decode cX5_wordAt 9 = .ok (.iaload, 1) := by decide +kernel
theorem dX5_wordAt_10 : decode cX5_wordAt 10 = .ok (.aload_n 0, 1) := by decide +kernel
theorem dX5_wordAt_11 : decode cX5_wordAt 11 = .ok (.getfield 11, 3) := by decide +kernel
theorem dX5_wordAt_14 : decode cX5_wordAt 14 = .ok (.iload_n 1, 1) := by decide +kernel
theorem dX5_wordAt_15 : decode cX5_wordAt 15 = .ok (.iconst 1, 1) := by decide +kernel
theorem dX5_wordAt_16 : decode cX5_wordAt 16 = .ok (.iadd, 1) := by decide +kernel
theorem dX5_wordAt_17 : decode cX5_wordAt 17 = .ok (.sipush 4095, 3) := by decide +kernel
theorem dX5_wordAt_20 : decode cX5_wordAt 20 = .ok (.iand, 1) := by decide +kernel
theorem dX5_wordAt_21 : decode cX5_wordAt 21 = .ok (.iaload, 1) := by decide +kernel
theorem dX5_wordAt_22 : decode cX5_wordAt 22 = .ok (.bipush 8, 2) := by decide +kernel
theorem dX5_wordAt_24 : decode cX5_wordAt 24 = .ok (.ishl, 1) := by decide +kernel
theorem dX5_wordAt_25 : decode cX5_wordAt 25 = .ok (.ior, 1) := by decide +kernel
theorem dX5_wordAt_26 : decode cX5_wordAt 26 = .ok (.ireturn, 1) := by decide +kernel
theorem dX5_setWord_0 : decode cX5_setWord 0 = .ok (.aload_n 0, 1) := by decide +kernel
theorem dX5_setWord_1 : decode cX5_setWord 1 = .ok (.getfield 11, 3) := by decide +kernel
theorem dX5_setWord_4 : decode cX5_setWord 4 = .ok (.iload_n 1, 1) := by decide +kernel
theorem dX5_setWord_5 : decode cX5_setWord 5 = .ok (.sipush 4095, 3) := by decide +kernel
theorem dX5_setWord_8 : decode cX5_setWord 8 = .ok (.iand, 1) := by decide +kernel
theorem dX5_setWord_9 : decode cX5_setWord 9 = .ok (.iload_n 2, 1) := by decide +kernel
theorem dX5_setWord_10 : decode cX5_setWord 10 = .ok (.sipush 255, 3) := by decide +kernel
theorem dX5_setWord_13 : decode cX5_setWord 13 = .ok (.iand, 1) := by decide +kernel
theorem dX5_setWord_14 : decode cX5_setWord 14 = .ok (.iastore, 1) := by decide +kernel
theorem dX5_setWord_15 : decode cX5_setWord 15 = .ok (.aload_n 0, 1) := by decide +kernel
theorem dX5_setWord_16 : decode cX5_setWord 16 = .ok (.getfield 11, 3) := by decide +kernel
theorem dX5_setWord_19 : decode cX5_setWord 19 = .ok (.iload_n 1, 1) := by decide +kernel
theorem dX5_setWord_20 : decode cX5_setWord 20 = .ok (.iconst 1, 1) := by decide +kernel
theorem dX5_setWord_21 : decode cX5_setWord 21 = .ok (.iadd, 1) := by decide +kernel
theorem dX5_setWord_22 : decode cX5_setWord 22 = .ok (.sipush 4095, 3) := by decide +kernel
theorem dX5_setWord_25 : decode cX5_setWord 25 = .ok (.iand, 1) := by decide +kernel
theorem dX5_setWord_26 : decode cX5_setWord 26 = .ok (.iload_n 2, 1) := by decide +kernel
theorem dX5_setWord_27 : decode cX5_setWord 27 = .ok (.bipush 8, 2) := by decide +kernel
theorem dX5_setWord_29 : decode cX5_setWord 29 = .ok (.ishr, 1) := by decide +kernel
theorem dX5_setWord_30 : decode cX5_setWord 30 = .ok (.sipush 255, 3) := by decide +kernel
theorem dX5_setWord_33 : decode cX5_setWord 33 = .ok (.iand, 1) := by decide +kernel
theorem dX5_setWord_34 : decode cX5_setWord 34 = .ok (.iastore, 1) := by decide +kernel
theorem dX5_setWord_35 : decode cX5_setWord 35 = .ok (.return_, 1) := by decide +kernel
theorem dX5_weighedTotal_0 : decode cX5_weighedTotal 0 = .ok (.iconst 0, 1) := by decide +kernel
theorem dX5_weighedTotal_1 : decode cX5_weighedTotal 1 = .ok (.istore_n 1, 1) := by decide +kernel
theorem dX5_weighedTotal_2 : decode cX5_weighedTotal 2 = .ok (.iconst 0, 1) := by decide +kernel
theorem dX5_weighedTotal_3 : decode cX5_weighedTotal 3 = .ok (.istore_n 2, 1) := by decide +kernel
theorem dX5_weighedTotal_4 : decode cX5_weighedTotal 4 = .ok (.iload_n 2, 1) := by decide +kernel
theorem dX5_weighedTotal_5 : decode cX5_weighedTotal 5 = .ok (.sipush 4096, 3) := by decide +kernel
theorem dX5_weighedTotal_8 : decode cX5_weighedTotal 8 = .ok (.if_icmp .ge 22, 3) := by decide +kernel
theorem dX5_weighedTotal_11 : decode cX5_weighedTotal 11 = .ok (.iload_n 1, 1) := by decide +kernel
theorem dX5_weighedTotal_12 : decode cX5_weighedTotal 12 = .ok (.aload_n 0, 1) := by decide +kernel
theorem dX5_weighedTotal_13 : decode cX5_weighedTotal 13 = .ok (.getfield 11, 3) := by decide +kernel
theorem dX5_weighedTotal_16 : decode cX5_weighedTotal 16 = .ok (.iload_n 2, 1) := by decide +kernel
theorem dX5_weighedTotal_17 : decode cX5_weighedTotal 17 = .ok (.iaload, 1) := by decide +kernel
theorem dX5_weighedTotal_18 : decode cX5_weighedTotal 18 = .ok (.iload_n 2, 1) := by decide +kernel
theorem dX5_weighedTotal_19 : decode cX5_weighedTotal 19 = .ok (.iconst 1, 1) := by decide +kernel
theorem dX5_weighedTotal_20 : decode cX5_weighedTotal 20 = .ok (.iadd, 1) := by decide +kernel
theorem dX5_weighedTotal_21 : decode cX5_weighedTotal 21 = .ok (.imul, 1) := by decide +kernel
theorem dX5_weighedTotal_22 : decode cX5_weighedTotal 22 = .ok (.iadd, 1) := by decide +kernel
theorem dX5_weighedTotal_23 : decode cX5_weighedTotal 23 = .ok (.istore_n 1, 1) := by decide +kernel
theorem dX5_weighedTotal_24 : decode cX5_weighedTotal 24 = .ok (.iinc 2 1, 3) := by decide +kernel
theorem dX5_weighedTotal_27 : decode cX5_weighedTotal 27 = .ok (.goto (-23), 3) := by decide +kernel
theorem dX5_weighedTotal_30 : decode cX5_weighedTotal 30 = .ok (.iload_n 1, 1) := by decide +kernel
theorem dX5_weighedTotal_31 : decode cX5_weighedTotal 31 = .ok (.ireturn, 1) := by decide +kernel
set_option maxRecDepth 20000 in
theorem ggX6_init_X5_init : GoodIn wsX6_init wsX5_init := goodIn_r _ [22, 23, 2, 3, 24, 25, 62] (by decide +kernel) (by decide +kernel)
set_option maxRecDepth 20000 in
theorem gX6_init_X5_init_n9 : GoodIn wsX6_init (wsX5_init) := ggX6_init_X5_init
set_option maxRecDepth 20000 in
theorem ggX6_init_X1_init : GoodIn wsX6_init wsX1_init := goodIn_r _ [27, 28, 2, 3, 24, 29, 30, 68, 69, 70, 71, 72] (by decide +kernel) (by decide +kernel)
set_option maxRecDepth 20000 in
theorem gX6_init_X1_init_n21 : GoodIn wsX6_init (wsX1_init) := ggX6_init_X1_init
set_option maxRecDepth 20000 in
theorem ggX6_init_X2_init : GoodIn wsX6_init wsX2_init := goodIn_r _ [33, 34, 2, 3, 35, 36, 73, 74, 75, 76, 77, 78, 79, 80, 81, 82, 83] (by decide +kernel) (by decide +kernel)
set_option maxRecDepth 20000 in
theorem gX6_init_X2_init : GoodIn wsX6_init (wsX2_init) := ggX6_init_X2_init
set_option maxRecDepth 20000 in
theorem ggX6_init_X4_init : GoodIn wsX6_init wsX4_init := goodIn_r _ [39, 40, 2, 3, 41, 42, 43, 44, 45, 46, 47, 48, 24, 49, 50, 51, 52, 53, 54, 55, 56, 57, 58, 59, 60, 61, 97, 98, 99, 100, 101, 84, 85, 86, 87, 88, 89, 90, 91, 92, 93, 94, 95, 96, 102] (by decide +kernel) (by decide +kernel)
set_option maxRecDepth 20000 in
theorem gX6_init_X4_init : GoodIn wsX6_init (wsX4_init) := ggX6_init_X4_init
theorem dX6_init_0 : decode cX6_init 0 = .ok (.aload_n 0, 1) := by decide +kernel
theorem dX6_init_1 : decode cX6_init 1 = .ok (.invokespecial 1, 3) := by decide +kernel
theorem dX6_init_4 : decode cX6_init 4 = .ok (.aload_n 0, 1) := by decide +kernel
theorem dX6_init_5 : decode cX6_init 5 = .ok (.new 7, 3) := by decide +kernel
theorem dX6_init_8 : decode cX6_init 8 = .ok (.dup, 1) := by decide +kernel
theorem dX6_init_9 : decode cX6_init 9 = .ok (.invokespecial 9, 3) := by decide +kernel
theorem dX6_init_12 : decode cX6_init 12 = .ok (.putfield 10, 3) := by decide +kernel
theorem dX6_init_15 : decode cX6_init 15 = .ok (.aload_n 0, 1) := by decide +kernel
theorem dX6_init_16 : decode cX6_init 16 = .ok (.new 7, 3) := by decide +kernel
theorem dX6_init_19 : decode cX6_init 19 = .ok (.dup, 1) := by decide +kernel
theorem dX6_init_20 : decode cX6_init 20 = .ok (.invokespecial 9, 3) := by decide +kernel
theorem dX6_init_23 : decode cX6_init 23 = .ok (.putfield 16, 3) := by decide +kernel
theorem dX6_init_26 : decode cX6_init 26 = .ok (.aload_n 0, 1) := by decide +kernel
theorem dX6_init_27 : decode cX6_init 27 = .ok (.new 19, 3) := by decide +kernel
theorem dX6_init_30 : decode cX6_init 30 = .ok (.dup, 1) := by decide +kernel
theorem dX6_init_31 : decode cX6_init 31 = .ok (.invokespecial 21, 3) := by decide +kernel
theorem dX6_init_34 : decode cX6_init 34 = .ok (.putfield 22, 3) := by decide +kernel
theorem dX6_init_37 : decode cX6_init 37 = .ok (.aload_n 0, 1) := by decide +kernel
theorem dX6_init_38 : decode cX6_init 38 = .ok (.new 26, 3) := by decide +kernel
theorem dX6_init_41 : decode cX6_init 41 = .ok (.dup, 1) := by decide +kernel
theorem dX6_init_42 : decode cX6_init 42 = .ok (.aload_n 0, 1) := by decide +kernel
theorem dX6_init_43 : decode cX6_init 43 = .ok (.getfield 10, 3) := by decide +kernel
theorem dX6_init_46 : decode cX6_init 46 = .ok (.aload_n 0, 1) := by decide +kernel
theorem dX6_init_47 : decode cX6_init 47 = .ok (.getfield 16, 3) := by decide +kernel
theorem dX6_init_50 : decode cX6_init 50 = .ok (.invokespecial 28, 3) := by decide +kernel
theorem dX6_init_53 : decode cX6_init 53 = .ok (.putfield 31, 3) := by decide +kernel
theorem dX6_init_56 : decode cX6_init 56 = .ok (.aload_n 0, 1) := by decide +kernel
theorem dX6_init_57 : decode cX6_init 57 = .ok (.new 35, 3) := by decide +kernel
theorem dX6_init_60 : decode cX6_init 60 = .ok (.dup, 1) := by decide +kernel
theorem dX6_init_61 : decode cX6_init 61 = .ok (.aload_n 0, 1) := by decide +kernel
theorem dX6_init_62 : decode cX6_init 62 = .ok (.getfield 10, 3) := by decide +kernel
theorem dX6_init_65 : decode cX6_init 65 = .ok (.aload_n 0, 1) := by decide +kernel
theorem dX6_init_66 : decode cX6_init 66 = .ok (.getfield 22, 3) := by decide +kernel
theorem dX6_init_69 : decode cX6_init 69 = .ok (.aload_n 0, 1) := by decide +kernel
theorem dX6_init_70 : decode cX6_init 70 = .ok (.getfield 31, 3) := by decide +kernel
theorem dX6_init_73 : decode cX6_init 73 = .ok (.invokespecial 37, 3) := by decide +kernel
theorem dX6_init_76 : decode cX6_init 76 = .ok (.putfield 40, 3) := by decide +kernel
theorem dX6_init_79 : decode cX6_init 79 = .ok (.return_, 1) := by decide +kernel
set_option maxRecDepth 20000 in
theorem ggX6_write_X6_isPlace : GoodIn wsX6_write wsX6_isPlace := goodIn_r _ [7] (by decide +kernel) (by decide +kernel)
set_option maxRecDepth 20000 in
theorem gX6_write_X6_isPlace : GoodIn wsX6_write (va_wsS RX6 44 yX6_isPlace wsX6_isPlace) := goodIn_app (goodIn_of _ (by decide +kernel)) ggX6_write_X6_isPlace
set_option maxRecDepth 20000 in
theorem ggX6_write_X6_isByte : GoodIn wsX6_write wsX6_isByte := goodIn_r _ [10] (by decide +kernel) (by decide +kernel)
set_option maxRecDepth 20000 in
theorem gX6_write_X6_isByte : GoodIn wsX6_write (va_wsS RX6 48 yX6_isByte wsX6_isByte) := goodIn_app (goodIn_of _ (by decide +kernel)) ggX6_write_X6_isByte
set_option maxRecDepth 20000 in
theorem ggX6_write_X5_exchange : GoodIn wsX6_write wsX5_exchange := goodIn_r _ [15, 16, 17, 18, 14, 19, 20, 21, 22, 23, 24, 30] (by decide +kernel) (by decide +kernel)
set_option maxRecDepth 20000 in
theorem gX6_write_X5_exchange : GoodIn wsX6_write (wsV RX6 54 RX5 yX5_exchange wsX5_exchange) := goodIn_app (goodIn_of _ (by decide +kernel)) ggX6_write_X5_exchange
theorem dX6_write_0 : decode cX6_write 0 = .ok (.iload_n 1, 1) := by decide +kernel
theorem dX6_write_1 : decode cX6_write 1 = .ok (.invokestatic 44, 3) := by decide +kernel
theorem dX6_write_4 : decode cX6_write 4 = .ok (.ifCond .eq 10, 3) := by decide +kernel
theorem dX6_write_7 : decode cX6_write 7 = .ok (.iload_n 2, 1) := by decide +kernel
theorem dX6_write_8 : decode cX6_write 8 = .ok (.invokestatic 48, 3) := by decide +kernel
theorem dX6_write_11 : decode cX6_write 11 = .ok (.ifCond .ne 11, 3) := by decide +kernel
theorem dX6_write_14 : decode cX6_write 14 = .ok (.new 51, 3) := by decide +kernel
theorem dX6_write_17 : decode cX6_write 17 = .ok (.dup, 1) := by decide +kernel
theorem dX6_write_18 : decode cX6_write 18 = .ok (.invokespecial 53, 3) := by decide +kernel
theorem dX6_write_21 : decode cX6_write 21 = .ok (.athrow, 1) := by decide +kernel
theorem dX6_write_22 : decode cX6_write 22 = .ok (.aload_n 0, 1) := by decide +kernel
theorem dX6_write_23 : decode cX6_write 23 = .ok (.getfield 10, 3) := by decide +kernel
theorem dX6_write_26 : decode cX6_write 26 = .ok (.iload_n 1, 1) := by decide +kernel
theorem dX6_write_27 : decode cX6_write 27 = .ok (.iload_n 2, 1) := by decide +kernel
theorem dX6_write_28 : decode cX6_write 28 = .ok (.invokevirtual 54, 3) := by decide +kernel
theorem dX6_write_31 : decode cX6_write 31 = .ok (.ireturn, 1) := by decide +kernel
set_option maxRecDepth 20000 in
theorem ggX6_read_X6_isPlace : GoodIn wsX6_read wsX6_isPlace := goodIn_r _ [7] (by decide +kernel) (by decide +kernel)
set_option maxRecDepth 20000 in
theorem gX6_read_X6_isPlace : GoodIn wsX6_read (va_wsS RX6 44 yX6_isPlace wsX6_isPlace) := goodIn_app (goodIn_of _ (by decide +kernel)) ggX6_read_X6_isPlace
set_option maxRecDepth 20000 in
theorem ggX6_read_X5_byteAt : GoodIn wsX6_read wsX5_byteAt := goodIn_r _ [12, 13, 19] (by decide +kernel) (by decide +kernel)
set_option maxRecDepth 20000 in
theorem gX6_read_X5_byteAt : GoodIn wsX6_read (wsV RX6 58 RX5 yX5_byteAt wsX5_byteAt) := goodIn_app (goodIn_of _ (by decide +kernel)) ggX6_read_X5_byteAt
theorem dX6_read_0 : decode cX6_read 0 = .ok (.iload_n 1, 1) := by decide +kernel
theorem dX6_read_1 : decode cX6_read 1 = .ok (.invokestatic 44, 3) := by decide +kernel
theorem dX6_read_4 : decode cX6_read 4 = .ok (.ifCond .ne 11, 3) := by decide +kernel
theorem dX6_read_7 : decode cX6_read 7 = .ok (.new 51, 3) := by decide +kernel
theorem dX6_read_10 : decode cX6_read 10 = .ok (.dup, 1) := by decide +kernel
theorem dX6_read_11 : decode cX6_read 11 = .ok (.invokespecial 53, 3) := by decide +kernel
theorem dX6_read_14 : decode cX6_read 14 = .ok (.athrow, 1) := by decide +kernel
theorem dX6_read_15 : decode cX6_read 15 = .ok (.aload_n 0, 1) := by decide +kernel
theorem dX6_read_16 : decode cX6_read 16 = .ok (.getfield 10, 3) := by decide +kernel
theorem dX6_read_19 : decode cX6_read 19 = .ok (.iload_n 1, 1) := by decide +kernel
theorem dX6_read_20 : decode cX6_read 20 = .ok (.invokevirtual 58, 3) := by decide +kernel
theorem dX6_read_23 : decode cX6_read 23 = .ok (.ireturn, 1) := by decide +kernel
set_option maxRecDepth 20000 in
theorem ggX6_writeDisk_X6_isPlace : GoodIn wsX6_writeDisk wsX6_isPlace := goodIn_r _ [7] (by decide +kernel) (by decide +kernel)
set_option maxRecDepth 20000 in
theorem gX6_writeDisk_X6_isPlace : GoodIn wsX6_writeDisk (va_wsS RX6 44 yX6_isPlace wsX6_isPlace) := goodIn_app (goodIn_of _ (by decide +kernel)) ggX6_writeDisk_X6_isPlace
set_option maxRecDepth 20000 in
theorem ggX6_writeDisk_X6_isByte : GoodIn wsX6_writeDisk wsX6_isByte := goodIn_r _ [10] (by decide +kernel) (by decide +kernel)
set_option maxRecDepth 20000 in
theorem gX6_writeDisk_X6_isByte : GoodIn wsX6_writeDisk (va_wsS RX6 48 yX6_isByte wsX6_isByte) := goodIn_app (goodIn_of _ (by decide +kernel)) ggX6_writeDisk_X6_isByte
set_option maxRecDepth 20000 in
theorem ggX6_writeDisk_X5_exchange : GoodIn wsX6_writeDisk wsX5_exchange := goodIn_r _ [15, 16, 17, 18, 14, 19, 20, 21, 22, 23, 24, 30] (by decide +kernel) (by decide +kernel)
set_option maxRecDepth 20000 in
theorem gX6_writeDisk_X5_exchange : GoodIn wsX6_writeDisk (wsV RX6 54 RX5 yX5_exchange wsX5_exchange) := goodIn_app (goodIn_of _ (by decide +kernel)) ggX6_writeDisk_X5_exchange
theorem dX6_writeDisk_0 : decode cX6_writeDisk 0 = .ok (.iload_n 1, 1) := by decide +kernel
theorem dX6_writeDisk_1 : decode cX6_writeDisk 1 = .ok (.invokestatic 44, 3) := by decide +kernel
theorem dX6_writeDisk_4 : decode cX6_writeDisk 4 = .ok (.ifCond .eq 10, 3) := by decide +kernel
theorem dX6_writeDisk_7 : decode cX6_writeDisk 7 = .ok (.iload_n 2, 1) := by decide +kernel
theorem dX6_writeDisk_8 : decode cX6_writeDisk 8 = .ok (.invokestatic 48, 3) := by decide +kernel
theorem dX6_writeDisk_11 : decode cX6_writeDisk 11 = .ok (.ifCond .ne 11, 3) := by decide +kernel
theorem dX6_writeDisk_14 : decode cX6_writeDisk 14 = .ok (.new 51, 3) := by decide +kernel
theorem dX6_writeDisk_17 : decode cX6_writeDisk 17 = .ok (.dup, 1) := by decide +kernel
theorem dX6_writeDisk_18 : decode cX6_writeDisk 18 = .ok (.invokespecial 53, 3) := by decide +kernel
theorem dX6_writeDisk_21 : decode cX6_writeDisk 21 = .ok (.athrow, 1) := by decide +kernel
theorem dX6_writeDisk_22 : decode cX6_writeDisk 22 = .ok (.aload_n 0, 1) := by decide +kernel
theorem dX6_writeDisk_23 : decode cX6_writeDisk 23 = .ok (.getfield 16, 3) := by decide +kernel
theorem dX6_writeDisk_26 : decode cX6_writeDisk 26 = .ok (.iload_n 1, 1) := by decide +kernel
theorem dX6_writeDisk_27 : decode cX6_writeDisk 27 = .ok (.iload_n 2, 1) := by decide +kernel
theorem dX6_writeDisk_28 : decode cX6_writeDisk 28 = .ok (.invokevirtual 54, 3) := by decide +kernel
theorem dX6_writeDisk_31 : decode cX6_writeDisk 31 = .ok (.ireturn, 1) := by decide +kernel
set_option maxRecDepth 20000 in
theorem ggX6_readDisk_X6_isPlace : GoodIn wsX6_readDisk wsX6_isPlace := goodIn_r _ [7] (by decide +kernel) (by decide +kernel)
set_option maxRecDepth 20000 in
theorem gX6_readDisk_X6_isPlace : GoodIn wsX6_readDisk (va_wsS RX6 44 yX6_isPlace wsX6_isPlace) := goodIn_app (goodIn_of _ (by decide +kernel)) ggX6_readDisk_X6_isPlace
set_option maxRecDepth 20000 in
theorem ggX6_readDisk_X5_byteAt : GoodIn wsX6_readDisk wsX5_byteAt := goodIn_r _ [12, 13, 19] (by decide +kernel) (by decide +kernel)
set_option maxRecDepth 20000 in
theorem gX6_readDisk_X5_byteAt : GoodIn wsX6_readDisk (wsV RX6 58 RX5 yX5_byteAt wsX5_byteAt) := goodIn_app (goodIn_of _ (by decide +kernel)) ggX6_readDisk_X5_byteAt
theorem dX6_readDisk_0 : decode cX6_readDisk 0 = .ok (.iload_n 1, 1) := by decide +kernel
theorem dX6_readDisk_1 : decode cX6_readDisk 1 = .ok (.invokestatic 44, 3) := by decide +kernel
theorem dX6_readDisk_4 : decode cX6_readDisk 4 = .ok (.ifCond .ne 11, 3) := by decide +kernel
theorem dX6_readDisk_7 : decode cX6_readDisk 7 = .ok (.new 51, 3) := by decide +kernel
theorem dX6_readDisk_10 : decode cX6_readDisk 10 = .ok (.dup, 1) := by decide +kernel
theorem dX6_readDisk_11 : decode cX6_readDisk 11 = .ok (.invokespecial 53, 3) := by decide +kernel
theorem dX6_readDisk_14 : decode cX6_readDisk 14 = .ok (.athrow, 1) := by decide +kernel
theorem dX6_readDisk_15 : decode cX6_readDisk 15 = .ok (.aload_n 0, 1) := by decide +kernel
theorem dX6_readDisk_16 : decode cX6_readDisk 16 = .ok (.getfield 16, 3) := by decide +kernel
theorem dX6_readDisk_19 : decode cX6_readDisk 19 = .ok (.iload_n 1, 1) := by decide +kernel
theorem dX6_readDisk_20 : decode cX6_readDisk 20 = .ok (.invokevirtual 58, 3) := by decide +kernel
theorem dX6_readDisk_23 : decode cX6_readDisk 23 = .ok (.ireturn, 1) := by decide +kernel
set_option maxRecDepth 20000 in
theorem ggX6_register_X4_shows : GoodIn wsX6_register wsX4_shows := goodIn_r _ [7] (by decide +kernel) (by decide +kernel)
set_option maxRecDepth 20000 in
theorem gX6_register_X4_shows : GoodIn wsX6_register (va_wsS RX6 62 yX4_shows wsX4_shows) := goodIn_app (goodIn_of _ (by decide +kernel)) ggX6_register_X4_shows
set_option maxRecDepth 20000 in
theorem ggX6_register_X4_shown : GoodIn wsX6_register wsX4_shown := goodIn_r _ [11, 12, 13, 14, 15, 16, 17, 18, 19, 20, 21, 22, 23, 24, 25, 31, 32, 33, 34, 35, 36, 37, 38, 39, 40, 41, 42, 43, 44, 45, 46, 47, 48] (by decide +kernel) (by decide +kernel)
set_option maxRecDepth 20000 in
theorem gX6_register_X4_shown : GoodIn wsX6_register (wsV RX6 68 RX4 yX4_shown wsX4_shown) := goodIn_app (goodIn_of _ (by decide +kernel)) ggX6_register_X4_shown
theorem dX6_register_0 : decode cX6_register 0 = .ok (.iload_n 1, 1) := by decide +kernel
theorem dX6_register_1 : decode cX6_register 1 = .ok (.invokestatic 62, 3) := by decide +kernel
theorem dX6_register_4 : decode cX6_register 4 = .ok (.ifCond .ne 11, 3) := by decide +kernel
theorem dX6_register_7 : decode cX6_register 7 = .ok (.new 65, 3) := by decide +kernel
theorem dX6_register_10 : decode cX6_register 10 = .ok (.dup, 1) := by decide +kernel
theorem dX6_register_11 : decode cX6_register 11 = .ok (.invokespecial 67, 3) := by decide +kernel
theorem dX6_register_14 : decode cX6_register 14 = .ok (.athrow, 1) := by decide +kernel
theorem dX6_register_15 : decode cX6_register 15 = .ok (.aload_n 0, 1) := by decide +kernel
theorem dX6_register_16 : decode cX6_register 16 = .ok (.getfield 40, 3) := by decide +kernel
theorem dX6_register_19 : decode cX6_register 19 = .ok (.iload_n 1, 1) := by decide +kernel
theorem dX6_register_20 : decode cX6_register 20 = .ok (.invokevirtual 68, 3) := by decide +kernel
theorem dX6_register_23 : decode cX6_register 23 = .ok (.ireturn, 1) := by decide +kernel
set_option maxRecDepth 20000 in
theorem ggX6_put_X4_shows : GoodIn wsX6_put wsX4_shows := goodIn_r _ [7] (by decide +kernel) (by decide +kernel)
set_option maxRecDepth 20000 in
theorem gX6_put_X4_shows : GoodIn wsX6_put (va_wsS RX6 62 yX4_shows wsX4_shows) := goodIn_app (goodIn_of _ (by decide +kernel)) ggX6_put_X4_shows
set_option maxRecDepth 20000 in
theorem ggX6_put_X4_change : GoodIn wsX6_put wsX4_change := goodIn_r _ [11, 12, 13, 14, 15, 16, 17, 18, 19, 20, 21, 22, 23, 24, 25, 26, 32, 33, 34, 35, 36, 37, 38, 39, 40, 41, 42, 43, 44, 45, 46, 47, 48, 49] (by decide +kernel) (by decide +kernel)
set_option maxRecDepth 20000 in
theorem gX6_put_X4_change : GoodIn wsX6_put (wsV RX6 71 RX4 yX4_change wsX4_change) := goodIn_app (goodIn_of _ (by decide +kernel)) ggX6_put_X4_change
theorem dX6_put_0 : decode cX6_put 0 = .ok (.iload_n 1, 1) := by decide +kernel
theorem dX6_put_1 : decode cX6_put 1 = .ok (.invokestatic 62, 3) := by decide +kernel
theorem dX6_put_4 : decode cX6_put 4 = .ok (.ifCond .ne 11, 3) := by decide +kernel
theorem dX6_put_7 : decode cX6_put 7 = .ok (.new 65, 3) := by decide +kernel
theorem dX6_put_10 : decode cX6_put 10 = .ok (.dup, 1) := by decide +kernel
theorem dX6_put_11 : decode cX6_put 11 = .ok (.invokespecial 67, 3) := by decide +kernel
theorem dX6_put_14 : decode cX6_put 14 = .ok (.athrow, 1) := by decide +kernel
theorem dX6_put_15 : decode cX6_put 15 = .ok (.aload_n 0, 1) := by decide +kernel
theorem dX6_put_16 : decode cX6_put 16 = .ok (.getfield 40, 3) := by decide +kernel
theorem dX6_put_19 : decode cX6_put 19 = .ok (.iload_n 1, 1) := by decide +kernel
theorem dX6_put_20 : decode cX6_put 20 = .ok (.iload_n 2, 1) := by decide +kernel
theorem dX6_put_21 : decode cX6_put 21 = .ok (.invokevirtual 71, 3) := by decide +kernel
theorem dX6_put_24 : decode cX6_put 24 = .ok (.return_, 1) := by decide +kernel
set_option maxRecDepth 20000 in
theorem ggX6_type_X6_isByte : GoodIn wsX6_type wsX6_isByte := goodIn_r _ [7] (by decide +kernel) (by decide +kernel)
set_option maxRecDepth 20000 in
theorem gX6_type_X6_isByte : GoodIn wsX6_type (va_wsS RX6 48 yX6_isByte wsX6_isByte) := goodIn_app (goodIn_of _ (by decide +kernel)) ggX6_type_X6_isByte
set_option maxRecDepth 20000 in
theorem ggX6_type_X1_takeKey : GoodIn wsX6_type wsX1_takeKey := goodIn_r _ [12, 13, 14, 15, 21, 22, 23, 24, 25] (by decide +kernel) (by decide +kernel)
set_option maxRecDepth 20000 in
theorem gX6_type_X1_takeKey : GoodIn wsX6_type (wsV RX6 75 RX1 yX1_takeKey wsX1_takeKey) := goodIn_app (goodIn_of _ (by decide +kernel)) ggX6_type_X1_takeKey
theorem dX6_type_0 : decode cX6_type 0 = .ok (.iload_n 1, 1) := by decide +kernel
theorem dX6_type_1 : decode cX6_type 1 = .ok (.invokestatic 48, 3) := by decide +kernel
theorem dX6_type_4 : decode cX6_type 4 = .ok (.ifCond .ne 11, 3) := by decide +kernel
theorem dX6_type_7 : decode cX6_type 7 = .ok (.new 51, 3) := by decide +kernel
theorem dX6_type_10 : decode cX6_type 10 = .ok (.dup, 1) := by decide +kernel
theorem dX6_type_11 : decode cX6_type 11 = .ok (.invokespecial 53, 3) := by decide +kernel
theorem dX6_type_14 : decode cX6_type 14 = .ok (.athrow, 1) := by decide +kernel
theorem dX6_type_15 : decode cX6_type 15 = .ok (.aload_n 0, 1) := by decide +kernel
theorem dX6_type_16 : decode cX6_type 16 = .ok (.getfield 22, 3) := by decide +kernel
theorem dX6_type_19 : decode cX6_type 19 = .ok (.iload_n 1, 1) := by decide +kernel
theorem dX6_type_20 : decode cX6_type 20 = .ok (.invokevirtual 75, 3) := by decide +kernel
theorem dX6_type_23 : decode cX6_type 23 = .ok (.ireturn, 1) := by decide +kernel
set_option maxRecDepth 20000 in
theorem ggX6_written_X1_writtenCount : GoodIn wsX6_written wsX1_writtenCount := goodIn_r _ [6, 7, 13, 14, 15, 16, 17] (by decide +kernel) (by decide +kernel)
set_option maxRecDepth 20000 in
theorem gX6_written_X1_writtenCount : GoodIn wsX6_written (wsV RX6 78 RX1 yX1_writtenCount wsX1_writtenCount) := goodIn_app (goodIn_of _ (by decide +kernel)) ggX6_written_X1_writtenCount
theorem dX6_written_0 : decode cX6_written 0 = .ok (.aload_n 0, 1) := by decide +kernel
theorem dX6_written_1 : decode cX6_written 1 = .ok (.getfield 22, 3) := by decide +kernel
theorem dX6_written_4 : decode cX6_written 4 = .ok (.invokevirtual 78, 3) := by decide +kernel
theorem dX6_written_7 : decode cX6_written 7 = .ok (.ireturn, 1) := by decide +kernel
set_option maxRecDepth 20000 in
theorem ggX6_text_X1_keeps : GoodIn wsX6_text wsX1_keeps := goodIn_r _ [8, 9, 20, 21, 22, 23, 24] (by decide +kernel) (by decide +kernel)
set_option maxRecDepth 20000 in
theorem gX6_text_X1_keeps : GoodIn wsX6_text (wsV RX6 82 RX1 yX1_keeps wsX1_keeps) := goodIn_app (goodIn_of _ (by decide +kernel)) ggX6_text_X1_keeps
set_option maxRecDepth 20000 in
theorem ggX6_text_X1_writtenByte : GoodIn wsX6_text wsX1_writtenByte := goodIn_r _ [13, 14, 20, 21, 22, 23, 24] (by decide +kernel) (by decide +kernel)
set_option maxRecDepth 20000 in
theorem gX6_text_X1_writtenByte : GoodIn wsX6_text (wsV RX6 85 RX1 yX1_writtenByte wsX1_writtenByte) := goodIn_app (goodIn_of _ (by decide +kernel)) ggX6_text_X1_writtenByte
theorem dX6_text_0 : decode cX6_text 0 = .ok (.aload_n 0, 1) := by decide +kernel
theorem dX6_text_1 : decode cX6_text 1 = .ok (.getfield 22, 3) := by decide +kernel
theorem dX6_text_4 : decode cX6_text 4 = .ok (.iload_n 1, 1) := by decide +kernel
theorem dX6_text_5 : decode cX6_text 5 = .ok (.invokevirtual 82, 3) := by decide +kernel
theorem dX6_text_8 : decode cX6_text 8 = .ok (.ifCond .ne 11, 3) := by decide +kernel
theorem dX6_text_11 : decode cX6_text 11 = .ok (.new 65, 3) := by decide +kernel
theorem dX6_text_14 : decode cX6_text 14 = .ok (.dup, 1) := by decide +kernel
theorem dX6_text_15 : decode cX6_text 15 = .ok (.invokespecial 67, 3) := by decide +kernel
theorem dX6_text_18 : decode cX6_text 18 = .ok (.athrow, 1) := by decide +kernel
theorem dX6_text_19 : decode cX6_text 19 = .ok (.aload_n 0, 1) := by decide +kernel
theorem dX6_text_20 : decode cX6_text 20 = .ok (.getfield 22, 3) := by decide +kernel
theorem dX6_text_23 : decode cX6_text 23 = .ok (.iload_n 1, 1) := by decide +kernel
theorem dX6_text_24 : decode cX6_text 24 = .ok (.invokevirtual 85, 3) := by decide +kernel
theorem dX6_text_27 : decode cX6_text 27 = .ok (.ireturn, 1) := by decide +kernel
set_option maxRecDepth 20000 in
theorem ggX6_want_X4_callWith : GoodIn wsX6_want wsX4_callWith := goodIn_r _ [8, 9, 15, 16, 17, 18, 19, 20, 21, 22, 23, 24, 25, 26, 27] (by decide +kernel) (by decide +kernel)
set_option maxRecDepth 20000 in
theorem gX6_want_X4_callWith : GoodIn wsX6_want (wsV RX6 88 RX4 yX4_callWith wsX4_callWith) := goodIn_app (goodIn_of _ (by decide +kernel)) ggX6_want_X4_callWith
theorem dX6_want_0 : decode cX6_want 0 = .ok (.iload_n 1, 1) := by decide +kernel
theorem dX6_want_1 : decode cX6_want 1 = .ok (.ifCond .lt 9, 3) := by decide +kernel
theorem dX6_want_4 : decode cX6_want 4 = .ok (.iload_n 1, 1) := by decide +kernel
theorem dX6_want_5 : decode cX6_want 5 = .ok (.bipush 7, 2) := by decide +kernel
theorem dX6_want_7 : decode cX6_want 7 = .ok (.if_icmp .le 11, 3) := by decide +kernel
theorem dX6_want_10 : decode cX6_want 10 = .ok (.new 51, 3) := by decide +kernel
theorem dX6_want_13 : decode cX6_want 13 = .ok (.dup, 1) := by decide +kernel
theorem dX6_want_14 : decode cX6_want 14 = .ok (.invokespecial 53, 3) := by decide +kernel
theorem dX6_want_17 : decode cX6_want 17 = .ok (.athrow, 1) := by decide +kernel
theorem dX6_want_18 : decode cX6_want 18 = .ok (.aload_n 0, 1) := by decide +kernel
theorem dX6_want_19 : decode cX6_want 19 = .ok (.getfield 40, 3) := by decide +kernel
theorem dX6_want_22 : decode cX6_want 22 = .ok (.iload_n 1, 1) := by decide +kernel
theorem dX6_want_23 : decode cX6_want 23 = .ok (.invokevirtual 88, 3) := by decide +kernel
theorem dX6_want_26 : decode cX6_want 26 = .ok (.return_, 1) := by decide +kernel
set_option maxRecDepth 20000 in
theorem ggX6_step_X4_turn : GoodIn wsX6_step wsX4_turn := goodIn_r _ [8, 9, 10, 11, 12, 13, 14, 15, 16, 17, 7, 18, 19, 20, 21, 22, 23, 24, 25, 26, 27, 28, 29, 30, 31, 32, 33, 34, 35, 36, 37, 38, 39, 40, 41, 42, 43, 44, 45, 46, 47, 48, 49, 50, 51, 52, 53, 54, 55, 56, 57, 58, 59, 60, 61, 62, 63, 64, 65, 66, 67, 68, 69, 70, 71, 72, 73, 74, 75, 76, 77, 78, 79, 80, 81, 82, 83, 84, 85, 86, 87, 88, 89, 90, 91, 92, 93, 94, 95, 96, 97, 98, 99, 100, 101, 102, 103, 104, 105, 106, 107, 108, 109, 110, 111, 112, 113, 114, 115, 116, 117, 118, 119, 120, 121, 122, 123, 124, 125, 126, 127, 128, 129, 130, 131, 132, 133, 134, 135, 136, 137, 138, 139, 140, 141, 142, 143, 144, 145, 146, 147, 148, 149, 150, 151, 152, 153, 154, 155, 156, 157, 158, 159, 160, 161, 162, 163, 164, 165, 166, 167, 168, 169, 170, 171, 172, 173, 174, 175, 176, 177, 178, 179, 180, 181, 182, 183, 184, 185, 186, 187, 188, 189, 190, 191, 192, 193, 194, 195, 196, 197, 198, 199, 200, 201, 202, 203, 204, 205, 206, 207, 208, 209, 210, 211, 212, 213, 214, 215, 216, 217, 218, 219, 220, 221, 222, 223, 224, 225, 226, 227, 228, 229, 230, 231, 232, 233, 234, 235, 236, 237, 238, 239, 240, 241, 242, 243, 244, 245, 246, 247, 248, 249, 250, 251, 252, 253, 254, 255, 256, 257, 258, 259, 260, 261, 262, 263, 264, 265, 266, 267, 268, 269, 270, 271, 272, 273, 274, 275, 276, 277, 278, 279, 280, 281, 282, 283, 284, 285, 286, 287, 288, 289, 290, 291, 292, 293, 294, 295, 296, 297, 298, 299, 300, 301, 302, 303, 304, 305, 306, 307, 308, 309, 310, 311, 312, 313, 314, 320, 321, 322, 323, 324, 325, 326, 327, 328, 329, 330, 331, 332, 333, 334, 335, 336, 337, 338, 339, 340, 341, 342, 343, 344, 345, 346, 347, 348, 349, 350, 351, 352, 353, 354, 355] (by decide +kernel) (by decide +kernel)
set_option maxRecDepth 20000 in
theorem gX6_step_X4_turn : GoodIn wsX6_step (wsV RX6 92 RX4 yX4_turn wsX4_turn) := goodIn_app (goodIn_of _ (by decide +kernel)) ggX6_step_X4_turn
theorem dX6_step_0 : decode cX6_step 0 = .ok (.iload_n 1, 1) := by decide +kernel
theorem dX6_step_1 : decode cX6_step 1 = .ok (.ifCond .lt 10, 3) := by decide +kernel
theorem dX6_step_4 : decode cX6_step 4 = .ok (.iload_n 1, 1) := by decide +kernel
theorem dX6_step_5 : decode cX6_step 5 = .ok (.sipush 3000, 3) := by decide +kernel
theorem dX6_step_8 : decode cX6_step 8 = .ok (.if_icmp .le 11, 3) := by decide +kernel
theorem dX6_step_11 : decode cX6_step 11 = .ok (.new 51, 3) := by decide +kernel
theorem dX6_step_14 : decode cX6_step 14 = .ok (.dup, 1) := by decide +kernel
theorem dX6_step_15 : decode cX6_step 15 = .ok (.invokespecial 53, 3) := by decide +kernel
theorem dX6_step_18 : decode cX6_step 18 = .ok (.athrow, 1) := by decide +kernel
theorem dX6_step_19 : decode cX6_step 19 = .ok (.iconst 0, 1) := by decide +kernel
theorem dX6_step_20 : decode cX6_step 20 = .ok (.istore_n 2, 1) := by decide +kernel
theorem dX6_step_21 : decode cX6_step 21 = .ok (.iconst 0, 1) := by decide +kernel
theorem dX6_step_22 : decode cX6_step 22 = .ok (.istore_n 3, 1) := by decide +kernel
theorem dX6_step_23 : decode cX6_step 23 = .ok (.iload_n 3, 1) := by decide +kernel
theorem dX6_step_24 : decode cX6_step 24 = .ok (.iload_n 1, 1) := by decide +kernel
theorem dX6_step_25 : decode cX6_step 25 = .ok (.if_icmp .ge 19, 3) := by decide +kernel
theorem dX6_step_28 : decode cX6_step 28 = .ok (.iload_n 2, 1) := by decide +kernel
theorem dX6_step_29 : decode cX6_step 29 = .ok (.aload_n 0, 1) := by decide +kernel
theorem dX6_step_30 : decode cX6_step 30 = .ok (.getfield 40, 3) := by decide +kernel
theorem dX6_step_33 : decode cX6_step 33 = .ok (.invokevirtual 92, 3) := by decide +kernel
theorem dX6_step_36 : decode cX6_step 36 = .ok (.iadd, 1) := by decide +kernel
theorem dX6_step_37 : decode cX6_step 37 = .ok (.istore_n 2, 1) := by decide +kernel
theorem dX6_step_38 : decode cX6_step 38 = .ok (.iinc 3 1, 3) := by decide +kernel
theorem dX6_step_41 : decode cX6_step 41 = .ok (.goto (-18), 3) := by decide +kernel
theorem dX6_step_44 : decode cX6_step 44 = .ok (.iload_n 2, 1) := by decide +kernel
theorem dX6_step_45 : decode cX6_step 45 = .ok (.ireturn, 1) := by decide +kernel
set_option maxRecDepth 20000 in
theorem ggX6_cycles_X4_cyclesDone : GoodIn wsX6_cycles wsX4_cyclesDone := goodIn_r _ [6, 7, 13, 14, 15, 16, 17, 18, 19, 20, 21, 22, 23, 24, 25] (by decide +kernel) (by decide +kernel)
set_option maxRecDepth 20000 in
theorem gX6_cycles_X4_cyclesDone : GoodIn wsX6_cycles (wsV RX6 95 RX4 yX4_cyclesDone wsX4_cyclesDone) := goodIn_app (goodIn_of _ (by decide +kernel)) ggX6_cycles_X4_cyclesDone
theorem dX6_cycles_0 : decode cX6_cycles 0 = .ok (.aload_n 0, 1) := by decide +kernel
theorem dX6_cycles_1 : decode cX6_cycles 1 = .ok (.getfield 40, 3) := by decide +kernel
theorem dX6_cycles_4 : decode cX6_cycles 4 = .ok (.invokevirtual 95, 3) := by decide +kernel
theorem dX6_cycles_7 : decode cX6_cycles 7 = .ok (.lreturn, 1) := by decide +kernel
set_option maxRecDepth 20000 in
theorem ggX6_told_X4_isHalted : GoodIn wsX6_told wsX4_isHalted := goodIn_r _ [9, 10, 42, 43, 44, 45, 46, 47, 48, 49, 50, 51, 52, 53, 54] (by decide +kernel) (by decide +kernel)
set_option maxRecDepth 20000 in
theorem gX6_told_X4_isHalted : GoodIn wsX6_told (wsV RX6 99 RX4 yX4_isHalted wsX4_isHalted) := goodIn_app (goodIn_of _ (by decide +kernel)) ggX6_told_X4_isHalted
set_option maxRecDepth 20000 in
theorem ggX6_told_X4_hasInterruptsOn : GoodIn wsX6_told wsX4_hasInterruptsOn := goodIn_r _ [14, 15, 42, 43, 44, 45, 46, 47, 48, 49, 50, 51, 52, 53, 54] (by decide +kernel) (by decide +kernel)
set_option maxRecDepth 20000 in
theorem gX6_told_X4_hasInterruptsOn : GoodIn wsX6_told (wsV RX6 103 RX4 yX4_hasInterruptsOn wsX4_hasInterruptsOn) := goodIn_app (goodIn_of _ (by decide +kernel)) ggX6_told_X4_hasInterruptsOn
set_option maxRecDepth 20000 in
theorem ggX6_told_X4_wantedInterrupt : GoodIn wsX6_told wsX4_wantedInterrupt := goodIn_r _ [19, 20, 42, 43, 44, 45, 46, 47, 48, 49, 50, 51, 52, 53, 54] (by decide +kernel) (by decide +kernel)
set_option maxRecDepth 20000 in
theorem gX6_told_X4_wantedInterrupt : GoodIn wsX6_told (wsV RX6 106 RX4 yX4_wantedInterrupt wsX4_wantedInterrupt) := goodIn_app (goodIn_of _ (by decide +kernel)) ggX6_told_X4_wantedInterrupt
set_option maxRecDepth 20000 in
theorem ggX6_told_X2_stateByte : GoodIn wsX6_told wsX2_stateByte := goodIn_r _ [25, 26, 55, 56, 57, 58, 59, 60, 61, 62, 63, 64, 65] (by decide +kernel) (by decide +kernel)
set_option maxRecDepth 20000 in
theorem gX6_told_X2_stateByte : GoodIn wsX6_told (wsV RX6 109 RX2 yX2_stateByte wsX2_stateByte) := goodIn_app (goodIn_of _ (by decide +kernel)) ggX6_told_X2_stateByte
set_option maxRecDepth 20000 in
theorem ggX6_told_X2_movedCount : GoodIn wsX6_told wsX2_movedCount := goodIn_r _ [30, 31, 55, 56, 57, 58, 59, 60, 61, 62, 63, 64, 65] (by decide +kernel) (by decide +kernel)
set_option maxRecDepth 20000 in
theorem gX6_told_X2_movedCount : GoodIn wsX6_told (wsV RX6 112 RX2 yX2_movedCount wsX2_movedCount) := goodIn_app (goodIn_of _ (by decide +kernel)) ggX6_told_X2_movedCount
set_option maxRecDepth 20000 in
theorem ggX6_told_X2_addressWord : GoodIn wsX6_told wsX2_addressWord := goodIn_r _ [35, 36, 55, 56, 57, 58, 59, 60, 61, 62, 63, 64, 65] (by decide +kernel) (by decide +kernel)
set_option maxRecDepth 20000 in
theorem gX6_told_X2_addressWord : GoodIn wsX6_told (wsV RX6 115 RX2 yX2_addressWord wsX2_addressWord) := goodIn_app (goodIn_of _ (by decide +kernel)) ggX6_told_X2_addressWord
theorem dX6_told_0 : decode cX6_told 0 = .ok (.iload_n 1, 1) := by decide +kernel
theorem dX6_told_1 : decode cX6_told 1 = .ok (.tableswitch 103 0 5 #[39, 55, 71, 79, 87, 95], 39) := by decide +kernel
theorem dX6_told_40 : decode cX6_told 40 = .ok (.aload_n 0, 1) := by decide +kernel
theorem dX6_told_41 : decode cX6_told 41 = .ok (.getfield 40, 3) := by decide +kernel
theorem dX6_told_44 : decode cX6_told 44 = .ok (.invokevirtual 99, 3) := by decide +kernel
theorem dX6_told_47 : decode cX6_told 47 = .ok (.ifCond .eq 7, 3) := by decide +kernel
theorem dX6_told_50 : decode cX6_told 50 = .ok (.iconst 1, 1) := by decide +kernel
theorem dX6_told_51 : decode cX6_told 51 = .ok (.goto 4, 3) := by decide +kernel
theorem dX6_told_54 : decode cX6_told 54 = .ok (.iconst 0, 1) := by decide +kernel
theorem dX6_told_55 : decode cX6_told 55 = .ok (.ireturn, 1) := by decide +kernel
theorem dX6_told_56 : decode cX6_told 56 = .ok (.aload_n 0, 1) := by decide +kernel
theorem dX6_told_57 : decode cX6_told 57 = .ok (.getfield 40, 3) := by decide +kernel
theorem dX6_told_60 : decode cX6_told 60 = .ok (.invokevirtual 103, 3) := by decide +kernel
theorem dX6_told_63 : decode cX6_told 63 = .ok (.ifCond .eq 7, 3) := by decide +kernel
theorem dX6_told_66 : decode cX6_told 66 = .ok (.iconst 1, 1) := by decide +kernel
theorem dX6_told_67 : decode cX6_told 67 = .ok (.goto 4, 3) := by decide +kernel
theorem dX6_told_70 : decode cX6_told 70 = .ok (.iconst 0, 1) := by decide +kernel
theorem dX6_told_71 : decode cX6_told 71 = .ok (.ireturn, 1) := by decide +kernel
theorem dX6_told_72 : decode cX6_told 72 = .ok (.aload_n 0, 1) := by decide +kernel
theorem dX6_told_73 : decode cX6_told 73 = .ok (.getfield 40, 3) := by decide +kernel
theorem dX6_told_76 : decode cX6_told 76 = .ok (.invokevirtual 106, 3) := by decide +kernel
theorem dX6_told_79 : decode cX6_told 79 = .ok (.ireturn, 1) := by decide +kernel
theorem dX6_told_80 : decode cX6_told 80 = .ok (.aload_n 0, 1) := by decide +kernel
theorem dX6_told_81 : decode cX6_told 81 = .ok (.getfield 31, 3) := by decide +kernel
theorem dX6_told_84 : decode cX6_told 84 = .ok (.invokevirtual 109, 3) := by decide +kernel
theorem dX6_told_87 : decode cX6_told 87 = .ok (.ireturn, 1) := by decide +kernel
theorem dX6_told_88 : decode cX6_told 88 = .ok (.aload_n 0, 1) := by decide +kernel
theorem dX6_told_89 : decode cX6_told 89 = .ok (.getfield 31, 3) := by decide +kernel
theorem dX6_told_92 : decode cX6_told 92 = .ok (.invokevirtual 112, 3) := by decide +kernel
theorem dX6_told_95 : decode cX6_told 95 = .ok (.ireturn, 1) := by decide +kernel
theorem dX6_told_96 : decode cX6_told 96 = .ok (.aload_n 0, 1) := by decide +kernel
theorem dX6_told_97 : decode cX6_told 97 = .ok (.getfield 31, 3) := by decide +kernel
theorem dX6_told_100 : decode cX6_told 100 = .ok (.invokevirtual 115, 3) := by decide +kernel
theorem dX6_told_103 : decode cX6_told 103 = .ok (.ireturn, 1) := by decide +kernel
theorem dX6_told_104 : decode cX6_told 104 = .ok (.new 51, 3) := by decide +kernel
theorem dX6_told_107 : decode cX6_told 107 = .ok (.dup, 1) := by decide +kernel
theorem dX6_told_108 : decode cX6_told 108 = .ok (.invokespecial 53, 3) := by decide +kernel
theorem dX6_told_111 : decode cX6_told 111 = .ok (.athrow, 1) := by decide +kernel
set_option maxRecDepth 20000 in
theorem ggX6_sum_X5_weighedTotal : GoodIn wsX6_sum wsX5_weighedTotal := goodIn_r _ [6, 7, 13] (by decide +kernel) (by decide +kernel)
set_option maxRecDepth 20000 in
theorem gX6_sum_X5_weighedTotal : GoodIn wsX6_sum (wsV RX6 118 RX5 yX5_weighedTotal wsX5_weighedTotal) := goodIn_app (goodIn_of _ (by decide +kernel)) ggX6_sum_X5_weighedTotal
theorem dX6_sum_0 : decode cX6_sum 0 = .ok (.aload_n 0, 1) := by decide +kernel
theorem dX6_sum_1 : decode cX6_sum 1 = .ok (.getfield 10, 3) := by decide +kernel
theorem dX6_sum_4 : decode cX6_sum 4 = .ok (.invokevirtual 118, 3) := by decide +kernel
theorem dX6_sum_7 : decode cX6_sum 7 = .ok (.ireturn, 1) := by decide +kernel
theorem dX6_isPlace_0 : decode cX6_isPlace 0 = .ok (.iload_n 0, 1) := by decide +kernel
theorem dX6_isPlace_1 : decode cX6_isPlace 1 = .ok (.ifCond .lt 14, 3) := by decide +kernel
theorem dX6_isPlace_4 : decode cX6_isPlace 4 = .ok (.iload_n 0, 1) := by decide +kernel
theorem dX6_isPlace_5 : decode cX6_isPlace 5 = .ok (.sipush 4096, 3) := by decide +kernel
theorem dX6_isPlace_8 : decode cX6_isPlace 8 = .ok (.if_icmp .ge 7, 3) := by decide +kernel
theorem dX6_isPlace_11 : decode cX6_isPlace 11 = .ok (.iconst 1, 1) := by decide +kernel
theorem dX6_isPlace_12 : decode cX6_isPlace 12 = .ok (.goto 4, 3) := by decide +kernel
theorem dX6_isPlace_15 : decode cX6_isPlace 15 = .ok (.iconst 0, 1) := by decide +kernel
theorem dX6_isPlace_16 : decode cX6_isPlace 16 = .ok (.ireturn, 1) := by decide +kernel
theorem dX6_isByte_0 : decode cX6_isByte 0 = .ok (.iload_n 0, 1) := by decide +kernel
theorem dX6_isByte_1 : decode cX6_isByte 1 = .ok (.ifCond .lt 14, 3) := by decide +kernel
theorem dX6_isByte_4 : decode cX6_isByte 4 = .ok (.iload_n 0, 1) := by decide +kernel
theorem dX6_isByte_5 : decode cX6_isByte 5 = .ok (.sipush 255, 3) := by decide +kernel
theorem dX6_isByte_8 : decode cX6_isByte 8 = .ok (.if_icmp .gt 7, 3) := by decide +kernel
end
section
theorem dX6_isByte_11 : decode cX6_isByte 11 = .ok (.iconst 1, 1) := by decide +kernel
theorem dX6_isByte_12 : decode cX6_isByte 12 = .ok (.goto 4, 3) := by decide +kernel
theorem dX6_isByte_15 : decode cX6_isByte 15 = .ok (.iconst 0, 1) := by decide +kernel
theorem dX6_isByte_16 : decode cX6_isByte 16 = .ok (.ireturn, 1) := by decide +kernel
theorem dX7_init_0 : decode cX7_init 0 = .ok (.aload_n 0, 1) := by decide +kernel
theorem dX7_init_1 : decode cX7_init 1 = .ok (.invokespecial 1, 3) := by decide +kernel
theorem dX7_init_4 : decode cX7_init 4 = .ok (.aload_n 0, 1) := by decide +kernel
theorem dX7_init_5 : decode cX7_init 5 = .ok (.sipush 4096, 3) := by decide +kernel
theorem dX7_init_8 : decode cX7_init 8 = .ok (.newarray .int, 2) := by decide +kernel
theorem dX7_init_10 : decode cX7_init 10 = .ok (.putfield 7, 3) := by decide +kernel
theorem dX7_init_13 : decode cX7_init 13 = .ok (.aload_n 0, 1) := by decide +kernel
theorem dX7_init_14 : decode cX7_init 14 = .ok (.sipush 4096, 3) := by decide +kernel
theorem dX7_init_17 : decode cX7_init 17 = .ok (.newarray .int, 2) := by decide +kernel
theorem dX7_init_19 : decode cX7_init 19 = .ok (.putfield 13, 3) := by decide +kernel
theorem dX7_init_22 : decode cX7_init 22 = .ok (.aload_n 0, 1) := by decide +kernel
theorem dX7_init_23 : decode cX7_init 23 = .ok (.bipush 8, 2) := by decide +kernel
theorem dX7_init_25 : decode cX7_init 25 = .ok (.newarray .int, 2) := by decide +kernel
theorem dX7_init_27 : decode cX7_init 27 = .ok (.putfield 16, 3) := by decide +kernel
theorem dX7_init_30 : decode cX7_init 30 = .ok (.aload_n 0, 1) := by decide +kernel
theorem dX7_init_31 : decode cX7_init 31 = .ok (.iconst (-1), 1) := by decide +kernel
theorem dX7_init_32 : decode cX7_init 32 = .ok (.putfield 19, 3) := by decide +kernel
theorem dX7_init_35 : decode cX7_init 35 = .ok (.aload_n 0, 1) := by decide +kernel
theorem dX7_init_36 : decode cX7_init 36 = .ok (.bipush 64, 2) := by decide +kernel
theorem dX7_init_38 : decode cX7_init 38 = .ok (.newarray .int, 2) := by decide +kernel
theorem dX7_init_40 : decode cX7_init 40 = .ok (.putfield 23, 3) := by decide +kernel
theorem dX7_init_43 : decode cX7_init 43 = .ok (.aload_n 0, 1) := by decide +kernel
theorem dX7_init_44 : decode cX7_init 44 = .ok (.sipush 256, 3) := by decide +kernel
theorem dX7_init_47 : decode cX7_init 47 = .ok (.newarray .int, 2) := by decide +kernel
theorem dX7_init_49 : decode cX7_init 49 = .ok (.putfield 26, 3) := by decide +kernel
theorem dX7_init_52 : decode cX7_init 52 = .ok (.return_, 1) := by decide +kernel
theorem dX7_thrown_0 : decode cX7_thrown 0 = .ok (.aload_n 0, 1) := by decide +kernel
theorem dX7_thrown_1 : decode cX7_thrown 1 = .ok (.getfield 29, 3) := by decide +kernel
theorem dX7_thrown_4 : decode cX7_thrown 4 = .ok (.ireturn, 1) := by decide +kernel
theorem dX7_noByte_0 : decode cX7_noByte 0 = .ok (.iload_n 0, 1) := by decide +kernel
theorem dX7_noByte_1 : decode cX7_noByte 1 = .ok (.ifCond .lt 10, 3) := by decide +kernel
theorem dX7_noByte_4 : decode cX7_noByte 4 = .ok (.iload_n 0, 1) := by decide +kernel
theorem dX7_noByte_5 : decode cX7_noByte 5 = .ok (.sipush 255, 3) := by decide +kernel
theorem dX7_noByte_8 : decode cX7_noByte 8 = .ok (.if_icmp .le 7, 3) := by decide +kernel
theorem dX7_noByte_11 : decode cX7_noByte 11 = .ok (.iconst 1, 1) := by decide +kernel
theorem dX7_noByte_12 : decode cX7_noByte 12 = .ok (.goto 4, 3) := by decide +kernel
theorem dX7_noByte_15 : decode cX7_noByte 15 = .ok (.iconst 0, 1) := by decide +kernel
theorem dX7_noByte_16 : decode cX7_noByte 16 = .ok (.ireturn, 1) := by decide +kernel
theorem dX7_noPlace_0 : decode cX7_noPlace 0 = .ok (.iload_n 0, 1) := by decide +kernel
theorem dX7_noPlace_1 : decode cX7_noPlace 1 = .ok (.ifCond .lt 10, 3) := by decide +kernel
theorem dX7_noPlace_4 : decode cX7_noPlace 4 = .ok (.iload_n 0, 1) := by decide +kernel
theorem dX7_noPlace_5 : decode cX7_noPlace 5 = .ok (.sipush 4096, 3) := by decide +kernel
theorem dX7_noPlace_8 : decode cX7_noPlace 8 = .ok (.if_icmp .lt 7, 3) := by decide +kernel
theorem dX7_noPlace_11 : decode cX7_noPlace 11 = .ok (.iconst 1, 1) := by decide +kernel
theorem dX7_noPlace_12 : decode cX7_noPlace 12 = .ok (.goto 4, 3) := by decide +kernel
theorem dX7_noPlace_15 : decode cX7_noPlace 15 = .ok (.iconst 0, 1) := by decide +kernel
theorem dX7_noPlace_16 : decode cX7_noPlace 16 = .ok (.ireturn, 1) := by decide +kernel
set_option maxRecDepth 20000 in
theorem ggX7_write_X7_noPlace : GoodIn wsX7_write wsX7_noPlace := goodIn_r _ [6] (by decide +kernel) (by decide +kernel)
set_option maxRecDepth 20000 in
theorem gX7_write_X7_noPlace : GoodIn wsX7_write (va_wsS RX7 32 yX7_noPlace wsX7_noPlace) := goodIn_app (goodIn_of _ (by decide +kernel)) ggX7_write_X7_noPlace
set_option maxRecDepth 20000 in
theorem ggX7_write_X7_noByte : GoodIn wsX7_write wsX7_noByte := goodIn_r _ [9] (by decide +kernel) (by decide +kernel)
set_option maxRecDepth 20000 in
theorem gX7_write_X7_noByte : GoodIn wsX7_write (va_wsS RX7 36 yX7_noByte wsX7_noByte) := goodIn_app (goodIn_of _ (by decide +kernel)) ggX7_write_X7_noByte
theorem dX7_write_0 : decode cX7_write 0 = .ok (.aload_n 0, 1) := by decide +kernel
theorem dX7_write_1 : decode cX7_write 1 = .ok (.iload_n 1, 1) := by decide +kernel
theorem dX7_write_2 : decode cX7_write 2 = .ok (.invokestatic 32, 3) := by decide +kernel
theorem dX7_write_5 : decode cX7_write 5 = .ok (.ifCond .ne 10, 3) := by decide +kernel
theorem dX7_write_8 : decode cX7_write 8 = .ok (.iload_n 2, 1) := by decide +kernel
theorem dX7_write_9 : decode cX7_write 9 = .ok (.invokestatic 36, 3) := by decide +kernel
theorem dX7_write_12 : decode cX7_write 12 = .ok (.ifCond .eq 7, 3) := by decide +kernel
theorem dX7_write_15 : decode cX7_write 15 = .ok (.iconst 1, 1) := by decide +kernel
theorem dX7_write_16 : decode cX7_write 16 = .ok (.goto 4, 3) := by decide +kernel
theorem dX7_write_19 : decode cX7_write 19 = .ok (.iconst 0, 1) := by decide +kernel
theorem dX7_write_20 : decode cX7_write 20 = .ok (.putfield 29, 3) := by decide +kernel
theorem dX7_write_23 : decode cX7_write 23 = .ok (.aload_n 0, 1) := by decide +kernel
theorem dX7_write_24 : decode cX7_write 24 = .ok (.getfield 29, 3) := by decide +kernel
theorem dX7_write_27 : decode cX7_write 27 = .ok (.ifCond .le 5, 3) := by decide +kernel
theorem dX7_write_30 : decode cX7_write 30 = .ok (.iconst 0, 1) := by decide +kernel
theorem dX7_write_31 : decode cX7_write 31 = .ok (.ireturn, 1) := by decide +kernel
theorem dX7_write_32 : decode cX7_write 32 = .ok (.aload_n 0, 1) := by decide +kernel
theorem dX7_write_33 : decode cX7_write 33 = .ok (.getfield 7, 3) := by decide +kernel
theorem dX7_write_36 : decode cX7_write 36 = .ok (.iload_n 1, 1) := by decide +kernel
theorem dX7_write_37 : decode cX7_write 37 = .ok (.iaload, 1) := by decide +kernel
theorem dX7_write_38 : decode cX7_write 38 = .ok (.istore_n 3, 1) := by decide +kernel
theorem dX7_write_39 : decode cX7_write 39 = .ok (.aload_n 0, 1) := by decide +kernel
theorem dX7_write_40 : decode cX7_write 40 = .ok (.getfield 7, 3) := by decide +kernel
theorem dX7_write_43 : decode cX7_write 43 = .ok (.iload_n 1, 1) := by decide +kernel
theorem dX7_write_44 : decode cX7_write 44 = .ok (.iload_n 2, 1) := by decide +kernel
theorem dX7_write_45 : decode cX7_write 45 = .ok (.iastore, 1) := by decide +kernel
theorem dX7_write_46 : decode cX7_write 46 = .ok (.iload_n 3, 1) := by decide +kernel
theorem dX7_write_47 : decode cX7_write 47 = .ok (.ireturn, 1) := by decide +kernel
set_option maxRecDepth 20000 in
theorem ggX7_read_X7_noPlace : GoodIn wsX7_read wsX7_noPlace := goodIn_r _ [6] (by decide +kernel) (by decide +kernel)
set_option maxRecDepth 20000 in
theorem gX7_read_X7_noPlace : GoodIn wsX7_read (va_wsS RX7 32 yX7_noPlace wsX7_noPlace) := goodIn_app (goodIn_of _ (by decide +kernel)) ggX7_read_X7_noPlace
theorem dX7_read_0 : decode cX7_read 0 = .ok (.aload_n 0, 1) := by decide +kernel
theorem dX7_read_1 : decode cX7_read 1 = .ok (.iload_n 1, 1) := by decide +kernel
theorem dX7_read_2 : decode cX7_read 2 = .ok (.invokestatic 32, 3) := by decide +kernel
theorem dX7_read_5 : decode cX7_read 5 = .ok (.ifCond .eq 7, 3) := by decide +kernel
theorem dX7_read_8 : decode cX7_read 8 = .ok (.iconst 1, 1) := by decide +kernel
theorem dX7_read_9 : decode cX7_read 9 = .ok (.goto 4, 3) := by decide +kernel
theorem dX7_read_12 : decode cX7_read 12 = .ok (.iconst 0, 1) := by decide +kernel
theorem dX7_read_13 : decode cX7_read 13 = .ok (.putfield 29, 3) := by decide +kernel
theorem dX7_read_16 : decode cX7_read 16 = .ok (.aload_n 0, 1) := by decide +kernel
theorem dX7_read_17 : decode cX7_read 17 = .ok (.getfield 29, 3) := by decide +kernel
theorem dX7_read_20 : decode cX7_read 20 = .ok (.ifCond .le 7, 3) := by decide +kernel
theorem dX7_read_23 : decode cX7_read 23 = .ok (.iconst 0, 1) := by decide +kernel
theorem dX7_read_24 : decode cX7_read 24 = .ok (.goto 9, 3) := by decide +kernel
theorem dX7_read_27 : decode cX7_read 27 = .ok (.aload_n 0, 1) := by decide +kernel
theorem dX7_read_28 : decode cX7_read 28 = .ok (.getfield 7, 3) := by decide +kernel
theorem dX7_read_31 : decode cX7_read 31 = .ok (.iload_n 1, 1) := by decide +kernel
theorem dX7_read_32 : decode cX7_read 32 = .ok (.iaload, 1) := by decide +kernel
theorem dX7_read_33 : decode cX7_read 33 = .ok (.ireturn, 1) := by decide +kernel
set_option maxRecDepth 20000 in
theorem ggX7_writeDisk_X7_noPlace : GoodIn wsX7_writeDisk wsX7_noPlace := goodIn_r _ [6] (by decide +kernel) (by decide +kernel)
set_option maxRecDepth 20000 in
theorem gX7_writeDisk_X7_noPlace : GoodIn wsX7_writeDisk (va_wsS RX7 32 yX7_noPlace wsX7_noPlace) := goodIn_app (goodIn_of _ (by decide +kernel)) ggX7_writeDisk_X7_noPlace
set_option maxRecDepth 20000 in
theorem ggX7_writeDisk_X7_noByte : GoodIn wsX7_writeDisk wsX7_noByte := goodIn_r _ [9] (by decide +kernel) (by decide +kernel)
set_option maxRecDepth 20000 in
theorem gX7_writeDisk_X7_noByte : GoodIn wsX7_writeDisk (va_wsS RX7 36 yX7_noByte wsX7_noByte) := goodIn_app (goodIn_of _ (by decide +kernel)) ggX7_writeDisk_X7_noByte
theorem dX7_writeDisk_0 : decode cX7_writeDisk 0 = .ok (.aload_n 0, 1) := by decide +kernel
theorem dX7_writeDisk_1 : decode cX7_writeDisk 1 = .ok (.iload_n 1, 1) := by decide +kernel
theorem dX7_writeDisk_2 : decode cX7_writeDisk 2 = .ok (.invokestatic 32, 3) := by decide +kernel
theorem dX7_writeDisk_5 : decode cX7_writeDisk 5 = .ok (.ifCond .ne 10, 3) := by decide +kernel
theorem dX7_writeDisk_8 : decode cX7_writeDisk 8 = .ok (.iload_n 2, 1) := by decide +kernel
theorem dX7_writeDisk_9 : decode cX7_writeDisk 9 = .ok (.invokestatic 36, 3) := by decide +kernel
theorem dX7_writeDisk_12 : decode cX7_writeDisk 12 = .ok (.ifCond .eq 7, 3) := by decide +kernel
theorem dX7_writeDisk_15 : decode cX7_writeDisk 15 = .ok (.iconst 1, 1) := by decide +kernel
theorem dX7_writeDisk_16 : decode cX7_writeDisk 16 = .ok (.goto 4, 3) := by decide +kernel
theorem dX7_writeDisk_19 : decode cX7_writeDisk 19 = .ok (.iconst 0, 1) := by decide +kernel
theorem dX7_writeDisk_20 : decode cX7_writeDisk 20 = .ok (.putfield 29, 3) := by decide +kernel
theorem dX7_writeDisk_23 : decode cX7_writeDisk 23 = .ok (.aload_n 0, 1) := by decide +kernel
theorem dX7_writeDisk_24 : decode cX7_writeDisk 24 = .ok (.getfield 29, 3) := by decide +kernel
theorem dX7_writeDisk_27 : decode cX7_writeDisk 27 = .ok (.ifCond .le 5, 3) := by decide +kernel
theorem dX7_writeDisk_30 : decode cX7_writeDisk 30 = .ok (.iconst 0, 1) := by decide +kernel
theorem dX7_writeDisk_31 : decode cX7_writeDisk 31 = .ok (.ireturn, 1) := by decide +kernel
theorem dX7_writeDisk_32 : decode cX7_writeDisk 32 = .ok (.aload_n 0, 1) := by decide +kernel
theorem dX7_writeDisk_33 : decode cX7_writeDisk 33 = .ok (.getfield 13, 3) := by decide +kernel
theorem dX7_writeDisk_36 : decode cX7_writeDisk 36 = .ok (.iload_n 1, 1) := by decide +kernel
theorem dX7_writeDisk_37 : decode cX7_writeDisk 37 = .ok (.iaload, 1) := by decide +kernel
theorem dX7_writeDisk_38 : decode cX7_writeDisk 38 = .ok (.istore_n 3, 1) := by decide +kernel
theorem dX7_writeDisk_39 : decode cX7_writeDisk 39 = .ok (.aload_n 0, 1) := by decide +kernel
theorem dX7_writeDisk_40 : decode cX7_writeDisk 40 = .ok (.getfield 13, 3) := by decide +kernel
theorem dX7_writeDisk_43 : decode cX7_writeDisk 43 = .ok (.iload_n 1, 1) := by decide +kernel
theorem dX7_writeDisk_44 : decode cX7_writeDisk 44 = .ok (.iload_n 2, 1) := by decide +kernel
theorem dX7_writeDisk_45 : decode cX7_writeDisk 45 = .ok (.iastore, 1) := by decide +kernel
theorem dX7_writeDisk_46 : decode cX7_writeDisk 46 = .ok (.iload_n 3, 1) := by decide +kernel
theorem dX7_writeDisk_47 : decode cX7_writeDisk 47 = .ok (.ireturn, 1) := by decide +kernel
set_option maxRecDepth 20000 in
theorem ggX7_readDisk_X7_noPlace : GoodIn wsX7_readDisk wsX7_noPlace := goodIn_r _ [6] (by decide +kernel) (by decide +kernel)
set_option maxRecDepth 20000 in
theorem gX7_readDisk_X7_noPlace : GoodIn wsX7_readDisk (va_wsS RX7 32 yX7_noPlace wsX7_noPlace) := goodIn_app (goodIn_of _ (by decide +kernel)) ggX7_readDisk_X7_noPlace
theorem dX7_readDisk_0 : decode cX7_readDisk 0 = .ok (.aload_n 0, 1) := by decide +kernel
theorem dX7_readDisk_1 : decode cX7_readDisk 1 = .ok (.iload_n 1, 1) := by decide +kernel
theorem dX7_readDisk_2 : decode cX7_readDisk 2 = .ok (.invokestatic 32, 3) := by decide +kernel
theorem dX7_readDisk_5 : decode cX7_readDisk 5 = .ok (.ifCond .eq 7, 3) := by decide +kernel
theorem dX7_readDisk_8 : decode cX7_readDisk 8 = .ok (.iconst 1, 1) := by decide +kernel
theorem dX7_readDisk_9 : decode cX7_readDisk 9 = .ok (.goto 4, 3) := by decide +kernel
theorem dX7_readDisk_12 : decode cX7_readDisk 12 = .ok (.iconst 0, 1) := by decide +kernel
theorem dX7_readDisk_13 : decode cX7_readDisk 13 = .ok (.putfield 29, 3) := by decide +kernel
theorem dX7_readDisk_16 : decode cX7_readDisk 16 = .ok (.aload_n 0, 1) := by decide +kernel
theorem dX7_readDisk_17 : decode cX7_readDisk 17 = .ok (.getfield 29, 3) := by decide +kernel
theorem dX7_readDisk_20 : decode cX7_readDisk 20 = .ok (.ifCond .le 7, 3) := by decide +kernel
theorem dX7_readDisk_23 : decode cX7_readDisk 23 = .ok (.iconst 0, 1) := by decide +kernel
theorem dX7_readDisk_24 : decode cX7_readDisk 24 = .ok (.goto 9, 3) := by decide +kernel
theorem dX7_readDisk_27 : decode cX7_readDisk 27 = .ok (.aload_n 0, 1) := by decide +kernel
theorem dX7_readDisk_28 : decode cX7_readDisk 28 = .ok (.getfield 13, 3) := by decide +kernel
theorem dX7_readDisk_31 : decode cX7_readDisk 31 = .ok (.iload_n 1, 1) := by decide +kernel
theorem dX7_readDisk_32 : decode cX7_readDisk 32 = .ok (.iaload, 1) := by decide +kernel
theorem dX7_readDisk_33 : decode cX7_readDisk 33 = .ok (.ireturn, 1) := by decide +kernel
theorem dX7_sum_0 : decode cX7_sum 0 = .ok (.aload_n 0, 1) := by decide +kernel
theorem dX7_sum_1 : decode cX7_sum 1 = .ok (.iconst 0, 1) := by decide +kernel
theorem dX7_sum_2 : decode cX7_sum 2 = .ok (.putfield 29, 3) := by decide +kernel
theorem dX7_sum_5 : decode cX7_sum 5 = .ok (.iconst 0, 1) := by decide +kernel
theorem dX7_sum_6 : decode cX7_sum 6 = .ok (.istore_n 1, 1) := by decide +kernel
theorem dX7_sum_7 : decode cX7_sum 7 = .ok (.iconst 0, 1) := by decide +kernel
theorem dX7_sum_8 : decode cX7_sum 8 = .ok (.istore_n 2, 1) := by decide +kernel
theorem dX7_sum_9 : decode cX7_sum 9 = .ok (.iload_n 2, 1) := by decide +kernel
theorem dX7_sum_10 : decode cX7_sum 10 = .ok (.sipush 4096, 3) := by decide +kernel
theorem dX7_sum_13 : decode cX7_sum 13 = .ok (.if_icmp .ge 22, 3) := by decide +kernel
theorem dX7_sum_16 : decode cX7_sum 16 = .ok (.iload_n 1, 1) := by decide +kernel
theorem dX7_sum_17 : decode cX7_sum 17 = .ok (.aload_n 0, 1) := by decide +kernel
theorem dX7_sum_18 : decode cX7_sum 18 = .ok (.getfield 7, 3) := by decide +kernel
theorem dX7_sum_21 : decode cX7_sum 21 = .ok (.iload_n 2, 1) := by decide +kernel
theorem dX7_sum_22 : decode cX7_sum 22 = .ok (.iaload, 1) := by decide +kernel
theorem dX7_sum_23 : decode cX7_sum 23 = .ok (.iload_n 2, 1) := by decide +kernel
theorem dX7_sum_24 : decode cX7_sum 24 = .ok (.iconst 1, 1) := by decide +kernel
theorem dX7_sum_25 : decode cX7_sum 25 = .ok (.iadd, 1) := by decide +kernel
theorem dX7_sum_26 : decode cX7_sum 26 = .ok (.imul, 1) := by decide +kernel
theorem dX7_sum_27 : decode cX7_sum 27 = .ok (.iadd, 1) := by decide +kernel
theorem dX7_sum_28 : decode cX7_sum 28 = .ok (.istore_n 1, 1) := by decide +kernel
theorem dX7_sum_29 : decode cX7_sum 29 = .ok (.iinc 2 1, 3) := by decide +kernel
theorem dX7_sum_32 : decode cX7_sum 32 = .ok (.goto (-23), 3) := by decide +kernel
theorem dX7_sum_35 : decode cX7_sum 35 = .ok (.iload_n 1, 1) := by decide +kernel
theorem dX7_sum_36 : decode cX7_sum 36 = .ok (.ireturn, 1) := by decide +kernel
theorem dX7_get_0 : decode cX7_get 0 = .ok (.aload_n 0, 1) := by decide +kernel
theorem dX7_get_1 : decode cX7_get 1 = .ok (.getfield 7, 3) := by decide +kernel
theorem dX7_get_4 : decode cX7_get 4 = .ok (.iload_n 1, 1) := by decide +kernel
theorem dX7_get_5 : decode cX7_get 5 = .ok (.sipush 4095, 3) := by decide +kernel
theorem dX7_get_8 : decode cX7_get 8 = .ok (.iand, 1) := by decide +kernel
theorem dX7_get_9 : decode cX7_get 9 = .ok (.iaload, 1) := by decide +kernel
theorem dX7_get_10 : decode cX7_get 10 = .ok (.ireturn, 1) := by decide +kernel
theorem dX7_set_0 : decode cX7_set 0 = .ok (.aload_n 0, 1) := by decide +kernel
theorem dX7_set_1 : decode cX7_set 1 = .ok (.getfield 7, 3) := by decide +kernel
theorem dX7_set_4 : decode cX7_set 4 = .ok (.iload_n 1, 1) := by decide +kernel
theorem dX7_set_5 : decode cX7_set 5 = .ok (.sipush 4095, 3) := by decide +kernel
theorem dX7_set_8 : decode cX7_set 8 = .ok (.iand, 1) := by decide +kernel
theorem dX7_set_9 : decode cX7_set 9 = .ok (.iload_n 2, 1) := by decide +kernel
theorem dX7_set_10 : decode cX7_set 10 = .ok (.sipush 255, 3) := by decide +kernel
theorem dX7_set_13 : decode cX7_set 13 = .ok (.iand, 1) := by decide +kernel
theorem dX7_set_14 : decode cX7_set 14 = .ok (.iastore, 1) := by decide +kernel
theorem dX7_set_15 : decode cX7_set 15 = .ok (.return_, 1) := by decide +kernel
set_option maxRecDepth 20000 in
theorem ggX7_getWord_X7_get : GoodIn wsX7_getWord wsX7_get := goodIn_r _ [5, 6, 7, 8, 9, 10, 11, 12, 13, 14, 15, 16, 17, 18, 19, 20, 21, 22, 23, 24, 25, 26, 27, 28, 29, 30, 31, 32, 33, 34, 35, 36] (by decide +kernel) (by decide +kernel)
set_option maxRecDepth 20000 in
theorem gX7_getWord_X7_get : GoodIn wsX7_getWord (wsV RX7 39 RX7 yX7_get wsX7_get) := goodIn_app (goodIn_of _ (by decide +kernel)) ggX7_getWord_X7_get
theorem dX7_getWord_0 : decode cX7_getWord 0 = .ok (.aload_n 0, 1) := by decide +kernel
theorem dX7_getWord_1 : decode cX7_getWord 1 = .ok (.iload_n 1, 1) := by decide +kernel
theorem dX7_getWord_2 : decode cX7_getWord 2 = .ok (.invokevirtual 39, 3) := by decide +kernel
theorem dX7_getWord_5 : decode cX7_getWord 5 = .ok (.aload_n 0, 1) := by decide +kernel
theorem dX7_getWord_6 : decode cX7_getWord 6 = .ok (.iload_n 1, 1) := by decide +kernel
theorem dX7_getWord_7 : decode cX7_getWord 7 = .ok (.iconst 1, 1) := by decide +kernel
theorem dX7_getWord_8 : decode cX7_getWord 8 = .ok (.iadd, 1) := by decide +kernel
theorem dX7_getWord_9 : decode cX7_getWord 9 = .ok (.invokevirtual 39, 3) := by decide +kernel
theorem dX7_getWord_12 : decode cX7_getWord 12 = .ok (.bipush 8, 2) := by decide +kernel
theorem dX7_getWord_14 : decode cX7_getWord 14 = .ok (.ishl, 1) := by decide +kernel
theorem dX7_getWord_15 : decode cX7_getWord 15 = .ok (.ior, 1) := by decide +kernel
theorem dX7_getWord_16 : decode cX7_getWord 16 = .ok (.ireturn, 1) := by decide +kernel
set_option maxRecDepth 20000 in
theorem ggX7_setWord_X7_set : GoodIn wsX7_setWord wsX7_set := goodIn_r _ [5, 6, 7, 8, 9, 10, 11, 12, 13, 14, 15, 16, 17, 18, 19, 20, 21, 22, 23, 24, 25, 26, 27, 28, 29, 30, 31, 32, 33, 34, 35, 36] (by decide +kernel) (by decide +kernel)
set_option maxRecDepth 20000 in
theorem gX7_setWord_X7_set : GoodIn wsX7_setWord (wsV RX7 43 RX7 yX7_set wsX7_set) := goodIn_app (goodIn_of _ (by decide +kernel)) ggX7_setWord_X7_set
theorem dX7_setWord_0 : decode cX7_setWord 0 = .ok (.aload_n 0, 1) := by decide +kernel
theorem dX7_setWord_1 : decode cX7_setWord 1 = .ok (.iload_n 1, 1) := by decide +kernel
theorem dX7_setWord_2 : decode cX7_setWord 2 = .ok (.iload_n 2, 1) := by decide +kernel
theorem dX7_setWord_3 : decode cX7_setWord 3 = .ok (.invokevirtual 43, 3) := by decide +kernel
theorem dX7_setWord_6 : decode cX7_setWord 6 = .ok (.aload_n 0, 1) := by decide +kernel
theorem dX7_setWord_7 : decode cX7_setWord 7 = .ok (.iload_n 1, 1) := by decide +kernel
theorem dX7_setWord_8 : decode cX7_setWord 8 = .ok (.iconst 1, 1) := by decide +kernel
theorem dX7_setWord_9 : decode cX7_setWord 9 = .ok (.iadd, 1) := by decide +kernel
theorem dX7_setWord_10 : decode cX7_setWord 10 = .ok (.iload_n 2, 1) := by decide +kernel
theorem dX7_setWord_11 : decode cX7_setWord 11 = .ok (.bipush 8, 2) := by decide +kernel
theorem dX7_setWord_13 : decode cX7_setWord 13 = .ok (.ishr, 1) := by decide +kernel
theorem dX7_setWord_14 : decode cX7_setWord 14 = .ok (.invokevirtual 43, 3) := by decide +kernel
theorem dX7_setWord_17 : decode cX7_setWord 17 = .ok (.return_, 1) := by decide +kernel
set_option maxRecDepth 20000 in
theorem ggX7_next_X7_get : GoodIn wsX7_next wsX7_get := goodIn_r _ [7, 8, 9, 10, 11, 12, 13, 14, 15, 16, 17, 18, 19, 20, 21, 22, 23, 24, 25, 26, 27, 28, 29, 30, 31, 32, 33, 34, 35, 36, 37, 38] (by decide +kernel) (by decide +kernel)
set_option maxRecDepth 20000 in
theorem gX7_next_X7_get : GoodIn wsX7_next (wsV RX7 39 RX7 yX7_get wsX7_get) := goodIn_app (goodIn_of _ (by decide +kernel)) ggX7_next_X7_get
theorem dX7_next_0 : decode cX7_next 0 = .ok (.aload_n 0, 1) := by decide +kernel
theorem dX7_next_1 : decode cX7_next 1 = .ok (.aload_n 0, 1) := by decide +kernel
theorem dX7_next_2 : decode cX7_next 2 = .ok (.getfield 47, 3) := by decide +kernel
theorem dX7_next_5 : decode cX7_next 5 = .ok (.invokevirtual 39, 3) := by decide +kernel
theorem dX7_next_8 : decode cX7_next 8 = .ok (.istore_n 1, 1) := by decide +kernel
theorem dX7_next_9 : decode cX7_next 9 = .ok (.aload_n 0, 1) := by decide +kernel
theorem dX7_next_10 : decode cX7_next 10 = .ok (.aload_n 0, 1) := by decide +kernel
theorem dX7_next_11 : decode cX7_next 11 = .ok (.getfield 47, 3) := by decide +kernel
theorem dX7_next_14 : decode cX7_next 14 = .ok (.iconst 1, 1) := by decide +kernel
theorem dX7_next_15 : decode cX7_next 15 = .ok (.iadd, 1) := by decide +kernel
theorem dX7_next_16 : decode cX7_next 16 = .ok (.ldc 50, 2) := by decide +kernel
theorem dX7_next_18 : decode cX7_next 18 = .ok (.iand, 1) := by decide +kernel
theorem dX7_next_19 : decode cX7_next 19 = .ok (.putfield 47, 3) := by decide +kernel
theorem dX7_next_22 : decode cX7_next 22 = .ok (.iload_n 1, 1) := by decide +kernel
theorem dX7_next_23 : decode cX7_next 23 = .ok (.ireturn, 1) := by decide +kernel
set_option maxRecDepth 20000 in
theorem ggX7_nextWord_X7_next : GoodIn wsX7_nextWord wsX7_next := goodIn_r _ [5, 6, 7, 8, 9, 10, 4, 11, 12, 13, 14, 15, 16, 17, 18, 19, 20, 21, 22, 23, 24, 25, 26, 27, 28, 29, 30, 31, 32, 33, 34, 35, 36, 37, 38, 39, 40, 41, 42] (by decide +kernel) (by decide +kernel)
set_option maxRecDepth 20000 in
theorem gX7_nextWord_X7_next : GoodIn wsX7_nextWord (wsV RX7 51 RX7 yX7_next wsX7_next) := goodIn_app (goodIn_of _ (by decide +kernel)) ggX7_nextWord_X7_next
theorem dX7_nextWord_0 : decode cX7_nextWord 0 = .ok (.aload_n 0, 1) := by decide +kernel
theorem dX7_nextWord_1 : decode cX7_nextWord 1 = .ok (.invokevirtual 51, 3) := by decide +kernel
theorem dX7_nextWord_4 : decode cX7_nextWord 4 = .ok (.istore_n 1, 1) := by decide +kernel
theorem dX7_nextWord_5 : decode cX7_nextWord 5 = .ok (.iload_n 1, 1) := by decide +kernel
theorem dX7_nextWord_6 : decode cX7_nextWord 6 = .ok (.aload_n 0, 1) := by decide +kernel
theorem dX7_nextWord_7 : decode cX7_nextWord 7 = .ok (.invokevirtual 51, 3) := by decide +kernel
theorem dX7_nextWord_10 : decode cX7_nextWord 10 = .ok (.bipush 8, 2) := by decide +kernel
theorem dX7_nextWord_12 : decode cX7_nextWord 12 = .ok (.ishl, 1) := by decide +kernel
theorem dX7_nextWord_13 : decode cX7_nextWord 13 = .ok (.ior, 1) := by decide +kernel
theorem dX7_nextWord_14 : decode cX7_nextWord 14 = .ok (.ireturn, 1) := by decide +kernel
set_option maxRecDepth 20000 in
theorem ggX7_push_X7_setWord : GoodIn wsX7_push wsX7_setWord := goodIn_r _ [7, 8, 9, 10, 6, 11, 12, 13, 14, 15, 16, 17, 18, 19, 20, 21, 22, 23, 24, 25, 26, 27, 28, 29, 30, 31, 32, 33, 34, 35, 36, 37, 38, 39, 40, 41, 42] (by decide +kernel) (by decide +kernel)
set_option maxRecDepth 20000 in
theorem gX7_push_X7_setWord : GoodIn wsX7_push (wsV RX7 58 RX7 yX7_setWord wsX7_setWord) := goodIn_app (goodIn_of _ (by decide +kernel)) ggX7_push_X7_setWord
theorem dX7_push_0 : decode cX7_push 0 = .ok (.aload_n 0, 1) := by decide +kernel
theorem dX7_push_1 : decode cX7_push 1 = .ok (.aload_n 0, 1) := by decide +kernel
theorem dX7_push_2 : decode cX7_push 2 = .ok (.getfield 55, 3) := by decide +kernel
theorem dX7_push_5 : decode cX7_push 5 = .ok (.iconst 2, 1) := by decide +kernel
theorem dX7_push_6 : decode cX7_push 6 = .ok (.isub, 1) := by decide +kernel
theorem dX7_push_7 : decode cX7_push 7 = .ok (.ldc 50, 2) := by decide +kernel
theorem dX7_push_9 : decode cX7_push 9 = .ok (.iand, 1) := by decide +kernel
theorem dX7_push_10 : decode cX7_push 10 = .ok (.putfield 55, 3) := by decide +kernel
theorem dX7_push_13 : decode cX7_push 13 = .ok (.aload_n 0, 1) := by decide +kernel
theorem dX7_push_14 : decode cX7_push 14 = .ok (.aload_n 0, 1) := by decide +kernel
theorem dX7_push_15 : decode cX7_push 15 = .ok (.getfield 55, 3) := by decide +kernel
theorem dX7_push_18 : decode cX7_push 18 = .ok (.iload_n 1, 1) := by decide +kernel
theorem dX7_push_19 : decode cX7_push 19 = .ok (.invokevirtual 58, 3) := by decide +kernel
theorem dX7_push_22 : decode cX7_push 22 = .ok (.return_, 1) := by decide +kernel
set_option maxRecDepth 20000 in
theorem ggX7_pop_X7_getWord : GoodIn wsX7_pop wsX7_getWord := goodIn_r _ [7, 8, 9, 10, 6, 11, 12, 13, 14, 15, 16, 17, 18, 19, 20, 21, 22, 23, 24, 25, 26, 27, 28, 29, 30, 31, 32, 33, 34, 35, 36, 37, 38, 39, 40, 41, 42] (by decide +kernel) (by decide +kernel)
set_option maxRecDepth 20000 in
theorem gX7_pop_X7_getWord : GoodIn wsX7_pop (wsV RX7 61 RX7 yX7_getWord wsX7_getWord) := goodIn_app (goodIn_of _ (by decide +kernel)) ggX7_pop_X7_getWord
theorem dX7_pop_0 : decode cX7_pop 0 = .ok (.aload_n 0, 1) := by decide +kernel
theorem dX7_pop_1 : decode cX7_pop 1 = .ok (.aload_n 0, 1) := by decide +kernel
theorem dX7_pop_2 : decode cX7_pop 2 = .ok (.getfield 55, 3) := by decide +kernel
theorem dX7_pop_5 : decode cX7_pop 5 = .ok (.invokevirtual 61, 3) := by decide +kernel
theorem dX7_pop_8 : decode cX7_pop 8 = .ok (.istore_n 1, 1) := by decide +kernel
theorem dX7_pop_9 : decode cX7_pop 9 = .ok (.aload_n 0, 1) := by decide +kernel
theorem dX7_pop_10 : decode cX7_pop 10 = .ok (.aload_n 0, 1) := by decide +kernel
theorem dX7_pop_11 : decode cX7_pop 11 = .ok (.getfield 55, 3) := by decide +kernel
theorem dX7_pop_14 : decode cX7_pop 14 = .ok (.iconst 2, 1) := by decide +kernel
theorem dX7_pop_15 : decode cX7_pop 15 = .ok (.iadd, 1) := by decide +kernel
theorem dX7_pop_16 : decode cX7_pop 16 = .ok (.ldc 50, 2) := by decide +kernel
theorem dX7_pop_18 : decode cX7_pop 18 = .ok (.iand, 1) := by decide +kernel
theorem dX7_pop_19 : decode cX7_pop 19 = .ok (.putfield 55, 3) := by decide +kernel
theorem dX7_pop_22 : decode cX7_pop 22 = .ok (.iload_n 1, 1) := by decide +kernel
theorem dX7_pop_23 : decode cX7_pop 23 = .ok (.ireturn, 1) := by decide +kernel
theorem dX7_hl_0 : decode cX7_hl 0 = .ok (.aload_n 0, 1) := by decide +kernel
theorem dX7_hl_1 : decode cX7_hl 1 = .ok (.getfield 16, 3) := by decide +kernel
theorem dX7_hl_4 : decode cX7_hl 4 = .ok (.iconst 4, 1) := by decide +kernel
theorem dX7_hl_5 : decode cX7_hl 5 = .ok (.iaload, 1) := by decide +kernel
theorem dX7_hl_6 : decode cX7_hl 6 = .ok (.bipush 8, 2) := by decide +kernel
theorem dX7_hl_8 : decode cX7_hl 8 = .ok (.ishl, 1) := by decide +kernel
theorem dX7_hl_9 : decode cX7_hl 9 = .ok (.aload_n 0, 1) := by decide +kernel
theorem dX7_hl_10 : decode cX7_hl 10 = .ok (.getfield 16, 3) := by decide +kernel
theorem dX7_hl_13 : decode cX7_hl 13 = .ok (.iconst 5, 1) := by decide +kernel
theorem dX7_hl_14 : decode cX7_hl 14 = .ok (.iaload, 1) := by decide +kernel
theorem dX7_hl_15 : decode cX7_hl 15 = .ok (.ior, 1) := by decide +kernel
theorem dX7_hl_16 : decode cX7_hl 16 = .ok (.ireturn, 1) := by decide +kernel
theorem dX7_pair_0 : decode cX7_pair 0 = .ok (.iload_n 1, 1) := by decide +kernel
theorem dX7_pair_1 : decode cX7_pair 1 = .ok (.iconst 3, 1) := by decide +kernel
theorem dX7_pair_2 : decode cX7_pair 2 = .ok (.if_icmp .ne 10, 3) := by decide +kernel
theorem dX7_pair_5 : decode cX7_pair 5 = .ok (.aload_n 0, 1) := by decide +kernel
theorem dX7_pair_6 : decode cX7_pair 6 = .ok (.getfield 55, 3) := by decide +kernel
theorem dX7_pair_9 : decode cX7_pair 9 = .ok (.goto 25, 3) := by decide +kernel
theorem dX7_pair_12 : decode cX7_pair 12 = .ok (.aload_n 0, 1) := by decide +kernel
theorem dX7_pair_13 : decode cX7_pair 13 = .ok (.getfield 16, 3) := by decide +kernel
theorem dX7_pair_16 : decode cX7_pair 16 = .ok (.iconst 2, 1) := by decide +kernel
theorem dX7_pair_17 : decode cX7_pair 17 = .ok (.iload_n 1, 1) := by decide +kernel
theorem dX7_pair_18 : decode cX7_pair 18 = .ok (.imul, 1) := by decide +kernel
theorem dX7_pair_19 : decode cX7_pair 19 = .ok (.iaload, 1) := by decide +kernel
theorem dX7_pair_20 : decode cX7_pair 20 = .ok (.bipush 8, 2) := by decide +kernel
theorem dX7_pair_22 : decode cX7_pair 22 = .ok (.ishl, 1) := by decide +kernel
theorem dX7_pair_23 : decode cX7_pair 23 = .ok (.aload_n 0, 1) := by decide +kernel
theorem dX7_pair_24 : decode cX7_pair 24 = .ok (.getfield 16, 3) := by decide +kernel
theorem dX7_pair_27 : decode cX7_pair 27 = .ok (.iconst 2, 1) := by decide +kernel
theorem dX7_pair_28 : decode cX7_pair 28 = .ok (.iload_n 1, 1) := by decide +kernel
theorem dX7_pair_29 : decode cX7_pair 29 = .ok (.imul, 1) := by decide +kernel
theorem dX7_pair_30 : decode cX7_pair 30 = .ok (.iconst 1, 1) := by decide +kernel
theorem dX7_pair_31 : decode cX7_pair 31 = .ok (.iadd, 1) := by decide +kernel
theorem dX7_pair_32 : decode cX7_pair 32 = .ok (.iaload, 1) := by decide +kernel
theorem dX7_pair_33 : decode cX7_pair 33 = .ok (.ior, 1) := by decide +kernel
theorem dX7_pair_34 : decode cX7_pair 34 = .ok (.ireturn, 1) := by decide +kernel
theorem dX7_setPair_0 : decode cX7_setPair 0 = .ok (.iload_n 1, 1) := by decide +kernel
theorem dX7_setPair_1 : decode cX7_setPair 1 = .ok (.iconst 3, 1) := by decide +kernel
theorem dX7_setPair_2 : decode cX7_setPair 2 = .ok (.if_icmp .ne 14, 3) := by decide +kernel
theorem dX7_setPair_5 : decode cX7_setPair 5 = .ok (.aload_n 0, 1) := by decide +kernel
theorem dX7_setPair_6 : decode cX7_setPair 6 = .ok (.iload_n 2, 1) := by decide +kernel
theorem dX7_setPair_7 : decode cX7_setPair 7 = .ok (.ldc 50, 2) := by decide +kernel
theorem dX7_setPair_9 : decode cX7_setPair 9 = .ok (.iand, 1) := by decide +kernel
theorem dX7_setPair_10 : decode cX7_setPair 10 = .ok (.putfield 55, 3) := by decide +kernel
theorem dX7_setPair_13 : decode cX7_setPair 13 = .ok (.goto 34, 3) := by decide +kernel
theorem dX7_setPair_16 : decode cX7_setPair 16 = .ok (.aload_n 0, 1) := by decide +kernel
theorem dX7_setPair_17 : decode cX7_setPair 17 = .ok (.getfield 16, 3) := by decide +kernel
theorem dX7_setPair_20 : decode cX7_setPair 20 = .ok (.iconst 2, 1) := by decide +kernel
theorem dX7_setPair_21 : decode cX7_setPair 21 = .ok (.iload_n 1, 1) := by decide +kernel
theorem dX7_setPair_22 : decode cX7_setPair 22 = .ok (.imul, 1) := by decide +kernel
theorem dX7_setPair_23 : decode cX7_setPair 23 = .ok (.iload_n 2, 1) := by decide +kernel
theorem dX7_setPair_24 : decode cX7_setPair 24 = .ok (.bipush 8, 2) := by decide +kernel
theorem dX7_setPair_26 : decode cX7_setPair 26 = .ok (.ishr, 1) := by decide +kernel
theorem dX7_setPair_27 : decode cX7_setPair 27 = .ok (.sipush 255, 3) := by decide +kernel
theorem dX7_setPair_30 : decode cX7_setPair 30 = .ok (.iand, 1) := by decide +kernel
theorem dX7_setPair_31 : decode cX7_setPair 31 = .ok (.iastore, 1) := by decide +kernel
theorem dX7_setPair_32 : decode cX7_setPair 32 = .ok (.aload_n 0, 1) := by decide +kernel
theorem dX7_setPair_33 : decode cX7_setPair 33 = .ok (.getfield 16, 3) := by decide +kernel
theorem dX7_setPair_36 : decode cX7_setPair 36 = .ok (.iconst 2, 1) := by decide +kernel
theorem dX7_setPair_37 : decode cX7_setPair 37 = .ok (.iload_n 1, 1) := by decide +kernel
theorem dX7_setPair_38 : decode cX7_setPair 38 = .ok (.imul, 1) := by decide +kernel
theorem dX7_setPair_39 : decode cX7_setPair 39 = .ok (.iconst 1, 1) := by decide +kernel
theorem dX7_setPair_40 : decode cX7_setPair 40 = .ok (.iadd, 1) := by decide +kernel
theorem dX7_setPair_41 : decode cX7_setPair 41 = .ok (.iload_n 2, 1) := by decide +kernel
theorem dX7_setPair_42 : decode cX7_setPair 42 = .ok (.sipush 255, 3) := by decide +kernel
theorem dX7_setPair_45 : decode cX7_setPair 45 = .ok (.iand, 1) := by decide +kernel
theorem dX7_setPair_46 : decode cX7_setPair 46 = .ok (.iastore, 1) := by decide +kernel
theorem dX7_setPair_47 : decode cX7_setPair 47 = .ok (.return_, 1) := by decide +kernel
set_option maxRecDepth 20000 in
theorem ggX7_reg_X7_hl : GoodIn wsX7_reg wsX7_hl := goodIn_r _ [6, 1, 12, 13, 14, 15, 16, 17, 18, 19, 20, 21, 22, 23, 24, 25, 26, 27, 28, 29, 30, 31, 32, 33, 34, 35, 36, 37, 38, 39, 40, 41] (by decide +kernel) (by decide +kernel)
set_option maxRecDepth 20000 in
theorem gX7_reg_X7_hl : GoodIn wsX7_reg (wsV RX7 64 RX7 yX7_hl wsX7_hl) := goodIn_app (goodIn_of _ (by decide +kernel)) ggX7_reg_X7_hl
set_option maxRecDepth 20000 in
theorem ggX7_reg_X7_get : GoodIn wsX7_reg wsX7_get := goodIn_r _ [10, 11, 12, 13, 14, 15, 16, 17, 18, 19, 20, 21, 22, 23, 24, 25, 26, 27, 28, 29, 30, 31, 32, 33, 34, 35, 36, 37, 38, 39, 40, 41] (by decide +kernel) (by decide +kernel)
set_option maxRecDepth 20000 in
theorem gX7_reg_X7_get : GoodIn wsX7_reg (wsV RX7 39 RX7 yX7_get wsX7_get) := goodIn_app (goodIn_of _ (by decide +kernel)) ggX7_reg_X7_get
theorem dX7_reg_0 : decode cX7_reg 0 = .ok (.iload_n 1, 1) := by decide +kernel
theorem dX7_reg_1 : decode cX7_reg 1 = .ok (.bipush 6, 2) := by decide +kernel
theorem dX7_reg_3 : decode cX7_reg 3 = .ok (.if_icmp .ne 14, 3) := by decide +kernel
theorem dX7_reg_6 : decode cX7_reg 6 = .ok (.aload_n 0, 1) := by decide +kernel
theorem dX7_reg_7 : decode cX7_reg 7 = .ok (.aload_n 0, 1) := by decide +kernel
theorem dX7_reg_8 : decode cX7_reg 8 = .ok (.invokevirtual 64, 3) := by decide +kernel
theorem dX7_reg_11 : decode cX7_reg 11 = .ok (.invokevirtual 39, 3) := by decide +kernel
theorem dX7_reg_14 : decode cX7_reg 14 = .ok (.goto 9, 3) := by decide +kernel
theorem dX7_reg_17 : decode cX7_reg 17 = .ok (.aload_n 0, 1) := by decide +kernel
theorem dX7_reg_18 : decode cX7_reg 18 = .ok (.getfield 16, 3) := by decide +kernel
theorem dX7_reg_21 : decode cX7_reg 21 = .ok (.iload_n 1, 1) := by decide +kernel
theorem dX7_reg_22 : decode cX7_reg 22 = .ok (.iaload, 1) := by decide +kernel
theorem dX7_reg_23 : decode cX7_reg 23 = .ok (.ireturn, 1) := by decide +kernel
set_option maxRecDepth 20000 in
theorem ggX7_setReg_X7_hl : GoodIn wsX7_setReg wsX7_hl := goodIn_r _ [6, 1, 12, 13, 14, 15, 16, 17, 18, 19, 20, 21, 22, 23, 24, 25, 26, 27, 28, 29, 30, 31, 32, 33, 34, 35, 36, 37, 38, 39, 40, 41] (by decide +kernel) (by decide +kernel)
set_option maxRecDepth 20000 in
theorem gX7_setReg_X7_hl : GoodIn wsX7_setReg (wsV RX7 64 RX7 yX7_hl wsX7_hl) := goodIn_app (goodIn_of _ (by decide +kernel)) ggX7_setReg_X7_hl
set_option maxRecDepth 20000 in
theorem ggX7_setReg_X7_set : GoodIn wsX7_setReg wsX7_set := goodIn_r _ [10, 11, 12, 13, 14, 15, 16, 17, 18, 19, 20, 21, 22, 23, 24, 25, 26, 27, 28, 29, 30, 31, 32, 33, 34, 35, 36, 37, 38, 39, 40, 41] (by decide +kernel) (by decide +kernel)
set_option maxRecDepth 20000 in
theorem gX7_setReg_X7_set : GoodIn wsX7_setReg (wsV RX7 43 RX7 yX7_set wsX7_set) := goodIn_app (goodIn_of _ (by decide +kernel)) ggX7_setReg_X7_set
theorem dX7_setReg_0 : decode cX7_setReg 0 = .ok (.iload_n 1, 1) := by decide +kernel
theorem dX7_setReg_1 : decode cX7_setReg 1 = .ok (.bipush 6, 2) := by decide +kernel
theorem dX7_setReg_3 : decode cX7_setReg 3 = .ok (.if_icmp .ne 15, 3) := by decide +kernel
theorem dX7_setReg_6 : decode cX7_setReg 6 = .ok (.aload_n 0, 1) := by decide +kernel
theorem dX7_setReg_7 : decode cX7_setReg 7 = .ok (.aload_n 0, 1) := by decide +kernel
theorem dX7_setReg_8 : decode cX7_setReg 8 = .ok (.invokevirtual 64, 3) := by decide +kernel
theorem dX7_setReg_11 : decode cX7_setReg 11 = .ok (.iload_n 2, 1) := by decide +kernel
theorem dX7_setReg_12 : decode cX7_setReg 12 = .ok (.invokevirtual 43, 3) := by decide +kernel
theorem dX7_setReg_15 : decode cX7_setReg 15 = .ok (.goto 14, 3) := by decide +kernel
theorem dX7_setReg_18 : decode cX7_setReg 18 = .ok (.aload_n 0, 1) := by decide +kernel
theorem dX7_setReg_19 : decode cX7_setReg 19 = .ok (.getfield 16, 3) := by decide +kernel
theorem dX7_setReg_22 : decode cX7_setReg 22 = .ok (.iload_n 1, 1) := by decide +kernel
theorem dX7_setReg_23 : decode cX7_setReg 23 = .ok (.iload_n 2, 1) := by decide +kernel
theorem dX7_setReg_24 : decode cX7_setReg 24 = .ok (.sipush 255, 3) := by decide +kernel
theorem dX7_setReg_27 : decode cX7_setReg 27 = .ok (.iand, 1) := by decide +kernel
theorem dX7_setReg_28 : decode cX7_setReg 28 = .ok (.iastore, 1) := by decide +kernel
theorem dX7_setReg_29 : decode cX7_setReg 29 = .ok (.return_, 1) := by decide +kernel
theorem dX7_flags_0 : decode cX7_flags 0 = .ok (.aload_n 0, 1) := by decide +kernel
theorem dX7_flags_1 : decode cX7_flags 1 = .ok (.getfield 67, 3) := by decide +kernel
theorem dX7_flags_4 : decode cX7_flags 4 = .ok (.ifCond .eq 9, 3) := by decide +kernel
theorem dX7_flags_7 : decode cX7_flags 7 = .ok (.sipush 128, 3) := by decide +kernel
theorem dX7_flags_10 : decode cX7_flags 10 = .ok (.goto 4, 3) := by decide +kernel
theorem dX7_flags_13 : decode cX7_flags 13 = .ok (.iconst 0, 1) := by decide +kernel
theorem dX7_flags_14 : decode cX7_flags 14 = .ok (.aload_n 0, 1) := by decide +kernel
theorem dX7_flags_15 : decode cX7_flags 15 = .ok (.getfield 71, 3) := by decide +kernel
theorem dX7_flags_18 : decode cX7_flags 18 = .ok (.ifCond .eq 8, 3) := by decide +kernel
theorem dX7_flags_21 : decode cX7_flags 21 = .ok (.bipush 64, 2) := by decide +kernel
theorem dX7_flags_23 : decode cX7_flags 23 = .ok (.goto 4, 3) := by decide +kernel
theorem dX7_flags_26 : decode cX7_flags 26 = .ok (.iconst 0, 1) := by decide +kernel
theorem dX7_flags_27 : decode cX7_flags 27 = .ok (.ior, 1) := by decide +kernel
theorem dX7_flags_28 : decode cX7_flags 28 = .ok (.aload_n 0, 1) := by decide +kernel
theorem dX7_flags_29 : decode cX7_flags 29 = .ok (.getfield 74, 3) := by decide +kernel
theorem dX7_flags_32 : decode cX7_flags 32 = .ok (.ifCond .eq 8, 3) := by decide +kernel
theorem dX7_flags_35 : decode cX7_flags 35 = .ok (.bipush 16, 2) := by decide +kernel
theorem dX7_flags_37 : decode cX7_flags 37 = .ok (.goto 4, 3) := by decide +kernel
theorem dX7_flags_40 : decode cX7_flags 40 = .ok (.iconst 0, 1) := by decide +kernel
theorem dX7_flags_41 : decode cX7_flags 41 = .ok (.ior, 1) := by decide +kernel
theorem dX7_flags_42 : decode cX7_flags 42 = .ok (.aload_n 0, 1) := by decide +kernel
theorem dX7_flags_43 : decode cX7_flags 43 = .ok (.getfield 77, 3) := by decide +kernel
theorem dX7_flags_46 : decode cX7_flags 46 = .ok (.ifCond .eq 7, 3) := by decide +kernel
theorem dX7_flags_49 : decode cX7_flags 49 = .ok (.iconst 4, 1) := by decide +kernel
theorem dX7_flags_50 : decode cX7_flags 50 = .ok (.goto 4, 3) := by decide +kernel
theorem dX7_flags_53 : decode cX7_flags 53 = .ok (.iconst 0, 1) := by decide +kernel
theorem dX7_flags_54 : decode cX7_flags 54 = .ok (.ior, 1) := by decide +kernel
theorem dX7_flags_55 : decode cX7_flags 55 = .ok (.iconst 2, 1) := by decide +kernel
theorem dX7_flags_56 : decode cX7_flags 56 = .ok (.ior, 1) := by decide +kernel
theorem dX7_flags_57 : decode cX7_flags 57 = .ok (.aload_n 0, 1) := by decide +kernel
theorem dX7_flags_58 : decode cX7_flags 58 = .ok (.getfield 80, 3) := by decide +kernel
theorem dX7_flags_61 : decode cX7_flags 61 = .ok (.ifCond .eq 7, 3) := by decide +kernel
theorem dX7_flags_64 : decode cX7_flags 64 = .ok (.iconst 1, 1) := by decide +kernel
theorem dX7_flags_65 : decode cX7_flags 65 = .ok (.goto 4, 3) := by decide +kernel
theorem dX7_flags_68 : decode cX7_flags 68 = .ok (.iconst 0, 1) := by decide +kernel
theorem dX7_flags_69 : decode cX7_flags 69 = .ok (.ior, 1) := by decide +kernel
theorem dX7_flags_70 : decode cX7_flags 70 = .ok (.ireturn, 1) := by decide +kernel
theorem dX7_setFlags_0 : decode cX7_setFlags 0 = .ok (.aload_n 0, 1) := by decide +kernel
theorem dX7_setFlags_1 : decode cX7_setFlags 1 = .ok (.iload_n 1, 1) := by decide +kernel
theorem dX7_setFlags_2 : decode cX7_setFlags 2 = .ok (.sipush 128, 3) := by decide +kernel
theorem dX7_setFlags_5 : decode cX7_setFlags 5 = .ok (.iand, 1) := by decide +kernel
theorem dX7_setFlags_6 : decode cX7_setFlags 6 = .ok (.ifCond .eq 7, 3) := by decide +kernel
theorem dX7_setFlags_9 : decode cX7_setFlags 9 = .ok (.iconst 1, 1) := by decide +kernel
theorem dX7_setFlags_10 : decode cX7_setFlags 10 = .ok (.goto 4, 3) := by decide +kernel
theorem dX7_setFlags_13 : decode cX7_setFlags 13 = .ok (.iconst 0, 1) := by decide +kernel
theorem dX7_setFlags_14 : decode cX7_setFlags 14 = .ok (.putfield 67, 3) := by decide +kernel
theorem dX7_setFlags_17 : decode cX7_setFlags 17 = .ok (.aload_n 0, 1) := by decide +kernel
theorem dX7_setFlags_18 : decode cX7_setFlags 18 = .ok (.iload_n 1, 1) := by decide +kernel
theorem dX7_setFlags_19 : decode cX7_setFlags 19 = .ok (.bipush 64, 2) := by decide +kernel
theorem dX7_setFlags_21 : decode cX7_setFlags 21 = .ok (.iand, 1) := by decide +kernel
theorem dX7_setFlags_22 : decode cX7_setFlags 22 = .ok (.ifCond .eq 7, 3) := by decide +kernel
theorem dX7_setFlags_25 : decode cX7_setFlags 25 = .ok (.iconst 1, 1) := by decide +kernel
theorem dX7_setFlags_26 : decode cX7_setFlags 26 = .ok (.goto 4, 3) := by decide +kernel
theorem dX7_setFlags_29 : decode cX7_setFlags 29 = .ok (.iconst 0, 1) := by decide +kernel
theorem dX7_setFlags_30 : decode cX7_setFlags 30 = .ok (.putfield 71, 3) := by decide +kernel
theorem dX7_setFlags_33 : decode cX7_setFlags 33 = .ok (.aload_n 0, 1) := by decide +kernel
theorem dX7_setFlags_34 : decode cX7_setFlags 34 = .ok (.iload_n 1, 1) := by decide +kernel
theorem dX7_setFlags_35 : decode cX7_setFlags 35 = .ok (.bipush 16, 2) := by decide +kernel
theorem dX7_setFlags_37 : decode cX7_setFlags 37 = .ok (.iand, 1) := by decide +kernel
theorem dX7_setFlags_38 : decode cX7_setFlags 38 = .ok (.ifCond .eq 7, 3) := by decide +kernel
theorem dX7_setFlags_41 : decode cX7_setFlags 41 = .ok (.iconst 1, 1) := by decide +kernel
theorem dX7_setFlags_42 : decode cX7_setFlags 42 = .ok (.goto 4, 3) := by decide +kernel
theorem dX7_setFlags_45 : decode cX7_setFlags 45 = .ok (.iconst 0, 1) := by decide +kernel
theorem dX7_setFlags_46 : decode cX7_setFlags 46 = .ok (.putfield 74, 3) := by decide +kernel
theorem dX7_setFlags_49 : decode cX7_setFlags 49 = .ok (.aload_n 0, 1) := by decide +kernel
theorem dX7_setFlags_50 : decode cX7_setFlags 50 = .ok (.iload_n 1, 1) := by decide +kernel
theorem dX7_setFlags_51 : decode cX7_setFlags 51 = .ok (.iconst 4, 1) := by decide +kernel
theorem dX7_setFlags_52 : decode cX7_setFlags 52 = .ok (.iand, 1) := by decide +kernel
theorem dX7_setFlags_53 : decode cX7_setFlags 53 = .ok (.ifCond .eq 7, 3) := by decide +kernel
theorem dX7_setFlags_56 : decode cX7_setFlags 56 = .ok (.iconst 1, 1) := by decide +kernel
theorem dX7_setFlags_57 : decode cX7_setFlags 57 = .ok (.goto 4, 3) := by decide +kernel
theorem dX7_setFlags_60 : decode cX7_setFlags 60 = .ok (.iconst 0, 1) := by decide +kernel
theorem dX7_setFlags_61 : decode cX7_setFlags 61 = .ok (.putfield 77, 3) := by decide +kernel
theorem dX7_setFlags_64 : decode cX7_setFlags 64 = .ok (.aload_n 0, 1) := by decide +kernel
theorem dX7_setFlags_65 : decode cX7_setFlags 65 = .ok (.iload_n 1, 1) := by decide +kernel
theorem dX7_setFlags_66 : decode cX7_setFlags 66 = .ok (.iconst 1, 1) := by decide +kernel
theorem dX7_setFlags_67 : decode cX7_setFlags 67 = .ok (.iand, 1) := by decide +kernel
theorem dX7_setFlags_68 : decode cX7_setFlags 68 = .ok (.ifCond .eq 7, 3) := by decide +kernel
theorem dX7_setFlags_71 : decode cX7_setFlags 71 = .ok (.iconst 1, 1) := by decide +kernel
theorem dX7_setFlags_72 : decode cX7_setFlags 72 = .ok (.goto 4, 3) := by decide +kernel
theorem dX7_setFlags_75 : decode cX7_setFlags 75 = .ok (.iconst 0, 1) := by decide +kernel
theorem dX7_setFlags_76 : decode cX7_setFlags 76 = .ok (.putfield 80, 3) := by decide +kernel
theorem dX7_setFlags_79 : decode cX7_setFlags 79 = .ok (.return_, 1) := by decide +kernel
set_option maxRecDepth 20000 in
theorem ggX7_register_X7_flags : GoodIn wsX7_register wsX7_flags := goodIn_r _ [9, 10, 11, 12, 13, 14, 15, 16, 17, 18, 19, 20, 21, 22, 23, 24, 25, 26, 27, 28, 29, 30, 31, 32, 33, 34, 35, 36, 37, 38, 39, 40, 41, 42, 43, 44] (by decide +kernel) (by decide +kernel)
set_option maxRecDepth 20000 in
theorem gX7_register_X7_flags : GoodIn wsX7_register (wsV RX7 83 RX7 yX7_flags wsX7_flags) := goodIn_app (goodIn_of _ (by decide +kernel)) ggX7_register_X7_flags
theorem dX7_register_0 : decode cX7_register 0 = .ok (.aload_n 0, 1) := by decide +kernel
theorem dX7_register_1 : decode cX7_register 1 = .ok (.iload_n 1, 1) := by decide +kernel
theorem dX7_register_2 : decode cX7_register 2 = .ok (.ifCond .lt 9, 3) := by decide +kernel
theorem dX7_register_5 : decode cX7_register 5 = .ok (.iload_n 1, 1) := by decide +kernel
theorem dX7_register_6 : decode cX7_register 6 = .ok (.bipush 9, 2) := by decide +kernel
theorem dX7_register_8 : decode cX7_register 8 = .ok (.if_icmp .le 7, 3) := by decide +kernel
theorem dX7_register_11 : decode cX7_register 11 = .ok (.iconst 1, 1) := by decide +kernel
theorem dX7_register_12 : decode cX7_register 12 = .ok (.goto 4, 3) := by decide +kernel
theorem dX7_register_15 : decode cX7_register 15 = .ok (.iconst 0, 1) := by decide +kernel
theorem dX7_register_16 : decode cX7_register 16 = .ok (.putfield 29, 3) := by decide +kernel
theorem dX7_register_19 : decode cX7_register 19 = .ok (.aload_n 0, 1) := by decide +kernel
theorem dX7_register_20 : decode cX7_register 20 = .ok (.getfield 29, 3) := by decide +kernel
theorem dX7_register_23 : decode cX7_register 23 = .ok (.ifCond .le 5, 3) := by decide +kernel
theorem dX7_register_26 : decode cX7_register 26 = .ok (.iconst 0, 1) := by decide +kernel
theorem dX7_register_27 : decode cX7_register 27 = .ok (.ireturn, 1) := by decide +kernel
theorem dX7_register_28 : decode cX7_register 28 = .ok (.iload_n 1, 1) := by decide +kernel
theorem dX7_register_29 : decode cX7_register 29 = .ok (.bipush 6, 2) := by decide +kernel
theorem dX7_register_31 : decode cX7_register 31 = .ok (.if_icmp .ne 10, 3) := by decide +kernel
theorem dX7_register_34 : decode cX7_register 34 = .ok (.aload_n 0, 1) := by decide +kernel
theorem dX7_register_35 : decode cX7_register 35 = .ok (.invokevirtual 83, 3) := by decide +kernel
theorem dX7_register_38 : decode cX7_register 38 = .ok (.goto 35, 3) := by decide +kernel
end
section
theorem dX7_register_41 : decode cX7_register 41 = .ok (.iload_n 1, 1) := by decide +kernel
theorem dX7_register_42 : decode cX7_register 42 = .ok (.bipush 8, 2) := by decide +kernel
theorem dX7_register_44 : decode cX7_register 44 = .ok (.if_icmp .ne 10, 3) := by decide +kernel
theorem dX7_register_47 : decode cX7_register 47 = .ok (.aload_n 0, 1) := by decide +kernel
theorem dX7_register_48 : decode cX7_register 48 = .ok (.getfield 47, 3) := by decide +kernel
theorem dX7_register_51 : decode cX7_register 51 = .ok (.goto 22, 3) := by decide +kernel
theorem dX7_register_54 : decode cX7_register 54 = .ok (.iload_n 1, 1) := by decide +kernel
theorem dX7_register_55 : decode cX7_register 55 = .ok (.bipush 9, 2) := by decide +kernel
theorem dX7_register_57 : decode cX7_register 57 = .ok (.if_icmp .ne 10, 3) := by decide +kernel
theorem dX7_register_60 : decode cX7_register 60 = .ok (.aload_n 0, 1) := by decide +kernel
theorem dX7_register_61 : decode cX7_register 61 = .ok (.getfield 55, 3) := by decide +kernel
theorem dX7_register_64 : decode cX7_register 64 = .ok (.goto 9, 3) := by decide +kernel
theorem dX7_register_67 : decode cX7_register 67 = .ok (.aload_n 0, 1) := by decide +kernel
theorem dX7_register_68 : decode cX7_register 68 = .ok (.getfield 16, 3) := by decide +kernel
theorem dX7_register_71 : decode cX7_register 71 = .ok (.iload_n 1, 1) := by decide +kernel
theorem dX7_register_72 : decode cX7_register 72 = .ok (.iaload, 1) := by decide +kernel
theorem dX7_register_73 : decode cX7_register 73 = .ok (.ireturn, 1) := by decide +kernel
set_option maxRecDepth 20000 in
theorem ggX7_put_X7_setFlags : GoodIn wsX7_put wsX7_setFlags := goodIn_r _ [10, 11, 12, 13, 14, 15, 16, 17, 18, 19, 20, 21, 22, 23, 24, 25, 26, 27, 28, 29, 30, 31, 32, 33, 34, 35, 36, 37, 38, 39, 40, 41, 42, 43, 44, 45] (by decide +kernel) (by decide +kernel)
set_option maxRecDepth 20000 in
theorem gX7_put_X7_setFlags : GoodIn wsX7_put (wsV RX7 86 RX7 yX7_setFlags wsX7_setFlags) := goodIn_app (goodIn_of _ (by decide +kernel)) ggX7_put_X7_setFlags
theorem dX7_put_0 : decode cX7_put 0 = .ok (.aload_n 0, 1) := by decide +kernel
theorem dX7_put_1 : decode cX7_put 1 = .ok (.iload_n 1, 1) := by decide +kernel
theorem dX7_put_2 : decode cX7_put 2 = .ok (.ifCond .lt 9, 3) := by decide +kernel
theorem dX7_put_5 : decode cX7_put 5 = .ok (.iload_n 1, 1) := by decide +kernel
theorem dX7_put_6 : decode cX7_put 6 = .ok (.bipush 9, 2) := by decide +kernel
theorem dX7_put_8 : decode cX7_put 8 = .ok (.if_icmp .le 7, 3) := by decide +kernel
theorem dX7_put_11 : decode cX7_put 11 = .ok (.iconst 1, 1) := by decide +kernel
theorem dX7_put_12 : decode cX7_put 12 = .ok (.goto 4, 3) := by decide +kernel
theorem dX7_put_15 : decode cX7_put 15 = .ok (.iconst 0, 1) := by decide +kernel
theorem dX7_put_16 : decode cX7_put 16 = .ok (.putfield 29, 3) := by decide +kernel
theorem dX7_put_19 : decode cX7_put 19 = .ok (.aload_n 0, 1) := by decide +kernel
theorem dX7_put_20 : decode cX7_put 20 = .ok (.getfield 29, 3) := by decide +kernel
theorem dX7_put_23 : decode cX7_put 23 = .ok (.ifCond .le 4, 3) := by decide +kernel
theorem dX7_put_26 : decode cX7_put 26 = .ok (.return_, 1) := by decide +kernel
theorem dX7_put_27 : decode cX7_put 27 = .ok (.iload_n 1, 1) := by decide +kernel
theorem dX7_put_28 : decode cX7_put 28 = .ok (.bipush 6, 2) := by decide +kernel
theorem dX7_put_30 : decode cX7_put 30 = .ok (.if_icmp .ne 11, 3) := by decide +kernel
theorem dX7_put_33 : decode cX7_put 33 = .ok (.aload_n 0, 1) := by decide +kernel
theorem dX7_put_34 : decode cX7_put 34 = .ok (.iload_n 2, 1) := by decide +kernel
theorem dX7_put_35 : decode cX7_put 35 = .ok (.invokevirtual 86, 3) := by decide +kernel
theorem dX7_put_38 : decode cX7_put 38 = .ok (.goto 48, 3) := by decide +kernel
theorem dX7_put_41 : decode cX7_put 41 = .ok (.iload_n 1, 1) := by decide +kernel
theorem dX7_put_42 : decode cX7_put 42 = .ok (.bipush 8, 2) := by decide +kernel
theorem dX7_put_44 : decode cX7_put 44 = .ok (.if_icmp .ne 14, 3) := by decide +kernel
theorem dX7_put_47 : decode cX7_put 47 = .ok (.aload_n 0, 1) := by decide +kernel
theorem dX7_put_48 : decode cX7_put 48 = .ok (.iload_n 2, 1) := by decide +kernel
theorem dX7_put_49 : decode cX7_put 49 = .ok (.ldc 50, 2) := by decide +kernel
theorem dX7_put_51 : decode cX7_put 51 = .ok (.iand, 1) := by decide +kernel
theorem dX7_put_52 : decode cX7_put 52 = .ok (.putfield 47, 3) := by decide +kernel
theorem dX7_put_55 : decode cX7_put 55 = .ok (.goto 31, 3) := by decide +kernel
theorem dX7_put_58 : decode cX7_put 58 = .ok (.iload_n 1, 1) := by decide +kernel
theorem dX7_put_59 : decode cX7_put 59 = .ok (.bipush 9, 2) := by decide +kernel
theorem dX7_put_61 : decode cX7_put 61 = .ok (.if_icmp .ne 14, 3) := by decide +kernel
theorem dX7_put_64 : decode cX7_put 64 = .ok (.aload_n 0, 1) := by decide +kernel
theorem dX7_put_65 : decode cX7_put 65 = .ok (.iload_n 2, 1) := by decide +kernel
theorem dX7_put_66 : decode cX7_put 66 = .ok (.ldc 50, 2) := by decide +kernel
theorem dX7_put_68 : decode cX7_put 68 = .ok (.iand, 1) := by decide +kernel
theorem dX7_put_69 : decode cX7_put 69 = .ok (.putfield 55, 3) := by decide +kernel
theorem dX7_put_72 : decode cX7_put 72 = .ok (.goto 14, 3) := by decide +kernel
theorem dX7_put_75 : decode cX7_put 75 = .ok (.aload_n 0, 1) := by decide +kernel
theorem dX7_put_76 : decode cX7_put 76 = .ok (.getfield 16, 3) := by decide +kernel
theorem dX7_put_79 : decode cX7_put 79 = .ok (.iload_n 1, 1) := by decide +kernel
theorem dX7_put_80 : decode cX7_put 80 = .ok (.iload_n 2, 1) := by decide +kernel
theorem dX7_put_81 : decode cX7_put 81 = .ok (.sipush 255, 3) := by decide +kernel
theorem dX7_put_84 : decode cX7_put 84 = .ok (.iand, 1) := by decide +kernel
theorem dX7_put_85 : decode cX7_put 85 = .ok (.iastore, 1) := by decide +kernel
theorem dX7_put_86 : decode cX7_put 86 = .ok (.return_, 1) := by decide +kernel
theorem dX7_logic_0 : decode cX7_logic 0 = .ok (.iconst 0, 1) := by decide +kernel
theorem dX7_logic_1 : decode cX7_logic 1 = .ok (.istore_n 2, 1) := by decide +kernel
theorem dX7_logic_2 : decode cX7_logic 2 = .ok (.iconst 0, 1) := by decide +kernel
theorem dX7_logic_3 : decode cX7_logic 3 = .ok (.istore_n 3, 1) := by decide +kernel
theorem dX7_logic_4 : decode cX7_logic 4 = .ok (.iload_n 3, 1) := by decide +kernel
theorem dX7_logic_5 : decode cX7_logic 5 = .ok (.bipush 8, 2) := by decide +kernel
theorem dX7_logic_7 : decode cX7_logic 7 = .ok (.if_icmp .ge 17, 3) := by decide +kernel
theorem dX7_logic_10 : decode cX7_logic 10 = .ok (.iload_n 2, 1) := by decide +kernel
theorem dX7_logic_11 : decode cX7_logic 11 = .ok (.iload_n 1, 1) := by decide +kernel
theorem dX7_logic_12 : decode cX7_logic 12 = .ok (.iload_n 3, 1) := by decide +kernel
theorem dX7_logic_13 : decode cX7_logic 13 = .ok (.ishr, 1) := by decide +kernel
theorem dX7_logic_14 : decode cX7_logic 14 = .ok (.iconst 1, 1) := by decide +kernel
theorem dX7_logic_15 : decode cX7_logic 15 = .ok (.iand, 1) := by decide +kernel
theorem dX7_logic_16 : decode cX7_logic 16 = .ok (.iadd, 1) := by decide +kernel
theorem dX7_logic_17 : decode cX7_logic 17 = .ok (.istore_n 2, 1) := by decide +kernel
theorem dX7_logic_18 : decode cX7_logic 18 = .ok (.iinc 3 1, 3) := by decide +kernel
theorem dX7_logic_21 : decode cX7_logic 21 = .ok (.goto (-17), 3) := by decide +kernel
theorem dX7_logic_24 : decode cX7_logic 24 = .ok (.aload_n 0, 1) := by decide +kernel
theorem dX7_logic_25 : decode cX7_logic 25 = .ok (.iload_n 1, 1) := by decide +kernel
theorem dX7_logic_26 : decode cX7_logic 26 = .ok (.bipush 127, 2) := by decide +kernel
theorem dX7_logic_28 : decode cX7_logic 28 = .ok (.if_icmp .le 7, 3) := by decide +kernel
theorem dX7_logic_31 : decode cX7_logic 31 = .ok (.iconst 1, 1) := by decide +kernel
theorem dX7_logic_32 : decode cX7_logic 32 = .ok (.goto 4, 3) := by decide +kernel
theorem dX7_logic_35 : decode cX7_logic 35 = .ok (.iconst 0, 1) := by decide +kernel
theorem dX7_logic_36 : decode cX7_logic 36 = .ok (.putfield 67, 3) := by decide +kernel
theorem dX7_logic_39 : decode cX7_logic 39 = .ok (.aload_n 0, 1) := by decide +kernel
theorem dX7_logic_40 : decode cX7_logic 40 = .ok (.iload_n 1, 1) := by decide +kernel
theorem dX7_logic_41 : decode cX7_logic 41 = .ok (.ifCond .ne 7, 3) := by decide +kernel
theorem dX7_logic_44 : decode cX7_logic 44 = .ok (.iconst 1, 1) := by decide +kernel
theorem dX7_logic_45 : decode cX7_logic 45 = .ok (.goto 4, 3) := by decide +kernel
theorem dX7_logic_48 : decode cX7_logic 48 = .ok (.iconst 0, 1) := by decide +kernel
theorem dX7_logic_49 : decode cX7_logic 49 = .ok (.putfield 71, 3) := by decide +kernel
theorem dX7_logic_52 : decode cX7_logic 52 = .ok (.aload_n 0, 1) := by decide +kernel
theorem dX7_logic_53 : decode cX7_logic 53 = .ok (.iload_n 2, 1) := by decide +kernel
theorem dX7_logic_54 : decode cX7_logic 54 = .ok (.iconst 2, 1) := by decide +kernel
theorem dX7_logic_55 : decode cX7_logic 55 = .ok (.irem, 1) := by decide +kernel
theorem dX7_logic_56 : decode cX7_logic 56 = .ok (.ifCond .ne 7, 3) := by decide +kernel
theorem dX7_logic_59 : decode cX7_logic 59 = .ok (.iconst 1, 1) := by decide +kernel
theorem dX7_logic_60 : decode cX7_logic 60 = .ok (.goto 4, 3) := by decide +kernel
theorem dX7_logic_63 : decode cX7_logic 63 = .ok (.iconst 0, 1) := by decide +kernel
theorem dX7_logic_64 : decode cX7_logic 64 = .ok (.putfield 77, 3) := by decide +kernel
theorem dX7_logic_67 : decode cX7_logic 67 = .ok (.return_, 1) := by decide +kernel
theorem dX7_holds_0 : decode cX7_holds 0 = .ok (.iload_n 1, 1) := by decide +kernel
theorem dX7_holds_1 : decode cX7_holds 1 = .ok (.iconst 2, 1) := by decide +kernel
theorem dX7_holds_2 : decode cX7_holds 2 = .ok (.if_icmp .ge 10, 3) := by decide +kernel
theorem dX7_holds_5 : decode cX7_holds 5 = .ok (.aload_n 0, 1) := by decide +kernel
theorem dX7_holds_6 : decode cX7_holds 6 = .ok (.getfield 71, 3) := by decide +kernel
theorem dX7_holds_9 : decode cX7_holds 9 = .ok (.goto 32, 3) := by decide +kernel
theorem dX7_holds_12 : decode cX7_holds 12 = .ok (.iload_n 1, 1) := by decide +kernel
theorem dX7_holds_13 : decode cX7_holds 13 = .ok (.iconst 4, 1) := by decide +kernel
theorem dX7_holds_14 : decode cX7_holds 14 = .ok (.if_icmp .ge 10, 3) := by decide +kernel
theorem dX7_holds_17 : decode cX7_holds 17 = .ok (.aload_n 0, 1) := by decide +kernel
theorem dX7_holds_18 : decode cX7_holds 18 = .ok (.getfield 80, 3) := by decide +kernel
theorem dX7_holds_21 : decode cX7_holds 21 = .ok (.goto 20, 3) := by decide +kernel
theorem dX7_holds_24 : decode cX7_holds 24 = .ok (.iload_n 1, 1) := by decide +kernel
theorem dX7_holds_25 : decode cX7_holds 25 = .ok (.bipush 6, 2) := by decide +kernel
theorem dX7_holds_27 : decode cX7_holds 27 = .ok (.if_icmp .ge 10, 3) := by decide +kernel
theorem dX7_holds_30 : decode cX7_holds 30 = .ok (.aload_n 0, 1) := by decide +kernel
theorem dX7_holds_31 : decode cX7_holds 31 = .ok (.getfield 77, 3) := by decide +kernel
theorem dX7_holds_34 : decode cX7_holds 34 = .ok (.goto 7, 3) := by decide +kernel
theorem dX7_holds_37 : decode cX7_holds 37 = .ok (.aload_n 0, 1) := by decide +kernel
theorem dX7_holds_38 : decode cX7_holds 38 = .ok (.getfield 67, 3) := by decide +kernel
theorem dX7_holds_41 : decode cX7_holds 41 = .ok (.istore_n 2, 1) := by decide +kernel
theorem dX7_holds_42 : decode cX7_holds 42 = .ok (.iload_n 2, 1) := by decide +kernel
theorem dX7_holds_43 : decode cX7_holds 43 = .ok (.iload_n 1, 1) := by decide +kernel
theorem dX7_holds_44 : decode cX7_holds 44 = .ok (.iconst 2, 1) := by decide +kernel
theorem dX7_holds_45 : decode cX7_holds 45 = .ok (.irem, 1) := by decide +kernel
theorem dX7_holds_46 : decode cX7_holds 46 = .ok (.iconst 1, 1) := by decide +kernel
theorem dX7_holds_47 : decode cX7_holds 47 = .ok (.if_icmp .ne 7, 3) := by decide +kernel
theorem dX7_holds_50 : decode cX7_holds 50 = .ok (.iconst 1, 1) := by decide +kernel
theorem dX7_holds_51 : decode cX7_holds 51 = .ok (.goto 4, 3) := by decide +kernel
theorem dX7_holds_54 : decode cX7_holds 54 = .ok (.iconst 0, 1) := by decide +kernel
theorem dX7_holds_55 : decode cX7_holds 55 = .ok (.if_icmp .ne 7, 3) := by decide +kernel
theorem dX7_holds_58 : decode cX7_holds 58 = .ok (.iconst 1, 1) := by decide +kernel
theorem dX7_holds_59 : decode cX7_holds 59 = .ok (.goto 4, 3) := by decide +kernel
theorem dX7_holds_62 : decode cX7_holds 62 = .ok (.iconst 0, 1) := by decide +kernel
theorem dX7_holds_63 : decode cX7_holds 63 = .ok (.ireturn, 1) := by decide +kernel
set_option maxRecDepth 20000 in
theorem ggX7_sum__X7_logic : GoodIn wsX7_sum_ wsX7_logic := goodIn_r _ [8, 9, 10, 11, 12, 13, 14, 15, 16, 17, 18, 19, 20, 21, 22, 23, 24, 25, 26, 27, 28, 29, 30, 31, 32, 33, 34, 35, 36, 37, 38, 39, 40, 41] (by decide +kernel) (by decide +kernel)
set_option maxRecDepth 20000 in
theorem gX7_sum__X7_logic : GoodIn wsX7_sum_ (wsV RX7 90 RX7 yX7_logic wsX7_logic) := goodIn_app (goodIn_of _ (by decide +kernel)) ggX7_sum__X7_logic
theorem dX7_sum__0 : decode cX7_sum_ 0 = .ok (.aload_n 0, 1) := by decide +kernel
theorem dX7_sum__1 : decode cX7_sum_ 1 = .ok (.getfield 16, 3) := by decide +kernel
theorem dX7_sum__4 : decode cX7_sum_ 4 = .ok (.bipush 7, 2) := by decide +kernel
theorem dX7_sum__6 : decode cX7_sum_ 6 = .ok (.iaload, 1) := by decide +kernel
theorem dX7_sum__7 : decode cX7_sum_ 7 = .ok (.iload_n 1, 1) := by decide +kernel
theorem dX7_sum__8 : decode cX7_sum_ 8 = .ok (.iadd, 1) := by decide +kernel
theorem dX7_sum__9 : decode cX7_sum_ 9 = .ok (.iload_n 2, 1) := by decide +kernel
theorem dX7_sum__10 : decode cX7_sum_ 10 = .ok (.iadd, 1) := by decide +kernel
theorem dX7_sum__11 : decode cX7_sum_ 11 = .ok (.istore_n 3, 1) := by decide +kernel
theorem dX7_sum__12 : decode cX7_sum_ 12 = .ok (.aload_n 0, 1) := by decide +kernel
theorem dX7_sum__13 : decode cX7_sum_ 13 = .ok (.aload_n 0, 1) := by decide +kernel
theorem dX7_sum__14 : decode cX7_sum_ 14 = .ok (.getfield 16, 3) := by decide +kernel
theorem dX7_sum__17 : decode cX7_sum_ 17 = .ok (.bipush 7, 2) := by decide +kernel
theorem dX7_sum__19 : decode cX7_sum_ 19 = .ok (.iaload, 1) := by decide +kernel
theorem dX7_sum__20 : decode cX7_sum_ 20 = .ok (.bipush 15, 2) := by decide +kernel
theorem dX7_sum__22 : decode cX7_sum_ 22 = .ok (.iand, 1) := by decide +kernel
theorem dX7_sum__23 : decode cX7_sum_ 23 = .ok (.iload_n 1, 1) := by decide +kernel
theorem dX7_sum__24 : decode cX7_sum_ 24 = .ok (.bipush 15, 2) := by decide +kernel
theorem dX7_sum__26 : decode cX7_sum_ 26 = .ok (.iand, 1) := by decide +kernel
theorem dX7_sum__27 : decode cX7_sum_ 27 = .ok (.iadd, 1) := by decide +kernel
theorem dX7_sum__28 : decode cX7_sum_ 28 = .ok (.iload_n 2, 1) := by decide +kernel
theorem dX7_sum__29 : decode cX7_sum_ 29 = .ok (.iadd, 1) := by decide +kernel
theorem dX7_sum__30 : decode cX7_sum_ 30 = .ok (.bipush 15, 2) := by decide +kernel
theorem dX7_sum__32 : decode cX7_sum_ 32 = .ok (.if_icmp .le 7, 3) := by decide +kernel
theorem dX7_sum__35 : decode cX7_sum_ 35 = .ok (.iconst 1, 1) := by decide +kernel
theorem dX7_sum__36 : decode cX7_sum_ 36 = .ok (.goto 4, 3) := by decide +kernel
theorem dX7_sum__39 : decode cX7_sum_ 39 = .ok (.iconst 0, 1) := by decide +kernel
theorem dX7_sum__40 : decode cX7_sum_ 40 = .ok (.putfield 74, 3) := by decide +kernel
theorem dX7_sum__43 : decode cX7_sum_ 43 = .ok (.aload_n 0, 1) := by decide +kernel
theorem dX7_sum__44 : decode cX7_sum_ 44 = .ok (.iload_n 3, 1) := by decide +kernel
theorem dX7_sum__45 : decode cX7_sum_ 45 = .ok (.sipush 255, 3) := by decide +kernel
theorem dX7_sum__48 : decode cX7_sum_ 48 = .ok (.if_icmp .le 7, 3) := by decide +kernel
theorem dX7_sum__51 : decode cX7_sum_ 51 = .ok (.iconst 1, 1) := by decide +kernel
theorem dX7_sum__52 : decode cX7_sum_ 52 = .ok (.goto 4, 3) := by decide +kernel
theorem dX7_sum__55 : decode cX7_sum_ 55 = .ok (.iconst 0, 1) := by decide +kernel
theorem dX7_sum__56 : decode cX7_sum_ 56 = .ok (.putfield 80, 3) := by decide +kernel
theorem dX7_sum__59 : decode cX7_sum_ 59 = .ok (.aload_n 0, 1) := by decide +kernel
theorem dX7_sum__60 : decode cX7_sum_ 60 = .ok (.getfield 16, 3) := by decide +kernel
theorem dX7_sum__63 : decode cX7_sum_ 63 = .ok (.bipush 7, 2) := by decide +kernel
theorem dX7_sum__65 : decode cX7_sum_ 65 = .ok (.iload_n 3, 1) := by decide +kernel
theorem dX7_sum__66 : decode cX7_sum_ 66 = .ok (.sipush 255, 3) := by decide +kernel
theorem dX7_sum__69 : decode cX7_sum_ 69 = .ok (.iand, 1) := by decide +kernel
theorem dX7_sum__70 : decode cX7_sum_ 70 = .ok (.iastore, 1) := by decide +kernel
theorem dX7_sum__71 : decode cX7_sum_ 71 = .ok (.aload_n 0, 1) := by decide +kernel
theorem dX7_sum__72 : decode cX7_sum_ 72 = .ok (.aload_n 0, 1) := by decide +kernel
theorem dX7_sum__73 : decode cX7_sum_ 73 = .ok (.getfield 16, 3) := by decide +kernel
theorem dX7_sum__76 : decode cX7_sum_ 76 = .ok (.bipush 7, 2) := by decide +kernel
theorem dX7_sum__78 : decode cX7_sum_ 78 = .ok (.iaload, 1) := by decide +kernel
theorem dX7_sum__79 : decode cX7_sum_ 79 = .ok (.invokevirtual 90, 3) := by decide +kernel
theorem dX7_sum__82 : decode cX7_sum_ 82 = .ok (.return_, 1) := by decide +kernel
set_option maxRecDepth 20000 in
theorem ggX7_less_X7_logic : GoodIn wsX7_less wsX7_logic := goodIn_r _ [8, 9, 10, 11, 12, 13, 14, 15, 16, 17, 18, 19, 20, 21, 22, 23, 24, 25, 26, 27, 28, 29, 30, 31, 32, 33, 34, 35, 36, 37, 38, 39, 40, 41] (by decide +kernel) (by decide +kernel)
set_option maxRecDepth 20000 in
theorem gX7_less_X7_logic : GoodIn wsX7_less (wsV RX7 90 RX7 yX7_logic wsX7_logic) := goodIn_app (goodIn_of _ (by decide +kernel)) ggX7_less_X7_logic
theorem dX7_less_0 : decode cX7_less 0 = .ok (.aload_n 0, 1) := by decide +kernel
theorem dX7_less_1 : decode cX7_less 1 = .ok (.getfield 16, 3) := by decide +kernel
theorem dX7_less_4 : decode cX7_less 4 = .ok (.bipush 7, 2) := by decide +kernel
theorem dX7_less_6 : decode cX7_less 6 = .ok (.iaload, 1) := by decide +kernel
theorem dX7_less_7 : decode cX7_less 7 = .ok (.iload_n 1, 1) := by decide +kernel
theorem dX7_less_8 : decode cX7_less 8 = .ok (.isub, 1) := by decide +kernel
theorem dX7_less_9 : decode cX7_less 9 = .ok (.iload_n 2, 1) := by decide +kernel
theorem dX7_less_10 : decode cX7_less 10 = .ok (.isub, 1) := by decide +kernel
theorem dX7_less_11 : decode cX7_less 11 = .ok (.istore_n 3, 1) := by decide +kernel
theorem dX7_less_12 : decode cX7_less 12 = .ok (.aload_n 0, 1) := by decide +kernel
theorem dX7_less_13 : decode cX7_less 13 = .ok (.aload_n 0, 1) := by decide +kernel
theorem dX7_less_14 : decode cX7_less 14 = .ok (.getfield 16, 3) := by decide +kernel
theorem dX7_less_17 : decode cX7_less 17 = .ok (.bipush 7, 2) := by decide +kernel
theorem dX7_less_19 : decode cX7_less 19 = .ok (.iaload, 1) := by decide +kernel
theorem dX7_less_20 : decode cX7_less 20 = .ok (.bipush 15, 2) := by decide +kernel
theorem dX7_less_22 : decode cX7_less 22 = .ok (.iand, 1) := by decide +kernel
theorem dX7_less_23 : decode cX7_less 23 = .ok (.iload_n 1, 1) := by decide +kernel
theorem dX7_less_24 : decode cX7_less 24 = .ok (.bipush 15, 2) := by decide +kernel
theorem dX7_less_26 : decode cX7_less 26 = .ok (.iand, 1) := by decide +kernel
theorem dX7_less_27 : decode cX7_less 27 = .ok (.isub, 1) := by decide +kernel
theorem dX7_less_28 : decode cX7_less 28 = .ok (.iload_n 2, 1) := by decide +kernel
theorem dX7_less_29 : decode cX7_less 29 = .ok (.isub, 1) := by decide +kernel
theorem dX7_less_30 : decode cX7_less 30 = .ok (.ifCond .lt 7, 3) := by decide +kernel
theorem dX7_less_33 : decode cX7_less 33 = .ok (.iconst 1, 1) := by decide +kernel
theorem dX7_less_34 : decode cX7_less 34 = .ok (.goto 4, 3) := by decide +kernel
theorem dX7_less_37 : decode cX7_less 37 = .ok (.iconst 0, 1) := by decide +kernel
theorem dX7_less_38 : decode cX7_less 38 = .ok (.putfield 74, 3) := by decide +kernel
theorem dX7_less_41 : decode cX7_less 41 = .ok (.aload_n 0, 1) := by decide +kernel
theorem dX7_less_42 : decode cX7_less 42 = .ok (.iload_n 3, 1) := by decide +kernel
theorem dX7_less_43 : decode cX7_less 43 = .ok (.ifCond .ge 7, 3) := by decide +kernel
theorem dX7_less_46 : decode cX7_less 46 = .ok (.iconst 1, 1) := by decide +kernel
theorem dX7_less_47 : decode cX7_less 47 = .ok (.goto 4, 3) := by decide +kernel
theorem dX7_less_50 : decode cX7_less 50 = .ok (.iconst 0, 1) := by decide +kernel
theorem dX7_less_51 : decode cX7_less 51 = .ok (.putfield 80, 3) := by decide +kernel
theorem dX7_less_54 : decode cX7_less 54 = .ok (.aload_n 0, 1) := by decide +kernel
theorem dX7_less_55 : decode cX7_less 55 = .ok (.iload_n 3, 1) := by decide +kernel
theorem dX7_less_56 : decode cX7_less 56 = .ok (.sipush 255, 3) := by decide +kernel
theorem dX7_less_59 : decode cX7_less 59 = .ok (.iand, 1) := by decide +kernel
theorem dX7_less_60 : decode cX7_less 60 = .ok (.invokevirtual 90, 3) := by decide +kernel
theorem dX7_less_63 : decode cX7_less 63 = .ok (.iload_n 3, 1) := by decide +kernel
theorem dX7_less_64 : decode cX7_less 64 = .ok (.sipush 255, 3) := by decide +kernel
theorem dX7_less_67 : decode cX7_less 67 = .ok (.iand, 1) := by decide +kernel
theorem dX7_less_68 : decode cX7_less 68 = .ok (.ireturn, 1) := by decide +kernel
set_option maxRecDepth 20000 in
theorem ggX7_reckon_X7_sum_ : GoodIn wsX7_reckon wsX7_sum_ := goodIn_r _ [8, 1, 3, 2, 9, 10, 11, 7, 12, 13, 14, 15, 20, 21, 22, 23, 24, 25, 26, 27, 28, 29, 30, 31, 32, 33, 34, 35, 36, 37, 38, 39, 40, 41, 42, 43, 44, 45, 46, 47, 48, 49] (by decide +kernel) (by decide +kernel)
set_option maxRecDepth 20000 in
theorem gX7_reckon_X7_sum_ : GoodIn wsX7_reckon (wsV RX7 93 RX7 yX7_sum_ wsX7_sum_) := goodIn_app (goodIn_of _ (by decide +kernel)) ggX7_reckon_X7_sum_
set_option maxRecDepth 20000 in
theorem ggX7_reckon_X7_less : GoodIn wsX7_reckon wsX7_less := goodIn_r _ [19, 1, 3, 2, 9, 10, 11, 7, 12, 13, 14, 15, 20, 21, 22, 23, 24, 25, 26, 27, 28, 29, 30, 31, 32, 33, 34, 35, 36, 37, 38, 39, 40, 41, 42, 43, 44, 45, 46, 47, 48, 49] (by decide +kernel) (by decide +kernel)
set_option maxRecDepth 20000 in
theorem gX7_reckon_X7_less : GoodIn wsX7_reckon (wsV RX7 96 RX7 yX7_less wsX7_less) := goodIn_app (goodIn_of _ (by decide +kernel)) ggX7_reckon_X7_less
set_option maxRecDepth 20000 in
theorem ggX7_reckon_X7_logic : GoodIn wsX7_reckon wsX7_logic := goodIn_r _ [12, 13, 14, 15, 20, 21, 22, 23, 24, 25, 26, 27, 28, 29, 30, 31, 32, 33, 34, 35, 36, 37, 38, 39, 40, 41, 42, 43, 44, 45, 46, 47, 48, 49] (by decide +kernel) (by decide +kernel)
set_option maxRecDepth 20000 in
theorem gX7_reckon_X7_logic : GoodIn wsX7_reckon (wsV RX7 90 RX7 yX7_logic wsX7_logic) := goodIn_app (goodIn_of _ (by decide +kernel)) ggX7_reckon_X7_logic
theorem dX7_reckon_0 : decode cX7_reckon 0 = .ok (.aload_n 0, 1) := by decide +kernel
theorem dX7_reckon_1 : decode cX7_reckon 1 = .ok (.getfield 16, 3) := by decide +kernel
theorem dX7_reckon_4 : decode cX7_reckon 4 = .ok (.bipush 7, 2) := by decide +kernel
theorem dX7_reckon_6 : decode cX7_reckon 6 = .ok (.iaload, 1) := by decide +kernel
theorem dX7_reckon_7 : decode cX7_reckon 7 = .ok (.istore_n 3, 1) := by decide +kernel
theorem dX7_reckon_8 : decode cX7_reckon 8 = .ok (.aload_n 0, 1) := by decide +kernel
theorem dX7_reckon_9 : decode cX7_reckon 9 = .ok (.getfield 80, 3) := by decide +kernel
theorem dX7_reckon_12 : decode cX7_reckon 12 = .ok (.ifCond .eq 7, 3) := by decide +kernel
theorem dX7_reckon_15 : decode cX7_reckon 15 = .ok (.iconst 1, 1) := by decide +kernel
theorem dX7_reckon_16 : decode cX7_reckon 16 = .ok (.goto 4, 3) := by decide +kernel
theorem dX7_reckon_19 : decode cX7_reckon 19 = .ok (.iconst 0, 1) := by decide +kernel
theorem dX7_reckon_20 : decode cX7_reckon 20 = .ok (.istore 4, 2) := by decide +kernel
theorem dX7_reckon_22 : decode cX7_reckon 22 = .ok (.iload_n 1, 1) := by decide +kernel
theorem dX7_reckon_23 : decode cX7_reckon 23 = .ok (.tableswitch 108 0 7 #[45, 54, 64, 80, 108, 108, 108, 97], 45) := by decide +kernel
theorem dX7_reckon_68 : decode cX7_reckon 68 = .ok (.aload_n 0, 1) := by decide +kernel
theorem dX7_reckon_69 : decode cX7_reckon 69 = .ok (.iload_n 2, 1) := by decide +kernel
theorem dX7_reckon_70 : decode cX7_reckon 70 = .ok (.iconst 0, 1) := by decide +kernel
theorem dX7_reckon_71 : decode cX7_reckon 71 = .ok (.invokevirtual 93, 3) := by decide +kernel
theorem dX7_reckon_74 : decode cX7_reckon 74 = .ok (.goto 128, 3) := by decide +kernel
theorem dX7_reckon_77 : decode cX7_reckon 77 = .ok (.aload_n 0, 1) := by decide +kernel
theorem dX7_reckon_78 : decode cX7_reckon 78 = .ok (.iload_n 2, 1) := by decide +kernel
theorem dX7_reckon_79 : decode cX7_reckon 79 = .ok (.iload 4, 2) := by decide +kernel
theorem dX7_reckon_81 : decode cX7_reckon 81 = .ok (.invokevirtual 93, 3) := by decide +kernel
theorem dX7_reckon_84 : decode cX7_reckon 84 = .ok (.goto 118, 3) := by decide +kernel
theorem dX7_reckon_87 : decode cX7_reckon 87 = .ok (.aload_n 0, 1) := by decide +kernel
theorem dX7_reckon_88 : decode cX7_reckon 88 = .ok (.getfield 16, 3) := by decide +kernel
theorem dX7_reckon_91 : decode cX7_reckon 91 = .ok (.bipush 7, 2) := by decide +kernel
theorem dX7_reckon_93 : decode cX7_reckon 93 = .ok (.aload_n 0, 1) := by decide +kernel
theorem dX7_reckon_94 : decode cX7_reckon 94 = .ok (.iload_n 2, 1) := by decide +kernel
theorem dX7_reckon_95 : decode cX7_reckon 95 = .ok (.iconst 0, 1) := by decide +kernel
theorem dX7_reckon_96 : decode cX7_reckon 96 = .ok (.invokevirtual 96, 3) := by decide +kernel
theorem dX7_reckon_99 : decode cX7_reckon 99 = .ok (.iastore, 1) := by decide +kernel
theorem dX7_reckon_100 : decode cX7_reckon 100 = .ok (.goto 102, 3) := by decide +kernel
theorem dX7_reckon_103 : decode cX7_reckon 103 = .ok (.aload_n 0, 1) := by decide +kernel
theorem dX7_reckon_104 : decode cX7_reckon 104 = .ok (.getfield 16, 3) := by decide +kernel
theorem dX7_reckon_107 : decode cX7_reckon 107 = .ok (.bipush 7, 2) := by decide +kernel
theorem dX7_reckon_109 : decode cX7_reckon 109 = .ok (.aload_n 0, 1) := by decide +kernel
theorem dX7_reckon_110 : decode cX7_reckon 110 = .ok (.iload_n 2, 1) := by decide +kernel
theorem dX7_reckon_111 : decode cX7_reckon 111 = .ok (.iload 4, 2) := by decide +kernel
theorem dX7_reckon_113 : decode cX7_reckon 113 = .ok (.invokevirtual 96, 3) := by decide +kernel
theorem dX7_reckon_116 : decode cX7_reckon 116 = .ok (.iastore, 1) := by decide +kernel
theorem dX7_reckon_117 : decode cX7_reckon 117 = .ok (.goto 85, 3) := by decide +kernel
theorem dX7_reckon_120 : decode cX7_reckon 120 = .ok (.aload_n 0, 1) := by decide +kernel
theorem dX7_reckon_121 : decode cX7_reckon 121 = .ok (.iload_n 2, 1) := by decide +kernel
theorem dX7_reckon_122 : decode cX7_reckon 122 = .ok (.iconst 0, 1) := by decide +kernel
theorem dX7_reckon_123 : decode cX7_reckon 123 = .ok (.invokevirtual 96, 3) := by decide +kernel
theorem dX7_reckon_126 : decode cX7_reckon 126 = .ok (.istore 5, 2) := by decide +kernel
theorem dX7_reckon_128 : decode cX7_reckon 128 = .ok (.goto 74, 3) := by decide +kernel
theorem dX7_reckon_131 : decode cX7_reckon 131 = .ok (.aload_n 0, 1) := by decide +kernel
theorem dX7_reckon_132 : decode cX7_reckon 132 = .ok (.getfield 16, 3) := by decide +kernel
theorem dX7_reckon_135 : decode cX7_reckon 135 = .ok (.bipush 7, 2) := by decide +kernel
theorem dX7_reckon_137 : decode cX7_reckon 137 = .ok (.iload_n 1, 1) := by decide +kernel
theorem dX7_reckon_138 : decode cX7_reckon 138 = .ok (.iconst 4, 1) := by decide +kernel
theorem dX7_reckon_139 : decode cX7_reckon 139 = .ok (.if_icmp .ne 9, 3) := by decide +kernel
theorem dX7_reckon_142 : decode cX7_reckon 142 = .ok (.iload_n 3, 1) := by decide +kernel
theorem dX7_reckon_143 : decode cX7_reckon 143 = .ok (.iload_n 2, 1) := by decide +kernel
theorem dX7_reckon_144 : decode cX7_reckon 144 = .ok (.iand, 1) := by decide +kernel
theorem dX7_reckon_145 : decode cX7_reckon 145 = .ok (.goto 17, 3) := by decide +kernel
theorem dX7_reckon_148 : decode cX7_reckon 148 = .ok (.iload_n 1, 1) := by decide +kernel
theorem dX7_reckon_149 : decode cX7_reckon 149 = .ok (.iconst 5, 1) := by decide +kernel
theorem dX7_reckon_150 : decode cX7_reckon 150 = .ok (.if_icmp .ne 9, 3) := by decide +kernel
theorem dX7_reckon_153 : decode cX7_reckon 153 = .ok (.iload_n 3, 1) := by decide +kernel
theorem dX7_reckon_154 : decode cX7_reckon 154 = .ok (.iload_n 2, 1) := by decide +kernel
theorem dX7_reckon_155 : decode cX7_reckon 155 = .ok (.ixor, 1) := by decide +kernel
theorem dX7_reckon_156 : decode cX7_reckon 156 = .ok (.goto 6, 3) := by decide +kernel
theorem dX7_reckon_159 : decode cX7_reckon 159 = .ok (.iload_n 3, 1) := by decide +kernel
theorem dX7_reckon_160 : decode cX7_reckon 160 = .ok (.iload_n 2, 1) := by decide +kernel
theorem dX7_reckon_161 : decode cX7_reckon 161 = .ok (.ior, 1) := by decide +kernel
theorem dX7_reckon_162 : decode cX7_reckon 162 = .ok (.iastore, 1) := by decide +kernel
theorem dX7_reckon_163 : decode cX7_reckon 163 = .ok (.aload_n 0, 1) := by decide +kernel
theorem dX7_reckon_164 : decode cX7_reckon 164 = .ok (.iconst 0, 1) := by decide +kernel
theorem dX7_reckon_165 : decode cX7_reckon 165 = .ok (.putfield 80, 3) := by decide +kernel
theorem dX7_reckon_168 : decode cX7_reckon 168 = .ok (.aload_n 0, 1) := by decide +kernel
theorem dX7_reckon_169 : decode cX7_reckon 169 = .ok (.iload_n 1, 1) := by decide +kernel
theorem dX7_reckon_170 : decode cX7_reckon 170 = .ok (.iconst 4, 1) := by decide +kernel
theorem dX7_reckon_171 : decode cX7_reckon 171 = .ok (.if_icmp .ne 16, 3) := by decide +kernel
theorem dX7_reckon_174 : decode cX7_reckon 174 = .ok (.iload_n 3, 1) := by decide +kernel
theorem dX7_reckon_175 : decode cX7_reckon 175 = .ok (.iload_n 2, 1) := by decide +kernel
theorem dX7_reckon_176 : decode cX7_reckon 176 = .ok (.ior, 1) := by decide +kernel
theorem dX7_reckon_177 : decode cX7_reckon 177 = .ok (.bipush 8, 2) := by decide +kernel
theorem dX7_reckon_179 : decode cX7_reckon 179 = .ok (.iand, 1) := by decide +kernel
theorem dX7_reckon_180 : decode cX7_reckon 180 = .ok (.ifCond .eq 7, 3) := by decide +kernel
theorem dX7_reckon_183 : decode cX7_reckon 183 = .ok (.iconst 1, 1) := by decide +kernel
theorem dX7_reckon_184 : decode cX7_reckon 184 = .ok (.goto 4, 3) := by decide +kernel
theorem dX7_reckon_187 : decode cX7_reckon 187 = .ok (.iconst 0, 1) := by decide +kernel
theorem dX7_reckon_188 : decode cX7_reckon 188 = .ok (.putfield 74, 3) := by decide +kernel
theorem dX7_reckon_191 : decode cX7_reckon 191 = .ok (.aload_n 0, 1) := by decide +kernel
theorem dX7_reckon_192 : decode cX7_reckon 192 = .ok (.aload_n 0, 1) := by decide +kernel
theorem dX7_reckon_193 : decode cX7_reckon 193 = .ok (.getfield 16, 3) := by decide +kernel
theorem dX7_reckon_196 : decode cX7_reckon 196 = .ok (.bipush 7, 2) := by decide +kernel
theorem dX7_reckon_198 : decode cX7_reckon 198 = .ok (.iaload, 1) := by decide +kernel
theorem dX7_reckon_199 : decode cX7_reckon 199 = .ok (.invokevirtual 90, 3) := by decide +kernel
theorem dX7_reckon_202 : decode cX7_reckon 202 = .ok (.return_, 1) := by decide +kernel
set_option maxRecDepth 20000 in
theorem ggX7_adjust_X7_logic : GoodIn wsX7_adjust wsX7_logic := goodIn_r _ [8, 9, 10, 11, 12, 13, 14, 15, 16, 17, 18, 19, 20, 21, 22, 23, 24, 25, 26, 27, 28, 29, 30, 31, 32, 33, 34, 35, 36, 37, 38, 39, 40, 41] (by decide +kernel) (by decide +kernel)
set_option maxRecDepth 20000 in
theorem gX7_adjust_X7_logic : GoodIn wsX7_adjust (wsV RX7 90 RX7 yX7_logic wsX7_logic) := goodIn_app (goodIn_of _ (by decide +kernel)) ggX7_adjust_X7_logic
theorem dX7_adjust_0 : decode cX7_adjust 0 = .ok (.aload_n 0, 1) := by decide +kernel
theorem dX7_adjust_1 : decode cX7_adjust 1 = .ok (.getfield 16, 3) := by decide +kernel
theorem dX7_adjust_4 : decode cX7_adjust 4 = .ok (.bipush 7, 2) := by decide +kernel
theorem dX7_adjust_6 : decode cX7_adjust 6 = .ok (.iaload, 1) := by decide +kernel
theorem dX7_adjust_7 : decode cX7_adjust 7 = .ok (.bipush 15, 2) := by decide +kernel
theorem dX7_adjust_9 : decode cX7_adjust 9 = .ok (.iand, 1) := by decide +kernel
theorem dX7_adjust_10 : decode cX7_adjust 10 = .ok (.istore_n 1, 1) := by decide +kernel
theorem dX7_adjust_11 : decode cX7_adjust 11 = .ok (.aload_n 0, 1) := by decide +kernel
theorem dX7_adjust_12 : decode cX7_adjust 12 = .ok (.getfield 16, 3) := by decide +kernel
theorem dX7_adjust_15 : decode cX7_adjust 15 = .ok (.bipush 7, 2) := by decide +kernel
theorem dX7_adjust_17 : decode cX7_adjust 17 = .ok (.iaload, 1) := by decide +kernel
theorem dX7_adjust_18 : decode cX7_adjust 18 = .ok (.iconst 4, 1) := by decide +kernel
theorem dX7_adjust_19 : decode cX7_adjust 19 = .ok (.ishr, 1) := by decide +kernel
theorem dX7_adjust_20 : decode cX7_adjust 20 = .ok (.istore_n 2, 1) := by decide +kernel
theorem dX7_adjust_21 : decode cX7_adjust 21 = .ok (.iload_n 2, 1) := by decide +kernel
theorem dX7_adjust_22 : decode cX7_adjust 22 = .ok (.bipush 9, 2) := by decide +kernel
theorem dX7_adjust_24 : decode cX7_adjust 24 = .ok (.if_icmp .gt 22, 3) := by decide +kernel
theorem dX7_adjust_27 : decode cX7_adjust 27 = .ok (.aload_n 0, 1) := by decide +kernel
theorem dX7_adjust_28 : decode cX7_adjust 28 = .ok (.getfield 80, 3) := by decide +kernel
theorem dX7_adjust_31 : decode cX7_adjust 31 = .ok (.ifCond .ne 15, 3) := by decide +kernel
theorem dX7_adjust_34 : decode cX7_adjust 34 = .ok (.iload_n 2, 1) := by decide +kernel
theorem dX7_adjust_35 : decode cX7_adjust 35 = .ok (.bipush 9, 2) := by decide +kernel
theorem dX7_adjust_37 : decode cX7_adjust 37 = .ok (.if_icmp .ne 13, 3) := by decide +kernel
theorem dX7_adjust_40 : decode cX7_adjust 40 = .ok (.iload_n 1, 1) := by decide +kernel
theorem dX7_adjust_41 : decode cX7_adjust 41 = .ok (.bipush 9, 2) := by decide +kernel
theorem dX7_adjust_43 : decode cX7_adjust 43 = .ok (.if_icmp .le 7, 3) := by decide +kernel
theorem dX7_adjust_46 : decode cX7_adjust 46 = .ok (.iconst 1, 1) := by decide +kernel
theorem dX7_adjust_47 : decode cX7_adjust 47 = .ok (.goto 4, 3) := by decide +kernel
theorem dX7_adjust_50 : decode cX7_adjust 50 = .ok (.iconst 0, 1) := by decide +kernel
theorem dX7_adjust_51 : decode cX7_adjust 51 = .ok (.istore_n 3, 1) := by decide +kernel
theorem dX7_adjust_52 : decode cX7_adjust 52 = .ok (.aload_n 0, 1) := by decide +kernel
theorem dX7_adjust_53 : decode cX7_adjust 53 = .ok (.getfield 16, 3) := by decide +kernel
theorem dX7_adjust_56 : decode cX7_adjust 56 = .ok (.bipush 7, 2) := by decide +kernel
theorem dX7_adjust_58 : decode cX7_adjust 58 = .ok (.iaload, 1) := by decide +kernel
theorem dX7_adjust_59 : decode cX7_adjust 59 = .ok (.istore 4, 2) := by decide +kernel
theorem dX7_adjust_61 : decode cX7_adjust 61 = .ok (.iload_n 1, 1) := by decide +kernel
theorem dX7_adjust_62 : decode cX7_adjust 62 = .ok (.bipush 9, 2) := by decide +kernel
theorem dX7_adjust_64 : decode cX7_adjust 64 = .ok (.if_icmp .gt 10, 3) := by decide +kernel
theorem dX7_adjust_67 : decode cX7_adjust 67 = .ok (.aload_n 0, 1) := by decide +kernel
theorem dX7_adjust_68 : decode cX7_adjust 68 = .ok (.getfield 74, 3) := by decide +kernel
theorem dX7_adjust_71 : decode cX7_adjust 71 = .ok (.ifCond .eq 31, 3) := by decide +kernel
theorem dX7_adjust_74 : decode cX7_adjust 74 = .ok (.iload 4, 2) := by decide +kernel
theorem dX7_adjust_76 : decode cX7_adjust 76 = .ok (.bipush 6, 2) := by decide +kernel
theorem dX7_adjust_78 : decode cX7_adjust 78 = .ok (.iadd, 1) := by decide +kernel
theorem dX7_adjust_79 : decode cX7_adjust 79 = .ok (.istore 4, 2) := by decide +kernel
theorem dX7_adjust_81 : decode cX7_adjust 81 = .ok (.aload_n 0, 1) := by decide +kernel
theorem dX7_adjust_82 : decode cX7_adjust 82 = .ok (.iload_n 1, 1) := by decide +kernel
theorem dX7_adjust_83 : decode cX7_adjust 83 = .ok (.bipush 6, 2) := by decide +kernel
theorem dX7_adjust_85 : decode cX7_adjust 85 = .ok (.iadd, 1) := by decide +kernel
theorem dX7_adjust_86 : decode cX7_adjust 86 = .ok (.bipush 15, 2) := by decide +kernel
theorem dX7_adjust_88 : decode cX7_adjust 88 = .ok (.if_icmp .le 7, 3) := by decide +kernel
theorem dX7_adjust_91 : decode cX7_adjust 91 = .ok (.iconst 1, 1) := by decide +kernel
theorem dX7_adjust_92 : decode cX7_adjust 92 = .ok (.goto 4, 3) := by decide +kernel
theorem dX7_adjust_95 : decode cX7_adjust 95 = .ok (.iconst 0, 1) := by decide +kernel
theorem dX7_adjust_96 : decode cX7_adjust 96 = .ok (.putfield 74, 3) := by decide +kernel
theorem dX7_adjust_99 : decode cX7_adjust 99 = .ok (.goto 8, 3) := by decide +kernel
theorem dX7_adjust_102 : decode cX7_adjust 102 = .ok (.aload_n 0, 1) := by decide +kernel
theorem dX7_adjust_103 : decode cX7_adjust 103 = .ok (.iconst 0, 1) := by decide +kernel
theorem dX7_adjust_104 : decode cX7_adjust 104 = .ok (.putfield 74, 3) := by decide +kernel
theorem dX7_adjust_107 : decode cX7_adjust 107 = .ok (.iload_n 3, 1) := by decide +kernel
theorem dX7_adjust_108 : decode cX7_adjust 108 = .ok (.ifCond .eq 15, 3) := by decide +kernel
theorem dX7_adjust_111 : decode cX7_adjust 111 = .ok (.iload 4, 2) := by decide +kernel
theorem dX7_adjust_113 : decode cX7_adjust 113 = .ok (.bipush 96, 2) := by decide +kernel
theorem dX7_adjust_115 : decode cX7_adjust 115 = .ok (.iadd, 1) := by decide +kernel
theorem dX7_adjust_116 : decode cX7_adjust 116 = .ok (.istore 4, 2) := by decide +kernel
theorem dX7_adjust_118 : decode cX7_adjust 118 = .ok (.aload_n 0, 1) := by decide +kernel
theorem dX7_adjust_119 : decode cX7_adjust 119 = .ok (.iconst 1, 1) := by decide +kernel
theorem dX7_adjust_120 : decode cX7_adjust 120 = .ok (.putfield 80, 3) := by decide +kernel
theorem dX7_adjust_123 : decode cX7_adjust 123 = .ok (.aload_n 0, 1) := by decide +kernel
theorem dX7_adjust_124 : decode cX7_adjust 124 = .ok (.getfield 16, 3) := by decide +kernel
theorem dX7_adjust_127 : decode cX7_adjust 127 = .ok (.bipush 7, 2) := by decide +kernel
theorem dX7_adjust_129 : decode cX7_adjust 129 = .ok (.iload 4, 2) := by decide +kernel
theorem dX7_adjust_131 : decode cX7_adjust 131 = .ok (.sipush 255, 3) := by decide +kernel
theorem dX7_adjust_134 : decode cX7_adjust 134 = .ok (.iand, 1) := by decide +kernel
theorem dX7_adjust_135 : decode cX7_adjust 135 = .ok (.iastore, 1) := by decide +kernel
theorem dX7_adjust_136 : decode cX7_adjust 136 = .ok (.aload_n 0, 1) := by decide +kernel
theorem dX7_adjust_137 : decode cX7_adjust 137 = .ok (.aload_n 0, 1) := by decide +kernel
theorem dX7_adjust_138 : decode cX7_adjust 138 = .ok (.getfield 16, 3) := by decide +kernel
theorem dX7_adjust_141 : decode cX7_adjust 141 = .ok (.bipush 7, 2) := by decide +kernel
theorem dX7_adjust_143 : decode cX7_adjust 143 = .ok (.iaload, 1) := by decide +kernel
theorem dX7_adjust_144 : decode cX7_adjust 144 = .ok (.invokevirtual 90, 3) := by decide +kernel
theorem dX7_adjust_147 : decode cX7_adjust 147 = .ok (.return_, 1) := by decide +kernel
set_option maxRecDepth 20000 in
theorem ggX7_turn_X7_adjust : GoodIn wsX7_turn wsX7_adjust := goodIn_r _ [7, 1, 2, 8, 9, 10, 11, 6, 12, 13, 14, 15, 16, 17, 18, 19, 20, 21, 22, 23, 24, 25, 26, 27, 28, 29, 30, 31, 32, 33, 34, 35, 36, 37, 38, 39, 40, 41, 42, 43, 44, 45] (by decide +kernel) (by decide +kernel)
set_option maxRecDepth 20000 in
theorem gX7_turn_X7_adjust : GoodIn wsX7_turn (wsV RX7 100 RX7 yX7_adjust wsX7_adjust) := goodIn_app (goodIn_of _ (by decide +kernel)) ggX7_turn_X7_adjust
theorem dX7_turn_0 : decode cX7_turn 0 = .ok (.aload_n 0, 1) := by decide +kernel
theorem dX7_turn_1 : decode cX7_turn 1 = .ok (.getfield 16, 3) := by decide +kernel
theorem dX7_turn_4 : decode cX7_turn 4 = .ok (.bipush 7, 2) := by decide +kernel
theorem dX7_turn_6 : decode cX7_turn 6 = .ok (.iaload, 1) := by decide +kernel
theorem dX7_turn_7 : decode cX7_turn 7 = .ok (.istore_n 2, 1) := by decide +kernel
theorem dX7_turn_8 : decode cX7_turn 8 = .ok (.aload_n 0, 1) := by decide +kernel
theorem dX7_turn_9 : decode cX7_turn 9 = .ok (.getfield 80, 3) := by decide +kernel
theorem dX7_turn_12 : decode cX7_turn 12 = .ok (.ifCond .eq 7, 3) := by decide +kernel
theorem dX7_turn_15 : decode cX7_turn 15 = .ok (.iconst 1, 1) := by decide +kernel
theorem dX7_turn_16 : decode cX7_turn 16 = .ok (.goto 4, 3) := by decide +kernel
theorem dX7_turn_19 : decode cX7_turn 19 = .ok (.iconst 0, 1) := by decide +kernel
theorem dX7_turn_20 : decode cX7_turn 20 = .ok (.istore_n 3, 1) := by decide +kernel
theorem dX7_turn_21 : decode cX7_turn 21 = .ok (.iload_n 1, 1) := by decide +kernel
theorem dX7_turn_22 : decode cX7_turn 22 = .ok (.tableswitch 213 0 6 #[42, 79, 115, 149, 183, 190, 205], 42) := by decide +kernel
theorem dX7_turn_64 : decode cX7_turn 64 = .ok (.aload_n 0, 1) := by decide +kernel
theorem dX7_turn_65 : decode cX7_turn 65 = .ok (.iload_n 2, 1) := by decide +kernel
theorem dX7_turn_66 : decode cX7_turn 66 = .ok (.bipush 127, 2) := by decide +kernel
theorem dX7_turn_68 : decode cX7_turn 68 = .ok (.if_icmp .le 7, 3) := by decide +kernel
theorem dX7_turn_71 : decode cX7_turn 71 = .ok (.iconst 1, 1) := by decide +kernel
theorem dX7_turn_72 : decode cX7_turn 72 = .ok (.goto 4, 3) := by decide +kernel
theorem dX7_turn_75 : decode cX7_turn 75 = .ok (.iconst 0, 1) := by decide +kernel
theorem dX7_turn_76 : decode cX7_turn 76 = .ok (.putfield 80, 3) := by decide +kernel
theorem dX7_turn_79 : decode cX7_turn 79 = .ok (.aload_n 0, 1) := by decide +kernel
theorem dX7_turn_80 : decode cX7_turn 80 = .ok (.getfield 16, 3) := by decide +kernel
theorem dX7_turn_83 : decode cX7_turn 83 = .ok (.bipush 7, 2) := by decide +kernel
theorem dX7_turn_85 : decode cX7_turn 85 = .ok (.iload_n 2, 1) := by decide +kernel
theorem dX7_turn_86 : decode cX7_turn 86 = .ok (.iconst 1, 1) := by decide +kernel
theorem dX7_turn_87 : decode cX7_turn 87 = .ok (.ishl, 1) := by decide +kernel
theorem dX7_turn_88 : decode cX7_turn 88 = .ok (.sipush 255, 3) := by decide +kernel
theorem dX7_turn_91 : decode cX7_turn 91 = .ok (.iand, 1) := by decide +kernel
theorem dX7_turn_92 : decode cX7_turn 92 = .ok (.iload_n 2, 1) := by decide +kernel
theorem dX7_turn_93 : decode cX7_turn 93 = .ok (.bipush 7, 2) := by decide +kernel
theorem dX7_turn_95 : decode cX7_turn 95 = .ok (.ishr, 1) := by decide +kernel
theorem dX7_turn_96 : decode cX7_turn 96 = .ok (.ior, 1) := by decide +kernel
theorem dX7_turn_97 : decode cX7_turn 97 = .ok (.iastore, 1) := by decide +kernel
theorem dX7_turn_98 : decode cX7_turn 98 = .ok (.goto 153, 3) := by decide +kernel
theorem dX7_turn_101 : decode cX7_turn 101 = .ok (.aload_n 0, 1) := by decide +kernel
theorem dX7_turn_102 : decode cX7_turn 102 = .ok (.iload_n 2, 1) := by decide +kernel
theorem dX7_turn_103 : decode cX7_turn 103 = .ok (.iconst 1, 1) := by decide +kernel
theorem dX7_turn_104 : decode cX7_turn 104 = .ok (.iand, 1) := by decide +kernel
theorem dX7_turn_105 : decode cX7_turn 105 = .ok (.iconst 1, 1) := by decide +kernel
theorem dX7_turn_106 : decode cX7_turn 106 = .ok (.if_icmp .ne 7, 3) := by decide +kernel
theorem dX7_turn_109 : decode cX7_turn 109 = .ok (.iconst 1, 1) := by decide +kernel
theorem dX7_turn_110 : decode cX7_turn 110 = .ok (.goto 4, 3) := by decide +kernel
theorem dX7_turn_113 : decode cX7_turn 113 = .ok (.iconst 0, 1) := by decide +kernel
theorem dX7_turn_114 : decode cX7_turn 114 = .ok (.putfield 80, 3) := by decide +kernel
theorem dX7_turn_117 : decode cX7_turn 117 = .ok (.aload_n 0, 1) := by decide +kernel
theorem dX7_turn_118 : decode cX7_turn 118 = .ok (.getfield 16, 3) := by decide +kernel
theorem dX7_turn_121 : decode cX7_turn 121 = .ok (.bipush 7, 2) := by decide +kernel
theorem dX7_turn_123 : decode cX7_turn 123 = .ok (.iload_n 2, 1) := by decide +kernel
theorem dX7_turn_124 : decode cX7_turn 124 = .ok (.iconst 1, 1) := by decide +kernel
theorem dX7_turn_125 : decode cX7_turn 125 = .ok (.ishr, 1) := by decide +kernel
theorem dX7_turn_126 : decode cX7_turn 126 = .ok (.iload_n 2, 1) := by decide +kernel
theorem dX7_turn_127 : decode cX7_turn 127 = .ok (.iconst 1, 1) := by decide +kernel
theorem dX7_turn_128 : decode cX7_turn 128 = .ok (.iand, 1) := by decide +kernel
theorem dX7_turn_129 : decode cX7_turn 129 = .ok (.bipush 7, 2) := by decide +kernel
theorem dX7_turn_131 : decode cX7_turn 131 = .ok (.ishl, 1) := by decide +kernel
theorem dX7_turn_132 : decode cX7_turn 132 = .ok (.ior, 1) := by decide +kernel
theorem dX7_turn_133 : decode cX7_turn 133 = .ok (.iastore, 1) := by decide +kernel
theorem dX7_turn_134 : decode cX7_turn 134 = .ok (.goto 117, 3) := by decide +kernel
theorem dX7_turn_137 : decode cX7_turn 137 = .ok (.aload_n 0, 1) := by decide +kernel
theorem dX7_turn_138 : decode cX7_turn 138 = .ok (.iload_n 2, 1) := by decide +kernel
theorem dX7_turn_139 : decode cX7_turn 139 = .ok (.bipush 127, 2) := by decide +kernel
theorem dX7_turn_141 : decode cX7_turn 141 = .ok (.if_icmp .le 7, 3) := by decide +kernel
theorem dX7_turn_144 : decode cX7_turn 144 = .ok (.iconst 1, 1) := by decide +kernel
theorem dX7_turn_145 : decode cX7_turn 145 = .ok (.goto 4, 3) := by decide +kernel
theorem dX7_turn_148 : decode cX7_turn 148 = .ok (.iconst 0, 1) := by decide +kernel
theorem dX7_turn_149 : decode cX7_turn 149 = .ok (.putfield 80, 3) := by decide +kernel
theorem dX7_turn_152 : decode cX7_turn 152 = .ok (.aload_n 0, 1) := by decide +kernel
theorem dX7_turn_153 : decode cX7_turn 153 = .ok (.getfield 16, 3) := by decide +kernel
theorem dX7_turn_156 : decode cX7_turn 156 = .ok (.bipush 7, 2) := by decide +kernel
theorem dX7_turn_158 : decode cX7_turn 158 = .ok (.iload_n 2, 1) := by decide +kernel
theorem dX7_turn_159 : decode cX7_turn 159 = .ok (.iconst 1, 1) := by decide +kernel
theorem dX7_turn_160 : decode cX7_turn 160 = .ok (.ishl, 1) := by decide +kernel
theorem dX7_turn_161 : decode cX7_turn 161 = .ok (.sipush 255, 3) := by decide +kernel
end
section
theorem dX7_turn_164 : decode cX7_turn 164 = .ok (.iand, 1) := by decide +kernel
theorem dX7_turn_165 : decode cX7_turn 165 = .ok (.iload_n 3, 1) := by decide +kernel
theorem dX7_turn_166 : decode cX7_turn 166 = .ok (.ior, 1) := by decide +kernel
theorem dX7_turn_167 : decode cX7_turn 167 = .ok (.iastore, 1) := by decide +kernel
theorem dX7_turn_168 : decode cX7_turn 168 = .ok (.goto 83, 3) := by decide +kernel
theorem dX7_turn_171 : decode cX7_turn 171 = .ok (.aload_n 0, 1) := by decide +kernel
theorem dX7_turn_172 : decode cX7_turn 172 = .ok (.iload_n 2, 1) := by decide +kernel
theorem dX7_turn_173 : decode cX7_turn 173 = .ok (.iconst 1, 1) := by decide +kernel
theorem dX7_turn_174 : decode cX7_turn 174 = .ok (.iand, 1) := by decide +kernel
theorem dX7_turn_175 : decode cX7_turn 175 = .ok (.iconst 1, 1) := by decide +kernel
theorem dX7_turn_176 : decode cX7_turn 176 = .ok (.if_icmp .ne 7, 3) := by decide +kernel
theorem dX7_turn_179 : decode cX7_turn 179 = .ok (.iconst 1, 1) := by decide +kernel
theorem dX7_turn_180 : decode cX7_turn 180 = .ok (.goto 4, 3) := by decide +kernel
theorem dX7_turn_183 : decode cX7_turn 183 = .ok (.iconst 0, 1) := by decide +kernel
theorem dX7_turn_184 : decode cX7_turn 184 = .ok (.putfield 80, 3) := by decide +kernel
theorem dX7_turn_187 : decode cX7_turn 187 = .ok (.aload_n 0, 1) := by decide +kernel
theorem dX7_turn_188 : decode cX7_turn 188 = .ok (.getfield 16, 3) := by decide +kernel
theorem dX7_turn_191 : decode cX7_turn 191 = .ok (.bipush 7, 2) := by decide +kernel
theorem dX7_turn_193 : decode cX7_turn 193 = .ok (.iload_n 2, 1) := by decide +kernel
theorem dX7_turn_194 : decode cX7_turn 194 = .ok (.iconst 1, 1) := by decide +kernel
theorem dX7_turn_195 : decode cX7_turn 195 = .ok (.ishr, 1) := by decide +kernel
theorem dX7_turn_196 : decode cX7_turn 196 = .ok (.iload_n 3, 1) := by decide +kernel
theorem dX7_turn_197 : decode cX7_turn 197 = .ok (.bipush 7, 2) := by decide +kernel
theorem dX7_turn_199 : decode cX7_turn 199 = .ok (.ishl, 1) := by decide +kernel
theorem dX7_turn_200 : decode cX7_turn 200 = .ok (.ior, 1) := by decide +kernel
theorem dX7_turn_201 : decode cX7_turn 201 = .ok (.iastore, 1) := by decide +kernel
theorem dX7_turn_202 : decode cX7_turn 202 = .ok (.goto 49, 3) := by decide +kernel
theorem dX7_turn_205 : decode cX7_turn 205 = .ok (.aload_n 0, 1) := by decide +kernel
theorem dX7_turn_206 : decode cX7_turn 206 = .ok (.invokevirtual 100, 3) := by decide +kernel
theorem dX7_turn_209 : decode cX7_turn 209 = .ok (.goto 42, 3) := by decide +kernel
theorem dX7_turn_212 : decode cX7_turn 212 = .ok (.aload_n 0, 1) := by decide +kernel
theorem dX7_turn_213 : decode cX7_turn 213 = .ok (.getfield 16, 3) := by decide +kernel
theorem dX7_turn_216 : decode cX7_turn 216 = .ok (.bipush 7, 2) := by decide +kernel
theorem dX7_turn_218 : decode cX7_turn 218 = .ok (.sipush 255, 3) := by decide +kernel
theorem dX7_turn_221 : decode cX7_turn 221 = .ok (.iload_n 2, 1) := by decide +kernel
theorem dX7_turn_222 : decode cX7_turn 222 = .ok (.isub, 1) := by decide +kernel
theorem dX7_turn_223 : decode cX7_turn 223 = .ok (.iastore, 1) := by decide +kernel
theorem dX7_turn_224 : decode cX7_turn 224 = .ok (.goto 27, 3) := by decide +kernel
theorem dX7_turn_227 : decode cX7_turn 227 = .ok (.aload_n 0, 1) := by decide +kernel
theorem dX7_turn_228 : decode cX7_turn 228 = .ok (.iconst 1, 1) := by decide +kernel
theorem dX7_turn_229 : decode cX7_turn 229 = .ok (.putfield 80, 3) := by decide +kernel
theorem dX7_turn_232 : decode cX7_turn 232 = .ok (.goto 19, 3) := by decide +kernel
theorem dX7_turn_235 : decode cX7_turn 235 = .ok (.aload_n 0, 1) := by decide +kernel
theorem dX7_turn_236 : decode cX7_turn 236 = .ok (.aload_n 0, 1) := by decide +kernel
theorem dX7_turn_237 : decode cX7_turn 237 = .ok (.getfield 80, 3) := by decide +kernel
theorem dX7_turn_240 : decode cX7_turn 240 = .ok (.ifCond .ne 7, 3) := by decide +kernel
theorem dX7_turn_243 : decode cX7_turn 243 = .ok (.iconst 1, 1) := by decide +kernel
theorem dX7_turn_244 : decode cX7_turn 244 = .ok (.goto 4, 3) := by decide +kernel
theorem dX7_turn_247 : decode cX7_turn 247 = .ok (.iconst 0, 1) := by decide +kernel
theorem dX7_turn_248 : decode cX7_turn 248 = .ok (.putfield 80, 3) := by decide +kernel
theorem dX7_turn_251 : decode cX7_turn 251 = .ok (.return_, 1) := by decide +kernel
theorem dX7_in_0 : decode cX7_in 0 = .ok (.iload_n 1, 1) := by decide +kernel
theorem dX7_in_1 : decode cX7_in 1 = .ok (.ifCond .ne 16, 3) := by decide +kernel
theorem dX7_in_4 : decode cX7_in 4 = .ok (.aload_n 0, 1) := by decide +kernel
theorem dX7_in_5 : decode cX7_in 5 = .ok (.getfield 103, 3) := by decide +kernel
theorem dX7_in_8 : decode cX7_in 8 = .ok (.ifCond .le 7, 3) := by decide +kernel
theorem dX7_in_11 : decode cX7_in 11 = .ok (.iconst 1, 1) := by decide +kernel
theorem dX7_in_12 : decode cX7_in 12 = .ok (.goto 4, 3) := by decide +kernel
theorem dX7_in_15 : decode cX7_in 15 = .ok (.iconst 0, 1) := by decide +kernel
theorem dX7_in_16 : decode cX7_in 16 = .ok (.ireturn, 1) := by decide +kernel
theorem dX7_in_17 : decode cX7_in 17 = .ok (.iload_n 1, 1) := by decide +kernel
theorem dX7_in_18 : decode cX7_in 18 = .ok (.iconst 1, 1) := by decide +kernel
theorem dX7_in_19 : decode cX7_in 19 = .ok (.if_icmp .ne 74, 3) := by decide +kernel
theorem dX7_in_22 : decode cX7_in 22 = .ok (.aload_n 0, 1) := by decide +kernel
theorem dX7_in_23 : decode cX7_in 23 = .ok (.getfield 103, 3) := by decide +kernel
theorem dX7_in_26 : decode cX7_in 26 = .ok (.ifCond .le 12, 3) := by decide +kernel
theorem dX7_in_29 : decode cX7_in 29 = .ok (.aload_n 0, 1) := by decide +kernel
theorem dX7_in_30 : decode cX7_in 30 = .ok (.getfield 23, 3) := by decide +kernel
theorem dX7_in_33 : decode cX7_in 33 = .ok (.iconst 0, 1) := by decide +kernel
theorem dX7_in_34 : decode cX7_in 34 = .ok (.iaload, 1) := by decide +kernel
theorem dX7_in_35 : decode cX7_in 35 = .ok (.goto 4, 3) := by decide +kernel
theorem dX7_in_38 : decode cX7_in 38 = .ok (.iconst 0, 1) := by decide +kernel
theorem dX7_in_39 : decode cX7_in 39 = .ok (.istore_n 2, 1) := by decide +kernel
theorem dX7_in_40 : decode cX7_in 40 = .ok (.iconst 1, 1) := by decide +kernel
theorem dX7_in_41 : decode cX7_in 41 = .ok (.istore_n 3, 1) := by decide +kernel
theorem dX7_in_42 : decode cX7_in 42 = .ok (.iload_n 3, 1) := by decide +kernel
theorem dX7_in_43 : decode cX7_in 43 = .ok (.aload_n 0, 1) := by decide +kernel
theorem dX7_in_44 : decode cX7_in 44 = .ok (.getfield 103, 3) := by decide +kernel
theorem dX7_in_47 : decode cX7_in 47 = .ok (.if_icmp .ge 23, 3) := by decide +kernel
theorem dX7_in_50 : decode cX7_in 50 = .ok (.aload_n 0, 1) := by decide +kernel
theorem dX7_in_51 : decode cX7_in 51 = .ok (.getfield 23, 3) := by decide +kernel
theorem dX7_in_54 : decode cX7_in 54 = .ok (.iload_n 3, 1) := by decide +kernel
theorem dX7_in_55 : decode cX7_in 55 = .ok (.iconst 1, 1) := by decide +kernel
theorem dX7_in_56 : decode cX7_in 56 = .ok (.isub, 1) := by decide +kernel
theorem dX7_in_57 : decode cX7_in 57 = .ok (.aload_n 0, 1) := by decide +kernel
theorem dX7_in_58 : decode cX7_in 58 = .ok (.getfield 23, 3) := by decide +kernel
theorem dX7_in_61 : decode cX7_in 61 = .ok (.iload_n 3, 1) := by decide +kernel
theorem dX7_in_62 : decode cX7_in 62 = .ok (.iaload, 1) := by decide +kernel
theorem dX7_in_63 : decode cX7_in 63 = .ok (.iastore, 1) := by decide +kernel
theorem dX7_in_64 : decode cX7_in 64 = .ok (.iinc 3 1, 3) := by decide +kernel
theorem dX7_in_67 : decode cX7_in 67 = .ok (.goto (-25), 3) := by decide +kernel
theorem dX7_in_70 : decode cX7_in 70 = .ok (.aload_n 0, 1) := by decide +kernel
theorem dX7_in_71 : decode cX7_in 71 = .ok (.aload_n 0, 1) := by decide +kernel
theorem dX7_in_72 : decode cX7_in 72 = .ok (.getfield 103, 3) := by decide +kernel
theorem dX7_in_75 : decode cX7_in 75 = .ok (.ifCond .le 12, 3) := by decide +kernel
theorem dX7_in_78 : decode cX7_in 78 = .ok (.aload_n 0, 1) := by decide +kernel
theorem dX7_in_79 : decode cX7_in 79 = .ok (.getfield 103, 3) := by decide +kernel
theorem dX7_in_82 : decode cX7_in 82 = .ok (.iconst 1, 1) := by decide +kernel
theorem dX7_in_83 : decode cX7_in 83 = .ok (.isub, 1) := by decide +kernel
theorem dX7_in_84 : decode cX7_in 84 = .ok (.goto 4, 3) := by decide +kernel
theorem dX7_in_87 : decode cX7_in 87 = .ok (.iconst 0, 1) := by decide +kernel
theorem dX7_in_88 : decode cX7_in 88 = .ok (.putfield 103, 3) := by decide +kernel
theorem dX7_in_91 : decode cX7_in 91 = .ok (.iload_n 2, 1) := by decide +kernel
theorem dX7_in_92 : decode cX7_in 92 = .ok (.ireturn, 1) := by decide +kernel
theorem dX7_in_93 : decode cX7_in 93 = .ok (.iload_n 1, 1) := by decide +kernel
theorem dX7_in_94 : decode cX7_in 94 = .ok (.bipush 6, 2) := by decide +kernel
theorem dX7_in_96 : decode cX7_in 96 = .ok (.if_icmp .ne 20, 3) := by decide +kernel
theorem dX7_in_99 : decode cX7_in 99 = .ok (.aload_n 0, 1) := by decide +kernel
theorem dX7_in_100 : decode cX7_in 100 = .ok (.getfield 106, 3) := by decide +kernel
theorem dX7_in_103 : decode cX7_in 103 = .ok (.istore_n 2, 1) := by decide +kernel
theorem dX7_in_104 : decode cX7_in 104 = .ok (.aload_n 0, 1) := by decide +kernel
theorem dX7_in_105 : decode cX7_in 105 = .ok (.aload_n 0, 1) := by decide +kernel
theorem dX7_in_106 : decode cX7_in 106 = .ok (.getfield 106, 3) := by decide +kernel
theorem dX7_in_109 : decode cX7_in 109 = .ok (.iconst 1, 1) := by decide +kernel
theorem dX7_in_110 : decode cX7_in 110 = .ok (.iand, 1) := by decide +kernel
theorem dX7_in_111 : decode cX7_in 111 = .ok (.putfield 106, 3) := by decide +kernel
theorem dX7_in_114 : decode cX7_in 114 = .ok (.iload_n 2, 1) := by decide +kernel
theorem dX7_in_115 : decode cX7_in 115 = .ok (.ireturn, 1) := by decide +kernel
theorem dX7_in_116 : decode cX7_in 116 = .ok (.sipush 255, 3) := by decide +kernel
theorem dX7_in_119 : decode cX7_in 119 = .ok (.ireturn, 1) := by decide +kernel
theorem dX7_out_0 : decode cX7_out 0 = .ok (.iload_n 1, 1) := by decide +kernel
theorem dX7_out_1 : decode cX7_out 1 = .ok (.iconst 1, 1) := by decide +kernel
theorem dX7_out_2 : decode cX7_out 2 = .ok (.if_icmp .ne 30, 3) := by decide +kernel
theorem dX7_out_5 : decode cX7_out 5 = .ok (.aload_n 0, 1) := by decide +kernel
theorem dX7_out_6 : decode cX7_out 6 = .ok (.getfield 26, 3) := by decide +kernel
theorem dX7_out_9 : decode cX7_out 9 = .ok (.aload_n 0, 1) := by decide +kernel
theorem dX7_out_10 : decode cX7_out 10 = .ok (.getfield 109, 3) := by decide +kernel
theorem dX7_out_13 : decode cX7_out 13 = .ok (.sipush 256, 3) := by decide +kernel
theorem dX7_out_16 : decode cX7_out 16 = .ok (.irem, 1) := by decide +kernel
theorem dX7_out_17 : decode cX7_out 17 = .ok (.iload_n 2, 1) := by decide +kernel
theorem dX7_out_18 : decode cX7_out 18 = .ok (.iastore, 1) := by decide +kernel
theorem dX7_out_19 : decode cX7_out 19 = .ok (.aload_n 0, 1) := by decide +kernel
theorem dX7_out_20 : decode cX7_out 20 = .ok (.dup, 1) := by decide +kernel
theorem dX7_out_21 : decode cX7_out 21 = .ok (.getfield 109, 3) := by decide +kernel
theorem dX7_out_24 : decode cX7_out 24 = .ok (.iconst 1, 1) := by decide +kernel
theorem dX7_out_25 : decode cX7_out 25 = .ok (.iadd, 1) := by decide +kernel
theorem dX7_out_26 : decode cX7_out 26 = .ok (.putfield 109, 3) := by decide +kernel
theorem dX7_out_29 : decode cX7_out 29 = .ok (.goto 163, 3) := by decide +kernel
theorem dX7_out_32 : decode cX7_out 32 = .ok (.iload_n 1, 1) := by decide +kernel
theorem dX7_out_33 : decode cX7_out 33 = .ok (.iconst 2, 1) := by decide +kernel
theorem dX7_out_34 : decode cX7_out 34 = .ok (.if_icmp .ne 11, 3) := by decide +kernel
theorem dX7_out_37 : decode cX7_out 37 = .ok (.aload_n 0, 1) := by decide +kernel
theorem dX7_out_38 : decode cX7_out 38 = .ok (.iload_n 2, 1) := by decide +kernel
theorem dX7_out_39 : decode cX7_out 39 = .ok (.putfield 112, 3) := by decide +kernel
theorem dX7_out_42 : decode cX7_out 42 = .ok (.goto 150, 3) := by decide +kernel
theorem dX7_out_45 : decode cX7_out 45 = .ok (.iload_n 1, 1) := by decide +kernel
theorem dX7_out_46 : decode cX7_out 46 = .ok (.iconst 3, 1) := by decide +kernel
theorem dX7_out_47 : decode cX7_out 47 = .ok (.if_icmp .ne 19, 3) := by decide +kernel
theorem dX7_out_50 : decode cX7_out 50 = .ok (.aload_n 0, 1) := by decide +kernel
theorem dX7_out_51 : decode cX7_out 51 = .ok (.aload_n 0, 1) := by decide +kernel
theorem dX7_out_52 : decode cX7_out 52 = .ok (.getfield 115, 3) := by decide +kernel
theorem dX7_out_55 : decode cX7_out 55 = .ok (.ldc 118, 2) := by decide +kernel
theorem dX7_out_57 : decode cX7_out 57 = .ok (.iand, 1) := by decide +kernel
theorem dX7_out_58 : decode cX7_out 58 = .ok (.iload_n 2, 1) := by decide +kernel
theorem dX7_out_59 : decode cX7_out 59 = .ok (.ior, 1) := by decide +kernel
theorem dX7_out_60 : decode cX7_out 60 = .ok (.putfield 115, 3) := by decide +kernel
theorem dX7_out_63 : decode cX7_out 63 = .ok (.goto 129, 3) := by decide +kernel
theorem dX7_out_66 : decode cX7_out 66 = .ok (.iload_n 1, 1) := by decide +kernel
theorem dX7_out_67 : decode cX7_out 67 = .ok (.iconst 4, 1) := by decide +kernel
theorem dX7_out_68 : decode cX7_out 68 = .ok (.if_icmp .ne 23, 3) := by decide +kernel
theorem dX7_out_71 : decode cX7_out 71 = .ok (.aload_n 0, 1) := by decide +kernel
theorem dX7_out_72 : decode cX7_out 72 = .ok (.aload_n 0, 1) := by decide +kernel
theorem dX7_out_73 : decode cX7_out 73 = .ok (.getfield 115, 3) := by decide +kernel
theorem dX7_out_76 : decode cX7_out 76 = .ok (.sipush 255, 3) := by decide +kernel
theorem dX7_out_79 : decode cX7_out 79 = .ok (.iand, 1) := by decide +kernel
theorem dX7_out_80 : decode cX7_out 80 = .ok (.iload_n 2, 1) := by decide +kernel
theorem dX7_out_81 : decode cX7_out 81 = .ok (.bipush 8, 2) := by decide +kernel
theorem dX7_out_83 : decode cX7_out 83 = .ok (.ishl, 1) := by decide +kernel
theorem dX7_out_84 : decode cX7_out 84 = .ok (.ior, 1) := by decide +kernel
theorem dX7_out_85 : decode cX7_out 85 = .ok (.putfield 115, 3) := by decide +kernel
theorem dX7_out_88 : decode cX7_out 88 = .ok (.goto 104, 3) := by decide +kernel
theorem dX7_out_91 : decode cX7_out 91 = .ok (.iload_n 1, 1) := by decide +kernel
theorem dX7_out_92 : decode cX7_out 92 = .ok (.iconst 5, 1) := by decide +kernel
theorem dX7_out_93 : decode cX7_out 93 = .ok (.if_icmp .ne 11, 3) := by decide +kernel
theorem dX7_out_96 : decode cX7_out 96 = .ok (.aload_n 0, 1) := by decide +kernel
theorem dX7_out_97 : decode cX7_out 97 = .ok (.iload_n 2, 1) := by decide +kernel
theorem dX7_out_98 : decode cX7_out 98 = .ok (.putfield 119, 3) := by decide +kernel
theorem dX7_out_101 : decode cX7_out 101 = .ok (.goto 91, 3) := by decide +kernel
theorem dX7_out_104 : decode cX7_out 104 = .ok (.iload_n 1, 1) := by decide +kernel
theorem dX7_out_105 : decode cX7_out 105 = .ok (.bipush 6, 2) := by decide +kernel
theorem dX7_out_107 : decode cX7_out 107 = .ok (.if_icmp .ne 85, 3) := by decide +kernel
theorem dX7_out_110 : decode cX7_out 110 = .ok (.aload_n 0, 1) := by decide +kernel
theorem dX7_out_111 : decode cX7_out 111 = .ok (.getfield 106, 3) := by decide +kernel
theorem dX7_out_114 : decode cX7_out 114 = .ok (.iconst 1, 1) := by decide +kernel
theorem dX7_out_115 : decode cX7_out 115 = .ok (.iand, 1) := by decide +kernel
theorem dX7_out_116 : decode cX7_out 116 = .ok (.ifCond .ne 66, 3) := by decide +kernel
theorem dX7_out_119 : decode cX7_out 119 = .ok (.iload_n 2, 1) := by decide +kernel
theorem dX7_out_120 : decode cX7_out 120 = .ok (.iconst 1, 1) := by decide +kernel
theorem dX7_out_121 : decode cX7_out 121 = .ok (.if_icmp .eq 8, 3) := by decide +kernel
theorem dX7_out_124 : decode cX7_out 124 = .ok (.iload_n 2, 1) := by decide +kernel
theorem dX7_out_125 : decode cX7_out 125 = .ok (.iconst 2, 1) := by decide +kernel
theorem dX7_out_126 : decode cX7_out 126 = .ok (.if_icmp .ne 56, 3) := by decide +kernel
theorem dX7_out_129 : decode cX7_out 129 = .ok (.aload_n 0, 1) := by decide +kernel
theorem dX7_out_130 : decode cX7_out 130 = .ok (.getfield 112, 3) := by decide +kernel
theorem dX7_out_133 : decode cX7_out 133 = .ok (.bipush 64, 2) := by decide +kernel
theorem dX7_out_135 : decode cX7_out 135 = .ok (.if_icmp .ge 47, 3) := by decide +kernel
theorem dX7_out_138 : decode cX7_out 138 = .ok (.aload_n 0, 1) := by decide +kernel
theorem dX7_out_139 : decode cX7_out 139 = .ok (.aload_n 0, 1) := by decide +kernel
theorem dX7_out_140 : decode cX7_out 140 = .ok (.getfield 106, 3) := by decide +kernel
theorem dX7_out_143 : decode cX7_out 143 = .ok (.iconst 1, 1) := by decide +kernel
theorem dX7_out_144 : decode cX7_out 144 = .ok (.ior, 1) := by decide +kernel
theorem dX7_out_145 : decode cX7_out 145 = .ok (.putfield 106, 3) := by decide +kernel
theorem dX7_out_148 : decode cX7_out 148 = .ok (.aload_n 0, 1) := by decide +kernel
theorem dX7_out_149 : decode cX7_out 149 = .ok (.iload_n 2, 1) := by decide +kernel
theorem dX7_out_150 : decode cX7_out 150 = .ok (.putfield 122, 3) := by decide +kernel
theorem dX7_out_153 : decode cX7_out 153 = .ok (.aload_n 0, 1) := by decide +kernel
theorem dX7_out_154 : decode cX7_out 154 = .ok (.bipush 64, 2) := by decide +kernel
theorem dX7_out_156 : decode cX7_out 156 = .ok (.aload_n 0, 1) := by decide +kernel
theorem dX7_out_157 : decode cX7_out 157 = .ok (.getfield 112, 3) := by decide +kernel
theorem dX7_out_160 : decode cX7_out 160 = .ok (.imul, 1) := by decide +kernel
theorem dX7_out_161 : decode cX7_out 161 = .ok (.putfield 125, 3) := by decide +kernel
theorem dX7_out_164 : decode cX7_out 164 = .ok (.aload_n 0, 1) := by decide +kernel
theorem dX7_out_165 : decode cX7_out 165 = .ok (.iconst 0, 1) := by decide +kernel
theorem dX7_out_166 : decode cX7_out 166 = .ok (.putfield 128, 3) := by decide +kernel
theorem dX7_out_169 : decode cX7_out 169 = .ok (.aload_n 0, 1) := by decide +kernel
theorem dX7_out_170 : decode cX7_out 170 = .ok (.iconst 0, 1) := by decide +kernel
theorem dX7_out_171 : decode cX7_out 171 = .ok (.putfield 131, 3) := by decide +kernel
theorem dX7_out_174 : decode cX7_out 174 = .ok (.aload_n 0, 1) := by decide +kernel
theorem dX7_out_175 : decode cX7_out 175 = .ok (.iconst 1, 1) := by decide +kernel
theorem dX7_out_176 : decode cX7_out 176 = .ok (.putfield 134, 3) := by decide +kernel
theorem dX7_out_179 : decode cX7_out 179 = .ok (.goto 13, 3) := by decide +kernel
theorem dX7_out_182 : decode cX7_out 182 = .ok (.aload_n 0, 1) := by decide +kernel
theorem dX7_out_183 : decode cX7_out 183 = .ok (.aload_n 0, 1) := by decide +kernel
theorem dX7_out_184 : decode cX7_out 184 = .ok (.getfield 106, 3) := by decide +kernel
theorem dX7_out_187 : decode cX7_out 187 = .ok (.iconst 4, 1) := by decide +kernel
theorem dX7_out_188 : decode cX7_out 188 = .ok (.ior, 1) := by decide +kernel
theorem dX7_out_189 : decode cX7_out 189 = .ok (.putfield 106, 3) := by decide +kernel
theorem dX7_out_192 : decode cX7_out 192 = .ok (.return_, 1) := by decide +kernel
set_option maxRecDepth 20000 in
theorem ggX7_moveOne_X7_set : GoodIn wsX7_moveOne wsX7_set := goodIn_r _ [14, 15, 20, 21, 22, 23, 24, 25, 26, 27, 28, 29, 30, 31, 32, 33, 34, 35, 36, 37, 38, 39, 40, 41, 42, 43, 44, 45, 46, 47, 48, 49] (by decide +kernel) (by decide +kernel)
set_option maxRecDepth 20000 in
theorem gX7_moveOne_X7_set : GoodIn wsX7_moveOne (wsV RX7 43 RX7 yX7_set wsX7_set) := goodIn_app (goodIn_of _ (by decide +kernel)) ggX7_moveOne_X7_set
set_option maxRecDepth 20000 in
theorem ggX7_moveOne_X7_get : GoodIn wsX7_moveOne wsX7_get := goodIn_r _ [19, 15, 20, 21, 22, 23, 24, 25, 26, 27, 28, 29, 30, 31, 32, 33, 34, 35, 36, 37, 38, 39, 40, 41, 42, 43, 44, 45, 46, 47, 48, 49] (by decide +kernel) (by decide +kernel)
set_option maxRecDepth 20000 in
theorem gX7_moveOne_X7_get : GoodIn wsX7_moveOne (wsV RX7 39 RX7 yX7_get wsX7_get) := goodIn_app (goodIn_of _ (by decide +kernel)) ggX7_moveOne_X7_get
theorem dX7_moveOne_0 : decode cX7_moveOne 0 = .ok (.aload_n 0, 1) := by decide +kernel
theorem dX7_moveOne_1 : decode cX7_moveOne 1 = .ok (.getfield 122, 3) := by decide +kernel
theorem dX7_moveOne_4 : decode cX7_moveOne 4 = .ok (.iconst 1, 1) := by decide +kernel
theorem dX7_moveOne_5 : decode cX7_moveOne 5 = .ok (.if_icmp .ne 28, 3) := by decide +kernel
theorem dX7_moveOne_8 : decode cX7_moveOne 8 = .ok (.aload_n 0, 1) := by decide +kernel
theorem dX7_moveOne_9 : decode cX7_moveOne 9 = .ok (.aload_n 0, 1) := by decide +kernel
theorem dX7_moveOne_10 : decode cX7_moveOne 10 = .ok (.getfield 115, 3) := by decide +kernel
theorem dX7_moveOne_13 : decode cX7_moveOne 13 = .ok (.aload_n 0, 1) := by decide +kernel
theorem dX7_moveOne_14 : decode cX7_moveOne 14 = .ok (.getfield 13, 3) := by decide +kernel
theorem dX7_moveOne_17 : decode cX7_moveOne 17 = .ok (.aload_n 0, 1) := by decide +kernel
theorem dX7_moveOne_18 : decode cX7_moveOne 18 = .ok (.getfield 125, 3) := by decide +kernel
theorem dX7_moveOne_21 : decode cX7_moveOne 21 = .ok (.aload_n 0, 1) := by decide +kernel
theorem dX7_moveOne_22 : decode cX7_moveOne 22 = .ok (.getfield 128, 3) := by decide +kernel
theorem dX7_moveOne_25 : decode cX7_moveOne 25 = .ok (.iadd, 1) := by decide +kernel
theorem dX7_moveOne_26 : decode cX7_moveOne 26 = .ok (.iaload, 1) := by decide +kernel
theorem dX7_moveOne_27 : decode cX7_moveOne 27 = .ok (.invokevirtual 43, 3) := by decide +kernel
theorem dX7_moveOne_30 : decode cX7_moveOne 30 = .ok (.goto 25, 3) := by decide +kernel
theorem dX7_moveOne_33 : decode cX7_moveOne 33 = .ok (.aload_n 0, 1) := by decide +kernel
theorem dX7_moveOne_34 : decode cX7_moveOne 34 = .ok (.getfield 13, 3) := by decide +kernel
theorem dX7_moveOne_37 : decode cX7_moveOne 37 = .ok (.aload_n 0, 1) := by decide +kernel
theorem dX7_moveOne_38 : decode cX7_moveOne 38 = .ok (.getfield 125, 3) := by decide +kernel
theorem dX7_moveOne_41 : decode cX7_moveOne 41 = .ok (.aload_n 0, 1) := by decide +kernel
theorem dX7_moveOne_42 : decode cX7_moveOne 42 = .ok (.getfield 128, 3) := by decide +kernel
theorem dX7_moveOne_45 : decode cX7_moveOne 45 = .ok (.iadd, 1) := by decide +kernel
theorem dX7_moveOne_46 : decode cX7_moveOne 46 = .ok (.aload_n 0, 1) := by decide +kernel
theorem dX7_moveOne_47 : decode cX7_moveOne 47 = .ok (.aload_n 0, 1) := by decide +kernel
theorem dX7_moveOne_48 : decode cX7_moveOne 48 = .ok (.getfield 115, 3) := by decide +kernel
theorem dX7_moveOne_51 : decode cX7_moveOne 51 = .ok (.invokevirtual 39, 3) := by decide +kernel
theorem dX7_moveOne_54 : decode cX7_moveOne 54 = .ok (.iastore, 1) := by decide +kernel
theorem dX7_moveOne_55 : decode cX7_moveOne 55 = .ok (.aload_n 0, 1) := by decide +kernel
theorem dX7_moveOne_56 : decode cX7_moveOne 56 = .ok (.aload_n 0, 1) := by decide +kernel
theorem dX7_moveOne_57 : decode cX7_moveOne 57 = .ok (.getfield 115, 3) := by decide +kernel
theorem dX7_moveOne_60 : decode cX7_moveOne 60 = .ok (.iconst 1, 1) := by decide +kernel
theorem dX7_moveOne_61 : decode cX7_moveOne 61 = .ok (.iadd, 1) := by decide +kernel
theorem dX7_moveOne_62 : decode cX7_moveOne 62 = .ok (.ldc 50, 2) := by decide +kernel
theorem dX7_moveOne_64 : decode cX7_moveOne 64 = .ok (.iand, 1) := by decide +kernel
theorem dX7_moveOne_65 : decode cX7_moveOne 65 = .ok (.putfield 115, 3) := by decide +kernel
theorem dX7_moveOne_68 : decode cX7_moveOne 68 = .ok (.aload_n 0, 1) := by decide +kernel
theorem dX7_moveOne_69 : decode cX7_moveOne 69 = .ok (.dup, 1) := by decide +kernel
theorem dX7_moveOne_70 : decode cX7_moveOne 70 = .ok (.getfield 128, 3) := by decide +kernel
theorem dX7_moveOne_73 : decode cX7_moveOne 73 = .ok (.iconst 1, 1) := by decide +kernel
theorem dX7_moveOne_74 : decode cX7_moveOne 74 = .ok (.iadd, 1) := by decide +kernel
theorem dX7_moveOne_75 : decode cX7_moveOne 75 = .ok (.putfield 128, 3) := by decide +kernel
theorem dX7_moveOne_78 : decode cX7_moveOne 78 = .ok (.aload_n 0, 1) := by decide +kernel
theorem dX7_moveOne_79 : decode cX7_moveOne 79 = .ok (.getfield 128, 3) := by decide +kernel
theorem dX7_moveOne_82 : decode cX7_moveOne 82 = .ok (.bipush 64, 2) := by decide +kernel
theorem dX7_moveOne_84 : decode cX7_moveOne 84 = .ok (.if_icmp .ne 37, 3) := by decide +kernel
theorem dX7_moveOne_87 : decode cX7_moveOne 87 = .ok (.aload_n 0, 1) := by decide +kernel
theorem dX7_moveOne_88 : decode cX7_moveOne 88 = .ok (.aload_n 0, 1) := by decide +kernel
theorem dX7_moveOne_89 : decode cX7_moveOne 89 = .ok (.getfield 106, 3) := by decide +kernel
theorem dX7_moveOne_92 : decode cX7_moveOne 92 = .ok (.bipush 6, 2) := by decide +kernel
theorem dX7_moveOne_94 : decode cX7_moveOne 94 = .ok (.iand, 1) := by decide +kernel
theorem dX7_moveOne_95 : decode cX7_moveOne 95 = .ok (.iconst 2, 1) := by decide +kernel
theorem dX7_moveOne_96 : decode cX7_moveOne 96 = .ok (.ior, 1) := by decide +kernel
theorem dX7_moveOne_97 : decode cX7_moveOne 97 = .ok (.putfield 106, 3) := by decide +kernel
theorem dX7_moveOne_100 : decode cX7_moveOne 100 = .ok (.aload_n 0, 1) := by decide +kernel
theorem dX7_moveOne_101 : decode cX7_moveOne 101 = .ok (.getfield 119, 3) := by decide +kernel
theorem dX7_moveOne_104 : decode cX7_moveOne 104 = .ok (.bipush 8, 2) := by decide +kernel
theorem dX7_moveOne_106 : decode cX7_moveOne 106 = .ok (.iand, 1) := by decide +kernel
theorem dX7_moveOne_107 : decode cX7_moveOne 107 = .ok (.ifCond .eq 14, 3) := by decide +kernel
theorem dX7_moveOne_110 : decode cX7_moveOne 110 = .ok (.aload_n 0, 1) := by decide +kernel
theorem dX7_moveOne_111 : decode cX7_moveOne 111 = .ok (.aload_n 0, 1) := by decide +kernel
theorem dX7_moveOne_112 : decode cX7_moveOne 112 = .ok (.getfield 119, 3) := by decide +kernel
theorem dX7_moveOne_115 : decode cX7_moveOne 115 = .ok (.bipush 7, 2) := by decide +kernel
theorem dX7_moveOne_117 : decode cX7_moveOne 117 = .ok (.iand, 1) := by decide +kernel
theorem dX7_moveOne_118 : decode cX7_moveOne 118 = .ok (.putfield 19, 3) := by decide +kernel
theorem dX7_moveOne_121 : decode cX7_moveOne 121 = .ok (.return_, 1) := by decide +kernel
set_option maxRecDepth 20000 in
theorem ggX7_pass_X7_moveOne : GoodIn wsX7_pass wsX7_moveOne := goodIn_r _ [10, 11, 12, 13, 14, 15, 16, 3, 17, 18, 19, 20, 21, 9, 22, 23, 24, 25, 26, 27, 28, 29, 30, 31, 32, 33, 34, 35, 36, 37, 38, 39, 40, 41, 42, 43, 44, 45, 46, 47, 48, 49, 50, 51, 52, 53, 54, 55, 56, 57] (by decide +kernel) (by decide +kernel)
set_option maxRecDepth 20000 in
theorem gX7_pass_X7_moveOne : GoodIn wsX7_pass (wsV RX7 144 RX7 yX7_moveOne wsX7_moveOne) := goodIn_app (goodIn_of _ (by decide +kernel)) ggX7_pass_X7_moveOne
theorem dX7_pass_0 : decode cX7_pass 0 = .ok (.aload_n 0, 1) := by decide +kernel
theorem dX7_pass_1 : decode cX7_pass 1 = .ok (.aload_n 0, 1) := by decide +kernel
theorem dX7_pass_2 : decode cX7_pass 2 = .ok (.getfield 137, 3) := by decide +kernel
theorem dX7_pass_5 : decode cX7_pass 5 = .ok (.aload_n 0, 1) := by decide +kernel
theorem dX7_pass_6 : decode cX7_pass 6 = .ok (.getfield 141, 3) := by decide +kernel
theorem dX7_pass_9 : decode cX7_pass 9 = .ok (.i2l, 1) := by decide +kernel
theorem dX7_pass_10 : decode cX7_pass 10 = .ok (.ladd, 1) := by decide +kernel
theorem dX7_pass_11 : decode cX7_pass 11 = .ok (.putfield 137, 3) := by decide +kernel
theorem dX7_pass_14 : decode cX7_pass 14 = .ok (.aload_n 0, 1) := by decide +kernel
theorem dX7_pass_15 : decode cX7_pass 15 = .ok (.getfield 106, 3) := by decide +kernel
theorem dX7_pass_18 : decode cX7_pass 18 = .ok (.iconst 1, 1) := by decide +kernel
theorem dX7_pass_19 : decode cX7_pass 19 = .ok (.iand, 1) := by decide +kernel
theorem dX7_pass_20 : decode cX7_pass 20 = .ok (.iconst 1, 1) := by decide +kernel
theorem dX7_pass_21 : decode cX7_pass 21 = .ok (.if_icmp .ne 60, 3) := by decide +kernel
theorem dX7_pass_24 : decode cX7_pass 24 = .ok (.aload_n 0, 1) := by decide +kernel
theorem dX7_pass_25 : decode cX7_pass 25 = .ok (.getfield 134, 3) := by decide +kernel
theorem dX7_pass_28 : decode cX7_pass 28 = .ok (.ifCond .ne 53, 3) := by decide +kernel
theorem dX7_pass_31 : decode cX7_pass 31 = .ok (.aload_n 0, 1) := by decide +kernel
theorem dX7_pass_32 : decode cX7_pass 32 = .ok (.aload_n 0, 1) := by decide +kernel
theorem dX7_pass_33 : decode cX7_pass 33 = .ok (.getfield 131, 3) := by decide +kernel
theorem dX7_pass_36 : decode cX7_pass 36 = .ok (.aload_n 0, 1) := by decide +kernel
theorem dX7_pass_37 : decode cX7_pass 37 = .ok (.getfield 141, 3) := by decide +kernel
theorem dX7_pass_40 : decode cX7_pass 40 = .ok (.iadd, 1) := by decide +kernel
theorem dX7_pass_41 : decode cX7_pass 41 = .ok (.putfield 131, 3) := by decide +kernel
theorem dX7_pass_44 : decode cX7_pass 44 = .ok (.aload_n 0, 1) := by decide +kernel
theorem dX7_pass_45 : decode cX7_pass 45 = .ok (.getfield 106, 3) := by decide +kernel
theorem dX7_pass_48 : decode cX7_pass 48 = .ok (.iconst 1, 1) := by decide +kernel
theorem dX7_pass_49 : decode cX7_pass 49 = .ok (.iand, 1) := by decide +kernel
theorem dX7_pass_50 : decode cX7_pass 50 = .ok (.iconst 1, 1) := by decide +kernel
theorem dX7_pass_51 : decode cX7_pass 51 = .ok (.if_icmp .ne 30, 3) := by decide +kernel
theorem dX7_pass_54 : decode cX7_pass 54 = .ok (.aload_n 0, 1) := by decide +kernel
theorem dX7_pass_55 : decode cX7_pass 55 = .ok (.getfield 131, 3) := by decide +kernel
theorem dX7_pass_58 : decode cX7_pass 58 = .ok (.bipush 12, 2) := by decide +kernel
theorem dX7_pass_60 : decode cX7_pass 60 = .ok (.if_icmp .lt 21, 3) := by decide +kernel
theorem dX7_pass_63 : decode cX7_pass 63 = .ok (.aload_n 0, 1) := by decide +kernel
theorem dX7_pass_64 : decode cX7_pass 64 = .ok (.aload_n 0, 1) := by decide +kernel
theorem dX7_pass_65 : decode cX7_pass 65 = .ok (.getfield 131, 3) := by decide +kernel
theorem dX7_pass_68 : decode cX7_pass 68 = .ok (.bipush 12, 2) := by decide +kernel
theorem dX7_pass_70 : decode cX7_pass 70 = .ok (.isub, 1) := by decide +kernel
theorem dX7_pass_71 : decode cX7_pass 71 = .ok (.putfield 131, 3) := by decide +kernel
theorem dX7_pass_74 : decode cX7_pass 74 = .ok (.aload_n 0, 1) := by decide +kernel
theorem dX7_pass_75 : decode cX7_pass 75 = .ok (.invokevirtual 144, 3) := by decide +kernel
theorem dX7_pass_78 : decode cX7_pass 78 = .ok (.goto (-34), 3) := by decide +kernel
theorem dX7_pass_81 : decode cX7_pass 81 = .ok (.aload_n 0, 1) := by decide +kernel
theorem dX7_pass_82 : decode cX7_pass 82 = .ok (.iconst 0, 1) := by decide +kernel
theorem dX7_pass_83 : decode cX7_pass 83 = .ok (.putfield 134, 3) := by decide +kernel
theorem dX7_pass_86 : decode cX7_pass 86 = .ok (.return_, 1) := by decide +kernel
set_option maxRecDepth 20000 in
theorem ggX7_zero_X7_hl : GoodIn wsX7_zero wsX7_hl := goodIn_r _ [9, 10, 73, 74, 75, 76, 77, 78, 79, 80, 81, 82, 83, 84, 85, 86, 87, 88, 89, 90, 91, 92, 93, 94, 95, 96, 97, 98, 99, 100, 101, 102] (by decide +kernel) (by decide +kernel)
set_option maxRecDepth 20000 in
theorem gX7_zero_X7_hl : GoodIn wsX7_zero (wsV RX7 64 RX7 yX7_hl wsX7_hl) := goodIn_app (goodIn_of _ (by decide +kernel)) ggX7_zero_X7_hl
set_option maxRecDepth 20000 in
theorem ggX7_zero_X7_pair : GoodIn wsX7_zero wsX7_pair := goodIn_r _ [14, 15, 10, 73, 74, 75, 76, 77, 78, 79, 80, 81, 82, 83, 84, 85, 86, 87, 88, 89, 90, 91, 92, 93, 94, 95, 96, 97, 98, 99, 100, 101, 102] (by decide +kernel) (by decide +kernel)
set_option maxRecDepth 20000 in
theorem gX7_zero_X7_pair : GoodIn wsX7_zero (wsV RX7 147 RX7 yX7_pair wsX7_pair) := goodIn_app (goodIn_of _ (by decide +kernel)) ggX7_zero_X7_pair
set_option maxRecDepth 20000 in
theorem ggX7_zero_X7_setPair : GoodIn wsX7_zero wsX7_setPair := goodIn_r _ [19, 2, 15, 10, 73, 74, 75, 76, 77, 78, 79, 80, 81, 82, 83, 84, 85, 86, 87, 88, 89, 90, 91, 92, 93, 94, 95, 96, 97, 98, 99, 100, 101, 102] (by decide +kernel) (by decide +kernel)
set_option maxRecDepth 20000 in
theorem gX7_zero_X7_setPair : GoodIn wsX7_zero (wsV RX7 150 RX7 yX7_setPair wsX7_setPair) := goodIn_app (goodIn_of _ (by decide +kernel)) ggX7_zero_X7_setPair
set_option maxRecDepth 20000 in
theorem ggX7_zero_X7_nextWord : GoodIn wsX7_zero wsX7_nextWord := goodIn_r _ [23, 24, 25, 26, 8, 27, 28, 2, 29, 30, 31, 32, 33, 73, 74, 75, 76, 77, 78, 79, 80, 81, 82, 83, 84, 85, 86, 87, 88, 89, 90, 91, 92, 93, 94, 95, 96, 97, 98, 99, 100, 101, 102] (by decide +kernel) (by decide +kernel)
set_option maxRecDepth 20000 in
theorem gX7_zero_X7_nextWord : GoodIn wsX7_zero (wsV RX7 153 RX7 yX7_nextWord wsX7_nextWord) := goodIn_app (goodIn_of _ (by decide +kernel)) ggX7_zero_X7_nextWord
set_option maxRecDepth 20000 in
theorem ggX7_zero_X7_byAddress : GoodIn wsX7_zero wsX7_byAddress := goodIn_r _ [37, 1, 10, 11, 12, 13, 8, 14, 15, 20, 21, 22, 23, 24, 25, 26, 27, 28, 2, 29, 30, 31, 32, 33, 5, 6, 7, 9, 38, 39, 40, 41, 42, 43, 44, 45, 46, 47, 48, 49, 16, 17, 18, 19, 73, 74, 75, 76, 77, 78, 79, 80, 81, 82, 83, 84, 85, 86, 87, 88, 89, 90, 91, 92, 93, 94, 95, 96, 97, 98, 99, 100, 101, 102] (by decide +kernel) (by decide +kernel)
set_option maxRecDepth 20000 in
theorem gX7_zero_X7_byAddress : GoodIn wsX7_zero (wsV RX7 156 RX7 yX7_byAddress wsX7_byAddress) := goodIn_app (goodIn_of _ (by decide +kernel)) ggX7_zero_X7_byAddress
set_option maxRecDepth 20000 in
theorem ggX7_zero_X7_reg : GoodIn wsX7_zero wsX7_reg := goodIn_r _ [53, 10, 5, 6, 7, 8, 9, 29, 30, 31, 32, 33, 73, 74, 75, 76, 77, 78, 79, 80, 81, 82, 83, 84, 85, 86, 87, 88, 89, 90, 91, 92, 93, 94, 95, 96, 97, 98, 99, 100, 101, 102] (by decide +kernel) (by decide +kernel)
set_option maxRecDepth 20000 in
theorem gX7_zero_X7_reg : GoodIn wsX7_zero (wsV RX7 159 RX7 yX7_reg wsX7_reg) := goodIn_app (goodIn_of _ (by decide +kernel)) ggX7_zero_X7_reg
set_option maxRecDepth 20000 in
theorem ggX7_zero_X7_setReg : GoodIn wsX7_zero wsX7_setReg := goodIn_r _ [57, 10, 5, 6, 7, 8, 9, 42, 43, 44, 45, 33, 73, 74, 75, 76, 77, 78, 79, 80, 81, 82, 83, 84, 85, 86, 87, 88, 89, 90, 91, 92, 93, 94, 95, 96, 97, 98, 99, 100, 101, 102] (by decide +kernel) (by decide +kernel)
set_option maxRecDepth 20000 in
theorem gX7_zero_X7_setReg : GoodIn wsX7_zero (wsV RX7 162 RX7 yX7_setReg wsX7_setReg) := goodIn_app (goodIn_of _ (by decide +kernel)) ggX7_zero_X7_setReg
set_option maxRecDepth 20000 in
theorem ggX7_zero_X7_logic : GoodIn wsX7_zero wsX7_logic := goodIn_r _ [61, 62, 63, 64, 73, 74, 75, 76, 77, 78, 79, 80, 81, 82, 83, 84, 85, 86, 87, 88, 89, 90, 91, 92, 93, 94, 95, 96, 97, 98, 99, 100, 101, 102] (by decide +kernel) (by decide +kernel)
set_option maxRecDepth 20000 in
theorem gX7_zero_X7_logic : GoodIn wsX7_zero (wsV RX7 90 RX7 yX7_logic wsX7_logic) := goodIn_app (goodIn_of _ (by decide +kernel)) ggX7_zero_X7_logic
set_option maxRecDepth 20000 in
theorem ggX7_zero_X7_next : GoodIn wsX7_zero wsX7_next := goodIn_r _ [27, 28, 2, 29, 30, 31, 8, 32, 33, 73, 74, 75, 76, 77, 78, 79, 80, 81, 82, 83, 84, 85, 86, 87, 88, 89, 90, 91, 92, 93, 94, 95, 96, 97, 98, 99, 100, 101, 102] (by decide +kernel) (by decide +kernel)
set_option maxRecDepth 20000 in
theorem gX7_zero_X7_next : GoodIn wsX7_zero (wsV RX7 51 RX7 yX7_next wsX7_next) := goodIn_app (goodIn_of _ (by decide +kernel)) ggX7_zero_X7_next
set_option maxRecDepth 20000 in
theorem ggX7_zero_X7_turn : GoodIn wsX7_zero wsX7_turn := goodIn_r _ [68, 10, 3, 69, 70, 71, 8, 72, 4, 58, 59, 60, 61, 62, 63, 64, 73, 74, 75, 76, 77, 78, 79, 80, 81, 82, 83, 84, 85, 86, 87, 88, 89, 90, 91, 92, 93, 94, 95, 96, 97, 98, 99, 100, 101, 102] (by decide +kernel) (by decide +kernel)
set_option maxRecDepth 20000 in
theorem gX7_zero_X7_turn : GoodIn wsX7_zero (wsV RX7 165 RX7 yX7_turn wsX7_turn) := goodIn_app (goodIn_of _ (by decide +kernel)) ggX7_zero_X7_turn
theorem dX7_zero_0 : decode cX7_zero 0 = .ok (.iload_n 1, 1) := by decide +kernel
theorem dX7_zero_1 : decode cX7_zero 1 = .ok (.iconst 2, 1) := by decide +kernel
theorem dX7_zero_2 : decode cX7_zero 2 = .ok (.idiv, 1) := by decide +kernel
theorem dX7_zero_3 : decode cX7_zero 3 = .ok (.istore_n 3, 1) := by decide +kernel
theorem dX7_zero_4 : decode cX7_zero 4 = .ok (.iload_n 1, 1) := by decide +kernel
theorem dX7_zero_5 : decode cX7_zero 5 = .ok (.iconst 2, 1) := by decide +kernel
theorem dX7_zero_6 : decode cX7_zero 6 = .ok (.irem, 1) := by decide +kernel
theorem dX7_zero_7 : decode cX7_zero 7 = .ok (.iconst 1, 1) := by decide +kernel
theorem dX7_zero_8 : decode cX7_zero 8 = .ok (.if_icmp .ne 7, 3) := by decide +kernel
theorem dX7_zero_11 : decode cX7_zero 11 = .ok (.iconst 1, 1) := by decide +kernel
theorem dX7_zero_12 : decode cX7_zero 12 = .ok (.goto 4, 3) := by decide +kernel
theorem dX7_zero_15 : decode cX7_zero 15 = .ok (.iconst 0, 1) := by decide +kernel
theorem dX7_zero_16 : decode cX7_zero 16 = .ok (.istore 4, 2) := by decide +kernel
theorem dX7_zero_18 : decode cX7_zero 18 = .ok (.iload_n 2, 1) := by decide +kernel
theorem dX7_zero_19 : decode cX7_zero 19 = .ok (.tableswitch 282 0 6 #[41, 49, 110, 118, 153, 153, 253], 41) := by decide +kernel
theorem dX7_zero_60 : decode cX7_zero 60 = .ok (.aload_n 0, 1) := by decide +kernel
theorem dX7_zero_61 : decode cX7_zero 61 = .ok (.iconst 4, 1) := by decide +kernel
theorem dX7_zero_62 : decode cX7_zero 62 = .ok (.putfield 141, 3) := by decide +kernel
theorem dX7_zero_65 : decode cX7_zero 65 = .ok (.goto 246, 3) := by decide +kernel
theorem dX7_zero_68 : decode cX7_zero 68 = .ok (.aload_n 0, 1) := by decide +kernel
theorem dX7_zero_69 : decode cX7_zero 69 = .ok (.bipush 10, 2) := by decide +kernel
theorem dX7_zero_71 : decode cX7_zero 71 = .ok (.putfield 141, 3) := by decide +kernel
theorem dX7_zero_74 : decode cX7_zero 74 = .ok (.iload 4, 2) := by decide +kernel
theorem dX7_zero_76 : decode cX7_zero 76 = .ok (.ifCond .eq 41, 3) := by decide +kernel
theorem dX7_zero_79 : decode cX7_zero 79 = .ok (.aload_n 0, 1) := by decide +kernel
theorem dX7_zero_80 : decode cX7_zero 80 = .ok (.invokevirtual 64, 3) := by decide +kernel
theorem dX7_zero_83 : decode cX7_zero 83 = .ok (.aload_n 0, 1) := by decide +kernel
theorem dX7_zero_84 : decode cX7_zero 84 = .ok (.iload_n 3, 1) := by decide +kernel
theorem dX7_zero_85 : decode cX7_zero 85 = .ok (.invokevirtual 147, 3) := by decide +kernel
theorem dX7_zero_88 : decode cX7_zero 88 = .ok (.iadd, 1) := by decide +kernel
theorem dX7_zero_89 : decode cX7_zero 89 = .ok (.istore 5, 2) := by decide +kernel
theorem dX7_zero_91 : decode cX7_zero 91 = .ok (.aload_n 0, 1) := by decide +kernel
theorem dX7_zero_92 : decode cX7_zero 92 = .ok (.iload 5, 2) := by decide +kernel
theorem dX7_zero_94 : decode cX7_zero 94 = .ok (.ldc 50, 2) := by decide +kernel
theorem dX7_zero_96 : decode cX7_zero 96 = .ok (.if_icmp .le 7, 3) := by decide +kernel
theorem dX7_zero_99 : decode cX7_zero 99 = .ok (.iconst 1, 1) := by decide +kernel
theorem dX7_zero_100 : decode cX7_zero 100 = .ok (.goto 4, 3) := by decide +kernel
theorem dX7_zero_103 : decode cX7_zero 103 = .ok (.iconst 0, 1) := by decide +kernel
theorem dX7_zero_104 : decode cX7_zero 104 = .ok (.putfield 80, 3) := by decide +kernel
theorem dX7_zero_107 : decode cX7_zero 107 = .ok (.aload_n 0, 1) := by decide +kernel
theorem dX7_zero_108 : decode cX7_zero 108 = .ok (.iconst 2, 1) := by decide +kernel
theorem dX7_zero_109 : decode cX7_zero 109 = .ok (.iload 5, 2) := by decide +kernel
theorem dX7_zero_111 : decode cX7_zero 111 = .ok (.invokevirtual 150, 3) := by decide +kernel
theorem dX7_zero_114 : decode cX7_zero 114 = .ok (.goto 197, 3) := by decide +kernel
theorem dX7_zero_117 : decode cX7_zero 117 = .ok (.aload_n 0, 1) := by decide +kernel
theorem dX7_zero_118 : decode cX7_zero 118 = .ok (.iload_n 3, 1) := by decide +kernel
theorem dX7_zero_119 : decode cX7_zero 119 = .ok (.aload_n 0, 1) := by decide +kernel
theorem dX7_zero_120 : decode cX7_zero 120 = .ok (.invokevirtual 153, 3) := by decide +kernel
theorem dX7_zero_123 : decode cX7_zero 123 = .ok (.invokevirtual 150, 3) := by decide +kernel
theorem dX7_zero_126 : decode cX7_zero 126 = .ok (.goto 185, 3) := by decide +kernel
theorem dX7_zero_129 : decode cX7_zero 129 = .ok (.aload_n 0, 1) := by decide +kernel
theorem dX7_zero_130 : decode cX7_zero 130 = .ok (.iload_n 1, 1) := by decide +kernel
theorem dX7_zero_131 : decode cX7_zero 131 = .ok (.invokevirtual 156, 3) := by decide +kernel
theorem dX7_zero_134 : decode cX7_zero 134 = .ok (.goto 177, 3) := by decide +kernel
theorem dX7_zero_137 : decode cX7_zero 137 = .ok (.aload_n 0, 1) := by decide +kernel
theorem dX7_zero_138 : decode cX7_zero 138 = .ok (.iconst 5, 1) := by decide +kernel
theorem dX7_zero_139 : decode cX7_zero 139 = .ok (.putfield 141, 3) := by decide +kernel
theorem dX7_zero_142 : decode cX7_zero 142 = .ok (.aload_n 0, 1) := by decide +kernel
theorem dX7_zero_143 : decode cX7_zero 143 = .ok (.iload_n 3, 1) := by decide +kernel
theorem dX7_zero_144 : decode cX7_zero 144 = .ok (.iload 4, 2) := by decide +kernel
theorem dX7_zero_146 : decode cX7_zero 146 = .ok (.ifCond .eq 13, 3) := by decide +kernel
theorem dX7_zero_149 : decode cX7_zero 149 = .ok (.aload_n 0, 1) := by decide +kernel
theorem dX7_zero_150 : decode cX7_zero 150 = .ok (.iload_n 3, 1) := by decide +kernel
theorem dX7_zero_151 : decode cX7_zero 151 = .ok (.invokevirtual 147, 3) := by decide +kernel
theorem dX7_zero_154 : decode cX7_zero 154 = .ok (.iconst 1, 1) := by decide +kernel
theorem dX7_zero_155 : decode cX7_zero 155 = .ok (.isub, 1) := by decide +kernel
theorem dX7_zero_156 : decode cX7_zero 156 = .ok (.goto 10, 3) := by decide +kernel
theorem dX7_zero_159 : decode cX7_zero 159 = .ok (.aload_n 0, 1) := by decide +kernel
theorem dX7_zero_160 : decode cX7_zero 160 = .ok (.iload_n 3, 1) := by decide +kernel
theorem dX7_zero_161 : decode cX7_zero 161 = .ok (.invokevirtual 147, 3) := by decide +kernel
theorem dX7_zero_164 : decode cX7_zero 164 = .ok (.iconst 1, 1) := by decide +kernel
theorem dX7_zero_165 : decode cX7_zero 165 = .ok (.iadd, 1) := by decide +kernel
theorem dX7_zero_166 : decode cX7_zero 166 = .ok (.invokevirtual 150, 3) := by decide +kernel
theorem dX7_zero_169 : decode cX7_zero 169 = .ok (.goto 142, 3) := by decide +kernel
theorem dX7_zero_172 : decode cX7_zero 172 = .ok (.aload_n 0, 1) := by decide +kernel
theorem dX7_zero_173 : decode cX7_zero 173 = .ok (.iload_n 1, 1) := by decide +kernel
theorem dX7_zero_174 : decode cX7_zero 174 = .ok (.bipush 6, 2) := by decide +kernel
theorem dX7_zero_176 : decode cX7_zero 176 = .ok (.if_icmp .ne 8, 3) := by decide +kernel
theorem dX7_zero_179 : decode cX7_zero 179 = .ok (.bipush 10, 2) := by decide +kernel
theorem dX7_zero_181 : decode cX7_zero 181 = .ok (.goto 4, 3) := by decide +kernel
theorem dX7_zero_184 : decode cX7_zero 184 = .ok (.iconst 5, 1) := by decide +kernel
theorem dX7_zero_185 : decode cX7_zero 185 = .ok (.putfield 141, 3) := by decide +kernel
theorem dX7_zero_188 : decode cX7_zero 188 = .ok (.iload_n 2, 1) := by decide +kernel
theorem dX7_zero_189 : decode cX7_zero 189 = .ok (.iconst 4, 1) := by decide +kernel
theorem dX7_zero_190 : decode cX7_zero 190 = .ok (.if_icmp .ne 13, 3) := by decide +kernel
theorem dX7_zero_193 : decode cX7_zero 193 = .ok (.aload_n 0, 1) := by decide +kernel
theorem dX7_zero_194 : decode cX7_zero 194 = .ok (.iload_n 1, 1) := by decide +kernel
theorem dX7_zero_195 : decode cX7_zero 195 = .ok (.invokevirtual 159, 3) := by decide +kernel
theorem dX7_zero_198 : decode cX7_zero 198 = .ok (.iconst 1, 1) := by decide +kernel
theorem dX7_zero_199 : decode cX7_zero 199 = .ok (.iadd, 1) := by decide +kernel
theorem dX7_zero_200 : decode cX7_zero 200 = .ok (.goto 10, 3) := by decide +kernel
theorem dX7_zero_203 : decode cX7_zero 203 = .ok (.aload_n 0, 1) := by decide +kernel
theorem dX7_zero_204 : decode cX7_zero 204 = .ok (.iload_n 1, 1) := by decide +kernel
theorem dX7_zero_205 : decode cX7_zero 205 = .ok (.invokevirtual 159, 3) := by decide +kernel
theorem dX7_zero_208 : decode cX7_zero 208 = .ok (.iconst 1, 1) := by decide +kernel
theorem dX7_zero_209 : decode cX7_zero 209 = .ok (.isub, 1) := by decide +kernel
theorem dX7_zero_210 : decode cX7_zero 210 = .ok (.sipush 255, 3) := by decide +kernel
theorem dX7_zero_213 : decode cX7_zero 213 = .ok (.iand, 1) := by decide +kernel
theorem dX7_zero_214 : decode cX7_zero 214 = .ok (.istore 5, 2) := by decide +kernel
theorem dX7_zero_216 : decode cX7_zero 216 = .ok (.aload_n 0, 1) := by decide +kernel
theorem dX7_zero_217 : decode cX7_zero 217 = .ok (.iload_n 2, 1) := by decide +kernel
theorem dX7_zero_218 : decode cX7_zero 218 = .ok (.iconst 4, 1) := by decide +kernel
theorem dX7_zero_219 : decode cX7_zero 219 = .ok (.if_icmp .ne 19, 3) := by decide +kernel
theorem dX7_zero_222 : decode cX7_zero 222 = .ok (.iload 5, 2) := by decide +kernel
theorem dX7_zero_224 : decode cX7_zero 224 = .ok (.bipush 15, 2) := by decide +kernel
theorem dX7_zero_226 : decode cX7_zero 226 = .ok (.iand, 1) := by decide +kernel
theorem dX7_zero_227 : decode cX7_zero 227 = .ok (.ifCond .ne 7, 3) := by decide +kernel
theorem dX7_zero_230 : decode cX7_zero 230 = .ok (.iconst 1, 1) := by decide +kernel
theorem dX7_zero_231 : decode cX7_zero 231 = .ok (.goto 22, 3) := by decide +kernel
theorem dX7_zero_234 : decode cX7_zero 234 = .ok (.iconst 0, 1) := by decide +kernel
theorem dX7_zero_235 : decode cX7_zero 235 = .ok (.goto 18, 3) := by decide +kernel
theorem dX7_zero_238 : decode cX7_zero 238 = .ok (.iload 5, 2) := by decide +kernel
theorem dX7_zero_240 : decode cX7_zero 240 = .ok (.bipush 15, 2) := by decide +kernel
theorem dX7_zero_242 : decode cX7_zero 242 = .ok (.iand, 1) := by decide +kernel
theorem dX7_zero_243 : decode cX7_zero 243 = .ok (.bipush 15, 2) := by decide +kernel
theorem dX7_zero_245 : decode cX7_zero 245 = .ok (.if_icmp .eq 7, 3) := by decide +kernel
theorem dX7_zero_248 : decode cX7_zero 248 = .ok (.iconst 1, 1) := by decide +kernel
theorem dX7_zero_249 : decode cX7_zero 249 = .ok (.goto 4, 3) := by decide +kernel
theorem dX7_zero_252 : decode cX7_zero 252 = .ok (.iconst 0, 1) := by decide +kernel
theorem dX7_zero_253 : decode cX7_zero 253 = .ok (.putfield 74, 3) := by decide +kernel
theorem dX7_zero_256 : decode cX7_zero 256 = .ok (.aload_n 0, 1) := by decide +kernel
theorem dX7_zero_257 : decode cX7_zero 257 = .ok (.iload_n 1, 1) := by decide +kernel
theorem dX7_zero_258 : decode cX7_zero 258 = .ok (.iload 5, 2) := by decide +kernel
theorem dX7_zero_260 : decode cX7_zero 260 = .ok (.invokevirtual 162, 3) := by decide +kernel
theorem dX7_zero_263 : decode cX7_zero 263 = .ok (.aload_n 0, 1) := by decide +kernel
theorem dX7_zero_264 : decode cX7_zero 264 = .ok (.iload 5, 2) := by decide +kernel
theorem dX7_zero_266 : decode cX7_zero 266 = .ok (.invokevirtual 90, 3) := by decide +kernel
theorem dX7_zero_269 : decode cX7_zero 269 = .ok (.goto 42, 3) := by decide +kernel
theorem dX7_zero_272 : decode cX7_zero 272 = .ok (.aload_n 0, 1) := by decide +kernel
theorem dX7_zero_273 : decode cX7_zero 273 = .ok (.iload_n 1, 1) := by decide +kernel
theorem dX7_zero_274 : decode cX7_zero 274 = .ok (.bipush 6, 2) := by decide +kernel
theorem dX7_zero_276 : decode cX7_zero 276 = .ok (.if_icmp .ne 8, 3) := by decide +kernel
end
section
theorem dX7_zero_279 : decode cX7_zero 279 = .ok (.bipush 10, 2) := by decide +kernel
theorem dX7_zero_281 : decode cX7_zero 281 = .ok (.goto 5, 3) := by decide +kernel
theorem dX7_zero_284 : decode cX7_zero 284 = .ok (.bipush 7, 2) := by decide +kernel
theorem dX7_zero_286 : decode cX7_zero 286 = .ok (.putfield 141, 3) := by decide +kernel
theorem dX7_zero_289 : decode cX7_zero 289 = .ok (.aload_n 0, 1) := by decide +kernel
theorem dX7_zero_290 : decode cX7_zero 290 = .ok (.iload_n 1, 1) := by decide +kernel
theorem dX7_zero_291 : decode cX7_zero 291 = .ok (.aload_n 0, 1) := by decide +kernel
theorem dX7_zero_292 : decode cX7_zero 292 = .ok (.invokevirtual 51, 3) := by decide +kernel
theorem dX7_zero_295 : decode cX7_zero 295 = .ok (.invokevirtual 162, 3) := by decide +kernel
theorem dX7_zero_298 : decode cX7_zero 298 = .ok (.goto 13, 3) := by decide +kernel
theorem dX7_zero_301 : decode cX7_zero 301 = .ok (.aload_n 0, 1) := by decide +kernel
theorem dX7_zero_302 : decode cX7_zero 302 = .ok (.iconst 4, 1) := by decide +kernel
theorem dX7_zero_303 : decode cX7_zero 303 = .ok (.putfield 141, 3) := by decide +kernel
theorem dX7_zero_306 : decode cX7_zero 306 = .ok (.aload_n 0, 1) := by decide +kernel
theorem dX7_zero_307 : decode cX7_zero 307 = .ok (.iload_n 1, 1) := by decide +kernel
theorem dX7_zero_308 : decode cX7_zero 308 = .ok (.invokevirtual 165, 3) := by decide +kernel
theorem dX7_zero_311 : decode cX7_zero 311 = .ok (.return_, 1) := by decide +kernel
set_option maxRecDepth 20000 in
theorem ggX7_byAddress_X7_pair : GoodIn wsX7_byAddress wsX7_pair := goodIn_r _ [7, 8, 2, 44, 45, 46, 47, 48, 49, 50, 51, 52, 53, 54, 55, 56, 57, 58, 59, 60, 61, 62, 63, 64, 65, 66, 67, 68, 69, 70, 71, 72, 73] (by decide +kernel) (by decide +kernel)
set_option maxRecDepth 20000 in
theorem gX7_byAddress_X7_pair : GoodIn wsX7_byAddress (wsV RX7 147 RX7 yX7_pair wsX7_pair) := goodIn_app (goodIn_of _ (by decide +kernel)) ggX7_byAddress_X7_pair
set_option maxRecDepth 20000 in
theorem ggX7_byAddress_X7_nextWord : GoodIn wsX7_byAddress wsX7_nextWord := goodIn_r _ [12, 13, 14, 15, 6, 16, 17, 18, 19, 20, 21, 22, 23, 44, 45, 46, 47, 48, 49, 50, 51, 52, 53, 54, 55, 56, 57, 58, 59, 60, 61, 62, 63, 64, 65, 66, 67, 68, 69, 70, 71, 72, 73] (by decide +kernel) (by decide +kernel)
set_option maxRecDepth 20000 in
theorem gX7_byAddress_X7_nextWord : GoodIn wsX7_byAddress (wsV RX7 153 RX7 yX7_nextWord wsX7_nextWord) := goodIn_app (goodIn_of _ (by decide +kernel)) ggX7_byAddress_X7_nextWord
set_option maxRecDepth 20000 in
theorem ggX7_byAddress_X7_hl : GoodIn wsX7_byAddress wsX7_hl := goodIn_r _ [27, 2, 44, 45, 46, 47, 48, 49, 50, 51, 52, 53, 54, 55, 56, 57, 58, 59, 60, 61, 62, 63, 64, 65, 66, 67, 68, 69, 70, 71, 72, 73] (by decide +kernel) (by decide +kernel)
set_option maxRecDepth 20000 in
theorem gX7_byAddress_X7_hl : GoodIn wsX7_byAddress (wsV RX7 64 RX7 yX7_hl wsX7_hl) := goodIn_app (goodIn_of _ (by decide +kernel)) ggX7_byAddress_X7_hl
set_option maxRecDepth 20000 in
theorem ggX7_byAddress_X7_setWord : GoodIn wsX7_byAddress wsX7_setWord := goodIn_r _ [31, 32, 33, 34, 6, 35, 23, 44, 45, 46, 47, 48, 49, 50, 51, 52, 53, 54, 55, 56, 57, 58, 59, 60, 61, 62, 63, 64, 65, 66, 67, 68, 69, 70, 71, 72, 73] (by decide +kernel) (by decide +kernel)
set_option maxRecDepth 20000 in
theorem gX7_byAddress_X7_setWord : GoodIn wsX7_byAddress (wsV RX7 58 RX7 yX7_setWord wsX7_setWord) := goodIn_app (goodIn_of _ (by decide +kernel)) ggX7_byAddress_X7_setWord
set_option maxRecDepth 20000 in
theorem ggX7_byAddress_X7_getWord : GoodIn wsX7_byAddress wsX7_getWord := goodIn_r _ [39, 19, 20, 21, 6, 22, 23, 44, 45, 46, 47, 48, 49, 50, 51, 52, 53, 54, 55, 56, 57, 58, 59, 60, 61, 62, 63, 64, 65, 66, 67, 68, 69, 70, 71, 72, 73] (by decide +kernel) (by decide +kernel)
set_option maxRecDepth 20000 in
theorem gX7_byAddress_X7_getWord : GoodIn wsX7_byAddress (wsV RX7 61 RX7 yX7_getWord wsX7_getWord) := goodIn_app (goodIn_of _ (by decide +kernel)) ggX7_byAddress_X7_getWord
set_option maxRecDepth 20000 in
theorem ggX7_byAddress_X7_setPair : GoodIn wsX7_byAddress wsX7_setPair := goodIn_r _ [43, 18, 8, 2, 44, 45, 46, 47, 48, 49, 50, 51, 52, 53, 54, 55, 56, 57, 58, 59, 60, 61, 62, 63, 64, 65, 66, 67, 68, 69, 70, 71, 72, 73] (by decide +kernel) (by decide +kernel)
set_option maxRecDepth 20000 in
theorem gX7_byAddress_X7_setPair : GoodIn wsX7_byAddress (wsV RX7 150 RX7 yX7_setPair wsX7_setPair) := goodIn_app (goodIn_of _ (by decide +kernel)) ggX7_byAddress_X7_setPair
set_option maxRecDepth 20000 in
theorem ggX7_byAddress_X7_set : GoodIn wsX7_byAddress wsX7_set := goodIn_r _ [35, 23, 44, 45, 46, 47, 48, 49, 50, 51, 52, 53, 54, 55, 56, 57, 58, 59, 60, 61, 62, 63, 64, 65, 66, 67, 68, 69, 70, 71, 72, 73] (by decide +kernel) (by decide +kernel)
set_option maxRecDepth 20000 in
theorem gX7_byAddress_X7_set : GoodIn wsX7_byAddress (wsV RX7 43 RX7 yX7_set wsX7_set) := goodIn_app (goodIn_of _ (by decide +kernel)) ggX7_byAddress_X7_set
set_option maxRecDepth 20000 in
theorem ggX7_byAddress_X7_get : GoodIn wsX7_byAddress wsX7_get := goodIn_r _ [22, 23, 44, 45, 46, 47, 48, 49, 50, 51, 52, 53, 54, 55, 56, 57, 58, 59, 60, 61, 62, 63, 64, 65, 66, 67, 68, 69, 70, 71, 72, 73] (by decide +kernel) (by decide +kernel)
set_option maxRecDepth 20000 in
theorem gX7_byAddress_X7_get : GoodIn wsX7_byAddress (wsV RX7 39 RX7 yX7_get wsX7_get) := goodIn_app (goodIn_of _ (by decide +kernel)) ggX7_byAddress_X7_get
theorem dX7_byAddress_0 : decode cX7_byAddress 0 = .ok (.iload_n 1, 1) := by decide +kernel
theorem dX7_byAddress_1 : decode cX7_byAddress 1 = .ok (.iconst 4, 1) := by decide +kernel
theorem dX7_byAddress_2 : decode cX7_byAddress 2 = .ok (.if_icmp .ge 13, 3) := by decide +kernel
theorem dX7_byAddress_5 : decode cX7_byAddress 5 = .ok (.aload_n 0, 1) := by decide +kernel
theorem dX7_byAddress_6 : decode cX7_byAddress 6 = .ok (.iload_n 1, 1) := by decide +kernel
theorem dX7_byAddress_7 : decode cX7_byAddress 7 = .ok (.iconst 2, 1) := by decide +kernel
theorem dX7_byAddress_8 : decode cX7_byAddress 8 = .ok (.idiv, 1) := by decide +kernel
theorem dX7_byAddress_9 : decode cX7_byAddress 9 = .ok (.invokevirtual 147, 3) := by decide +kernel
theorem dX7_byAddress_12 : decode cX7_byAddress 12 = .ok (.goto 7, 3) := by decide +kernel
theorem dX7_byAddress_15 : decode cX7_byAddress 15 = .ok (.aload_n 0, 1) := by decide +kernel
theorem dX7_byAddress_16 : decode cX7_byAddress 16 = .ok (.invokevirtual 153, 3) := by decide +kernel
theorem dX7_byAddress_19 : decode cX7_byAddress 19 = .ok (.istore_n 2, 1) := by decide +kernel
theorem dX7_byAddress_20 : decode cX7_byAddress 20 = .ok (.aload_n 0, 1) := by decide +kernel
theorem dX7_byAddress_21 : decode cX7_byAddress 21 = .ok (.iload_n 1, 1) := by decide +kernel
theorem dX7_byAddress_22 : decode cX7_byAddress 22 = .ok (.iconst 4, 1) := by decide +kernel
theorem dX7_byAddress_23 : decode cX7_byAddress 23 = .ok (.if_icmp .ge 8, 3) := by decide +kernel
theorem dX7_byAddress_26 : decode cX7_byAddress 26 = .ok (.bipush 7, 2) := by decide +kernel
theorem dX7_byAddress_28 : decode cX7_byAddress 28 = .ok (.goto 16, 3) := by decide +kernel
theorem dX7_byAddress_31 : decode cX7_byAddress 31 = .ok (.iload_n 1, 1) := by decide +kernel
theorem dX7_byAddress_32 : decode cX7_byAddress 32 = .ok (.bipush 6, 2) := by decide +kernel
theorem dX7_byAddress_34 : decode cX7_byAddress 34 = .ok (.if_icmp .ge 8, 3) := by decide +kernel
theorem dX7_byAddress_37 : decode cX7_byAddress 37 = .ok (.bipush 16, 2) := by decide +kernel
theorem dX7_byAddress_39 : decode cX7_byAddress 39 = .ok (.goto 5, 3) := by decide +kernel
theorem dX7_byAddress_42 : decode cX7_byAddress 42 = .ok (.bipush 13, 2) := by decide +kernel
theorem dX7_byAddress_44 : decode cX7_byAddress 44 = .ok (.putfield 141, 3) := by decide +kernel
theorem dX7_byAddress_47 : decode cX7_byAddress 47 = .ok (.iload_n 1, 1) := by decide +kernel
theorem dX7_byAddress_48 : decode cX7_byAddress 48 = .ok (.iconst 4, 1) := by decide +kernel
theorem dX7_byAddress_49 : decode cX7_byAddress 49 = .ok (.if_icmp .ne 15, 3) := by decide +kernel
theorem dX7_byAddress_52 : decode cX7_byAddress 52 = .ok (.aload_n 0, 1) := by decide +kernel
theorem dX7_byAddress_53 : decode cX7_byAddress 53 = .ok (.iload_n 2, 1) := by decide +kernel
theorem dX7_byAddress_54 : decode cX7_byAddress 54 = .ok (.aload_n 0, 1) := by decide +kernel
theorem dX7_byAddress_55 : decode cX7_byAddress 55 = .ok (.invokevirtual 64, 3) := by decide +kernel
theorem dX7_byAddress_58 : decode cX7_byAddress 58 = .ok (.invokevirtual 58, 3) := by decide +kernel
theorem dX7_byAddress_61 : decode cX7_byAddress 61 = .ok (.goto 54, 3) := by decide +kernel
theorem dX7_byAddress_64 : decode cX7_byAddress 64 = .ok (.iload_n 1, 1) := by decide +kernel
theorem dX7_byAddress_65 : decode cX7_byAddress 65 = .ok (.iconst 5, 1) := by decide +kernel
theorem dX7_byAddress_66 : decode cX7_byAddress 66 = .ok (.if_icmp .ne 16, 3) := by decide +kernel
theorem dX7_byAddress_69 : decode cX7_byAddress 69 = .ok (.aload_n 0, 1) := by decide +kernel
theorem dX7_byAddress_70 : decode cX7_byAddress 70 = .ok (.iconst 2, 1) := by decide +kernel
theorem dX7_byAddress_71 : decode cX7_byAddress 71 = .ok (.aload_n 0, 1) := by decide +kernel
theorem dX7_byAddress_72 : decode cX7_byAddress 72 = .ok (.iload_n 2, 1) := by decide +kernel
theorem dX7_byAddress_73 : decode cX7_byAddress 73 = .ok (.invokevirtual 61, 3) := by decide +kernel
theorem dX7_byAddress_76 : decode cX7_byAddress 76 = .ok (.invokevirtual 150, 3) := by decide +kernel
theorem dX7_byAddress_79 : decode cX7_byAddress 79 = .ok (.goto 36, 3) := by decide +kernel
theorem dX7_byAddress_82 : decode cX7_byAddress 82 = .ok (.iload_n 1, 1) := by decide +kernel
theorem dX7_byAddress_83 : decode cX7_byAddress 83 = .ok (.iconst 2, 1) := by decide +kernel
theorem dX7_byAddress_84 : decode cX7_byAddress 84 = .ok (.irem, 1) := by decide +kernel
theorem dX7_byAddress_85 : decode cX7_byAddress 85 = .ok (.ifCond .ne 18, 3) := by decide +kernel
theorem dX7_byAddress_88 : decode cX7_byAddress 88 = .ok (.aload_n 0, 1) := by decide +kernel
theorem dX7_byAddress_89 : decode cX7_byAddress 89 = .ok (.iload_n 2, 1) := by decide +kernel
theorem dX7_byAddress_90 : decode cX7_byAddress 90 = .ok (.aload_n 0, 1) := by decide +kernel
theorem dX7_byAddress_91 : decode cX7_byAddress 91 = .ok (.getfield 16, 3) := by decide +kernel
theorem dX7_byAddress_94 : decode cX7_byAddress 94 = .ok (.bipush 7, 2) := by decide +kernel
theorem dX7_byAddress_96 : decode cX7_byAddress 96 = .ok (.iaload, 1) := by decide +kernel
theorem dX7_byAddress_97 : decode cX7_byAddress 97 = .ok (.invokevirtual 43, 3) := by decide +kernel
theorem dX7_byAddress_100 : decode cX7_byAddress 100 = .ok (.goto 15, 3) := by decide +kernel
theorem dX7_byAddress_103 : decode cX7_byAddress 103 = .ok (.aload_n 0, 1) := by decide +kernel
theorem dX7_byAddress_104 : decode cX7_byAddress 104 = .ok (.getfield 16, 3) := by decide +kernel
theorem dX7_byAddress_107 : decode cX7_byAddress 107 = .ok (.bipush 7, 2) := by decide +kernel
theorem dX7_byAddress_109 : decode cX7_byAddress 109 = .ok (.aload_n 0, 1) := by decide +kernel
theorem dX7_byAddress_110 : decode cX7_byAddress 110 = .ok (.iload_n 2, 1) := by decide +kernel
theorem dX7_byAddress_111 : decode cX7_byAddress 111 = .ok (.invokevirtual 39, 3) := by decide +kernel
theorem dX7_byAddress_114 : decode cX7_byAddress 114 = .ok (.iastore, 1) := by decide +kernel
theorem dX7_byAddress_115 : decode cX7_byAddress 115 = .ok (.return_, 1) := by decide +kernel
set_option maxRecDepth 20000 in
theorem ggX7_jumpTo_X7_nextWord : GoodIn wsX7_jumpTo wsX7_nextWord := goodIn_r _ [7, 8, 9, 10, 6, 11, 2, 12, 13, 14, 15, 16, 17, 31, 32, 33, 34, 35, 36, 37, 38, 39, 40, 41, 42, 43, 44, 45, 46, 47, 48, 49, 50, 51, 52, 53, 54, 55, 56, 57, 58, 59, 60] (by decide +kernel) (by decide +kernel)
set_option maxRecDepth 20000 in
theorem gX7_jumpTo_X7_nextWord : GoodIn wsX7_jumpTo (wsV RX7 153 RX7 yX7_nextWord wsX7_nextWord) := goodIn_app (goodIn_of _ (by decide +kernel)) ggX7_jumpTo_X7_nextWord
set_option maxRecDepth 20000 in
theorem ggX7_jumpTo_X7_push : GoodIn wsX7_jumpTo wsX7_push := goodIn_r _ [21, 22, 12, 23, 24, 25, 6, 26, 27, 28, 29, 30, 17, 31, 32, 33, 34, 35, 36, 37, 38, 39, 40, 41, 42, 43, 44, 45, 46, 47, 48, 49, 50, 51, 52, 53, 54, 55, 56, 57, 58, 59, 60] (by decide +kernel) (by decide +kernel)
set_option maxRecDepth 20000 in
theorem gX7_jumpTo_X7_push : GoodIn wsX7_jumpTo (wsV RX7 168 RX7 yX7_push wsX7_push) := goodIn_app (goodIn_of _ (by decide +kernel)) ggX7_jumpTo_X7_push
theorem dX7_jumpTo_0 : decode cX7_jumpTo 0 = .ok (.aload_n 0, 1) := by decide +kernel
theorem dX7_jumpTo_1 : decode cX7_jumpTo 1 = .ok (.invokevirtual 153, 3) := by decide +kernel
theorem dX7_jumpTo_4 : decode cX7_jumpTo 4 = .ok (.istore 4, 2) := by decide +kernel
theorem dX7_jumpTo_6 : decode cX7_jumpTo 6 = .ok (.aload_n 0, 1) := by decide +kernel
theorem dX7_jumpTo_7 : decode cX7_jumpTo 7 = .ok (.iload_n 3, 1) := by decide +kernel
theorem dX7_jumpTo_8 : decode cX7_jumpTo 8 = .ok (.putfield 141, 3) := by decide +kernel
theorem dX7_jumpTo_11 : decode cX7_jumpTo 11 = .ok (.iload_n 1, 1) := by decide +kernel
theorem dX7_jumpTo_12 : decode cX7_jumpTo 12 = .ok (.ifCond .eq 15, 3) := by decide +kernel
theorem dX7_jumpTo_15 : decode cX7_jumpTo 15 = .ok (.iload_n 2, 1) := by decide +kernel
theorem dX7_jumpTo_16 : decode cX7_jumpTo 16 = .ok (.ifCond .eq 11, 3) := by decide +kernel
theorem dX7_jumpTo_19 : decode cX7_jumpTo 19 = .ok (.aload_n 0, 1) := by decide +kernel
theorem dX7_jumpTo_20 : decode cX7_jumpTo 20 = .ok (.aload_n 0, 1) := by decide +kernel
theorem dX7_jumpTo_21 : decode cX7_jumpTo 21 = .ok (.getfield 47, 3) := by decide +kernel
theorem dX7_jumpTo_24 : decode cX7_jumpTo 24 = .ok (.invokevirtual 168, 3) := by decide +kernel
theorem dX7_jumpTo_27 : decode cX7_jumpTo 27 = .ok (.aload_n 0, 1) := by decide +kernel
theorem dX7_jumpTo_28 : decode cX7_jumpTo 28 = .ok (.iload_n 1, 1) := by decide +kernel
theorem dX7_jumpTo_29 : decode cX7_jumpTo 29 = .ok (.ifCond .eq 8, 3) := by decide +kernel
theorem dX7_jumpTo_32 : decode cX7_jumpTo 32 = .ok (.iload 4, 2) := by decide +kernel
theorem dX7_jumpTo_34 : decode cX7_jumpTo 34 = .ok (.goto 7, 3) := by decide +kernel
theorem dX7_jumpTo_37 : decode cX7_jumpTo 37 = .ok (.aload_n 0, 1) := by decide +kernel
theorem dX7_jumpTo_38 : decode cX7_jumpTo 38 = .ok (.getfield 47, 3) := by decide +kernel
theorem dX7_jumpTo_41 : decode cX7_jumpTo 41 = .ok (.putfield 47, 3) := by decide +kernel
theorem dX7_jumpTo_44 : decode cX7_jumpTo 44 = .ok (.return_, 1) := by decide +kernel
set_option maxRecDepth 20000 in
theorem ggX7_three_X7_holds : GoodIn wsX7_three wsX7_holds := goodIn_r _ [8, 9, 10, 11, 12, 121, 122, 123, 124, 125, 126, 127, 128, 129, 130, 131, 132, 133, 134, 135, 136, 137, 138, 139, 140, 141, 142, 143, 144, 145, 146, 147, 148, 149, 150] (by decide +kernel) (by decide +kernel)
set_option maxRecDepth 20000 in
theorem gX7_three_X7_holds : GoodIn wsX7_three (wsV RX7 171 RX7 yX7_holds wsX7_holds) := goodIn_app (goodIn_of _ (by decide +kernel)) ggX7_three_X7_holds
set_option maxRecDepth 20000 in
theorem ggX7_three_X7_pop : GoodIn wsX7_three wsX7_pop := goodIn_r _ [16, 17, 18, 19, 20, 21, 7, 22, 23, 24, 25, 26, 27, 121, 122, 123, 124, 125, 126, 127, 128, 129, 130, 131, 132, 133, 134, 135, 136, 137, 138, 139, 140, 141, 142, 143, 144, 145, 146, 147, 148, 149, 150] (by decide +kernel) (by decide +kernel)
set_option maxRecDepth 20000 in
theorem gX7_three_X7_pop : GoodIn wsX7_three (wsV RX7 174 RX7 yX7_pop wsX7_pop) := goodIn_app (goodIn_of _ (by decide +kernel)) ggX7_three_X7_pop
set_option maxRecDepth 20000 in
theorem ggX7_three_X7_single : GoodIn wsX7_three wsX7_single := goodIn_r _ [31, 1, 3, 2, 17, 13, 14, 15, 7, 16, 18, 19, 20, 21, 22, 23, 24, 25, 26, 27, 32, 33, 34, 35, 12, 9, 36, 11, 10, 37, 38, 39, 40, 41, 42, 43, 44, 121, 122, 123, 124, 125, 126, 127, 128, 129, 130, 131, 132, 133, 134, 135, 136, 137, 138, 139, 140, 141, 142, 143, 144, 145, 146, 147, 148, 149, 150] (by decide +kernel) (by decide +kernel)
set_option maxRecDepth 20000 in
theorem gX7_three_X7_single : GoodIn wsX7_three (wsV RX7 177 RX7 yX7_single wsX7_single) := goodIn_app (goodIn_of _ (by decide +kernel)) ggX7_three_X7_single
set_option maxRecDepth 20000 in
theorem ggX7_three_X7_jumpTo : GoodIn wsX7_three wsX7_jumpTo := goodIn_r _ [48, 1, 2, 49, 50, 51, 7, 52, 53, 54, 55, 56, 18, 23, 24, 25, 26, 27, 57, 58, 59, 60, 17, 61, 62, 63, 64, 65, 66, 67, 68, 121, 122, 123, 124, 125, 126, 127, 128, 129, 130, 131, 132, 133, 134, 135, 136, 137, 138, 139, 140, 141, 142, 143, 144, 145, 146, 147, 148, 149, 150] (by decide +kernel) (by decide +kernel)
set_option maxRecDepth 20000 in
theorem gX7_three_X7_jumpTo : GoodIn wsX7_three (wsV RX7 180 RX7 yX7_jumpTo wsX7_jumpTo) := goodIn_app (goodIn_of _ (by decide +kernel)) ggX7_three_X7_jumpTo
set_option maxRecDepth 20000 in
theorem ggX7_three_X7_special : GoodIn wsX7_three wsX7_special := goodIn_r _ [72, 1, 2, 3, 17, 73, 74, 49, 50, 51, 7, 52, 53, 54, 55, 56, 18, 23, 24, 25, 26, 27, 75, 76, 77, 78, 79, 80, 81, 82, 83, 84, 85, 86, 87, 88, 89, 90, 91, 92, 93, 94, 95, 96, 19, 20, 21, 22, 41, 42, 43, 44, 61, 62, 63, 64, 65, 66, 67, 68, 37, 38, 39, 40, 97, 98, 99, 100, 121, 122, 123, 124, 125, 126, 127, 128, 129, 130, 131, 132, 133, 134, 135, 136, 137, 138, 139, 140, 141, 142, 143, 144, 145, 146, 147, 148, 149, 150] (by decide +kernel) (by decide +kernel)
set_option maxRecDepth 20000 in
theorem gX7_three_X7_special : GoodIn wsX7_three (wsV RX7 184 RX7 yX7_special wsX7_special) := goodIn_app (goodIn_of _ (by decide +kernel)) ggX7_three_X7_special
set_option maxRecDepth 20000 in
theorem ggX7_three_X7_flags : GoodIn wsX7_three wsX7_flags := goodIn_r _ [104, 12, 9, 36, 11, 10, 121, 122, 123, 124, 125, 126, 127, 128, 129, 130, 131, 132, 133, 134, 135, 136, 137, 138, 139, 140, 141, 142, 143, 144, 145, 146, 147, 148, 149, 150] (by decide +kernel) (by decide +kernel)
set_option maxRecDepth 20000 in
theorem gX7_three_X7_flags : GoodIn wsX7_three (wsV RX7 83 RX7 yX7_flags wsX7_flags) := goodIn_app (goodIn_of _ (by decide +kernel)) ggX7_three_X7_flags
set_option maxRecDepth 20000 in
theorem ggX7_three_X7_pair : GoodIn wsX7_three wsX7_pair := goodIn_r _ [100, 17, 3, 121, 122, 123, 124, 125, 126, 127, 128, 129, 130, 131, 132, 133, 134, 135, 136, 137, 138, 139, 140, 141, 142, 143, 144, 145, 146, 147, 148, 149, 150] (by decide +kernel) (by decide +kernel)
set_option maxRecDepth 20000 in
theorem gX7_three_X7_pair : GoodIn wsX7_three (wsV RX7 147 RX7 yX7_pair wsX7_pair) := goodIn_app (goodIn_of _ (by decide +kernel)) ggX7_three_X7_pair
set_option maxRecDepth 20000 in
theorem ggX7_three_X7_push : GoodIn wsX7_three wsX7_push := goodIn_r _ [60, 17, 18, 61, 62, 63, 7, 64, 65, 66, 67, 68, 27, 121, 122, 123, 124, 125, 126, 127, 128, 129, 130, 131, 132, 133, 134, 135, 136, 137, 138, 139, 140, 141, 142, 143, 144, 145, 146, 147, 148, 149, 150] (by decide +kernel) (by decide +kernel)
set_option maxRecDepth 20000 in
theorem gX7_three_X7_push : GoodIn wsX7_three (wsV RX7 168 RX7 yX7_push wsX7_push) := goodIn_app (goodIn_of _ (by decide +kernel)) ggX7_three_X7_push
set_option maxRecDepth 20000 in
theorem ggX7_three_X7_next : GoodIn wsX7_three wsX7_next := goodIn_r _ [56, 2, 18, 23, 24, 25, 7, 26, 27, 121, 122, 123, 124, 125, 126, 127, 128, 129, 130, 131, 132, 133, 134, 135, 136, 137, 138, 139, 140, 141, 142, 143, 144, 145, 146, 147, 148, 149, 150] (by decide +kernel) (by decide +kernel)
set_option maxRecDepth 20000 in
theorem gX7_three_X7_next : GoodIn wsX7_three (wsV RX7 51 RX7 yX7_next wsX7_next) := goodIn_app (goodIn_of _ (by decide +kernel)) ggX7_three_X7_next
set_option maxRecDepth 20000 in
theorem ggX7_three_X7_reckon : GoodIn wsX7_three wsX7_reckon := goodIn_r _ [108, 3, 10, 36, 109, 110, 111, 7, 112, 113, 114, 115, 116, 12, 9, 11, 117, 118, 119, 120, 121, 122, 123, 124, 125, 126, 127, 128, 129, 130, 131, 132, 133, 134, 135, 136, 137, 138, 139, 140, 141, 142, 143, 144, 145, 146, 147, 148, 149, 150] (by decide +kernel) (by decide +kernel)
set_option maxRecDepth 20000 in
theorem gX7_three_X7_reckon : GoodIn wsX7_three (wsV RX7 187 RX7 yX7_reckon wsX7_reckon) := goodIn_app (goodIn_of _ (by decide +kernel)) ggX7_three_X7_reckon
theorem dX7_three_0 : decode cX7_three 0 = .ok (.iload_n 1, 1) := by decide +kernel
theorem dX7_three_1 : decode cX7_three 1 = .ok (.iconst 2, 1) := by decide +kernel
theorem dX7_three_2 : decode cX7_three 2 = .ok (.irem, 1) := by decide +kernel
theorem dX7_three_3 : decode cX7_three 3 = .ok (.iconst 1, 1) := by decide +kernel
theorem dX7_three_4 : decode cX7_three 4 = .ok (.if_icmp .ne 7, 3) := by decide +kernel
theorem dX7_three_7 : decode cX7_three 7 = .ok (.iconst 1, 1) := by decide +kernel
theorem dX7_three_8 : decode cX7_three 8 = .ok (.goto 4, 3) := by decide +kernel
theorem dX7_three_11 : decode cX7_three 11 = .ok (.iconst 0, 1) := by decide +kernel
theorem dX7_three_12 : decode cX7_three 12 = .ok (.istore_n 3, 1) := by decide +kernel
theorem dX7_three_13 : decode cX7_three 13 = .ok (.iload_n 2, 1) := by decide +kernel
theorem dX7_three_14 : decode cX7_three 14 = .ok (.tableswitch 222 0 6 #[42, 86, 94, 109, 117, 145, 204], 42) := by decide +kernel
theorem dX7_three_56 : decode cX7_three 56 = .ok (.aload_n 0, 1) := by decide +kernel
theorem dX7_three_57 : decode cX7_three 57 = .ok (.aload_n 0, 1) := by decide +kernel
theorem dX7_three_58 : decode cX7_three 58 = .ok (.iload_n 1, 1) := by decide +kernel
theorem dX7_three_59 : decode cX7_three 59 = .ok (.invokevirtual 171, 3) := by decide +kernel
theorem dX7_three_62 : decode cX7_three 62 = .ok (.ifCond .eq 8, 3) := by decide +kernel
theorem dX7_three_65 : decode cX7_three 65 = .ok (.bipush 11, 2) := by decide +kernel
theorem dX7_three_67 : decode cX7_three 67 = .ok (.goto 4, 3) := by decide +kernel
theorem dX7_three_70 : decode cX7_three 70 = .ok (.iconst 5, 1) := by decide +kernel
theorem dX7_three_71 : decode cX7_three 71 = .ok (.putfield 141, 3) := by decide +kernel
theorem dX7_three_74 : decode cX7_three 74 = .ok (.aload_n 0, 1) := by decide +kernel
theorem dX7_three_75 : decode cX7_three 75 = .ok (.aload_n 0, 1) := by decide +kernel
theorem dX7_three_76 : decode cX7_three 76 = .ok (.iload_n 1, 1) := by decide +kernel
theorem dX7_three_77 : decode cX7_three 77 = .ok (.invokevirtual 171, 3) := by decide +kernel
theorem dX7_three_80 : decode cX7_three 80 = .ok (.ifCond .eq 10, 3) := by decide +kernel
theorem dX7_three_83 : decode cX7_three 83 = .ok (.aload_n 0, 1) := by decide +kernel
theorem dX7_three_84 : decode cX7_three 84 = .ok (.invokevirtual 174, 3) := by decide +kernel
theorem dX7_three_87 : decode cX7_three 87 = .ok (.goto 7, 3) := by decide +kernel
theorem dX7_three_90 : decode cX7_three 90 = .ok (.aload_n 0, 1) := by decide +kernel
theorem dX7_three_91 : decode cX7_three 91 = .ok (.getfield 47, 3) := by decide +kernel
theorem dX7_three_94 : decode cX7_three 94 = .ok (.putfield 47, 3) := by decide +kernel
theorem dX7_three_97 : decode cX7_three 97 = .ok (.goto 161, 3) := by decide +kernel
theorem dX7_three_100 : decode cX7_three 100 = .ok (.aload_n 0, 1) := by decide +kernel
theorem dX7_three_101 : decode cX7_three 101 = .ok (.iload_n 1, 1) := by decide +kernel
theorem dX7_three_102 : decode cX7_three 102 = .ok (.invokevirtual 177, 3) := by decide +kernel
theorem dX7_three_105 : decode cX7_three 105 = .ok (.goto 153, 3) := by decide +kernel
theorem dX7_three_108 : decode cX7_three 108 = .ok (.aload_n 0, 1) := by decide +kernel
theorem dX7_three_109 : decode cX7_three 109 = .ok (.aload_n 0, 1) := by decide +kernel
theorem dX7_three_110 : decode cX7_three 110 = .ok (.iload_n 1, 1) := by decide +kernel
theorem dX7_three_111 : decode cX7_three 111 = .ok (.invokevirtual 171, 3) := by decide +kernel
theorem dX7_three_114 : decode cX7_three 114 = .ok (.iconst 0, 1) := by decide +kernel
theorem dX7_three_115 : decode cX7_three 115 = .ok (.bipush 10, 2) := by decide +kernel
theorem dX7_three_117 : decode cX7_three 117 = .ok (.invokevirtual 180, 3) := by decide +kernel
theorem dX7_three_120 : decode cX7_three 120 = .ok (.goto 138, 3) := by decide +kernel
theorem dX7_three_123 : decode cX7_three 123 = .ok (.aload_n 0, 1) := by decide +kernel
theorem dX7_three_124 : decode cX7_three 124 = .ok (.iload_n 1, 1) := by decide +kernel
theorem dX7_three_125 : decode cX7_three 125 = .ok (.invokevirtual 184, 3) := by decide +kernel
theorem dX7_three_128 : decode cX7_three 128 = .ok (.goto 130, 3) := by decide +kernel
theorem dX7_three_131 : decode cX7_three 131 = .ok (.aload_n 0, 1) := by decide +kernel
theorem dX7_three_132 : decode cX7_three 132 = .ok (.aload_n 0, 1) := by decide +kernel
theorem dX7_three_133 : decode cX7_three 133 = .ok (.iload_n 1, 1) := by decide +kernel
theorem dX7_three_134 : decode cX7_three 134 = .ok (.invokevirtual 171, 3) := by decide +kernel
theorem dX7_three_137 : decode cX7_three 137 = .ok (.iconst 1, 1) := by decide +kernel
theorem dX7_three_138 : decode cX7_three 138 = .ok (.aload_n 0, 1) := by decide +kernel
theorem dX7_three_139 : decode cX7_three 139 = .ok (.iload_n 1, 1) := by decide +kernel
theorem dX7_three_140 : decode cX7_three 140 = .ok (.invokevirtual 171, 3) := by decide +kernel
theorem dX7_three_143 : decode cX7_three 143 = .ok (.ifCond .eq 8, 3) := by decide +kernel
theorem dX7_three_146 : decode cX7_three 146 = .ok (.bipush 17, 2) := by decide +kernel
theorem dX7_three_148 : decode cX7_three 148 = .ok (.goto 5, 3) := by decide +kernel
theorem dX7_three_151 : decode cX7_three 151 = .ok (.bipush 11, 2) := by decide +kernel
theorem dX7_three_153 : decode cX7_three 153 = .ok (.invokevirtual 180, 3) := by decide +kernel
theorem dX7_three_156 : decode cX7_three 156 = .ok (.goto 102, 3) := by decide +kernel
theorem dX7_three_159 : decode cX7_three 159 = .ok (.iload_n 3, 1) := by decide +kernel
theorem dX7_three_160 : decode cX7_three 160 = .ok (.ifCond .eq 14, 3) := by decide +kernel
theorem dX7_three_163 : decode cX7_three 163 = .ok (.aload_n 0, 1) := by decide +kernel
theorem dX7_three_164 : decode cX7_three 164 = .ok (.iconst 1, 1) := by decide +kernel
theorem dX7_three_165 : decode cX7_three 165 = .ok (.iconst 1, 1) := by decide +kernel
theorem dX7_three_166 : decode cX7_three 166 = .ok (.bipush 17, 2) := by decide +kernel
theorem dX7_three_168 : decode cX7_three 168 = .ok (.invokevirtual 180, 3) := by decide +kernel
theorem dX7_three_171 : decode cX7_three 171 = .ok (.goto 87, 3) := by decide +kernel
theorem dX7_three_174 : decode cX7_three 174 = .ok (.aload_n 0, 1) := by decide +kernel
theorem dX7_three_175 : decode cX7_three 175 = .ok (.bipush 11, 2) := by decide +kernel
theorem dX7_three_177 : decode cX7_three 177 = .ok (.putfield 141, 3) := by decide +kernel
theorem dX7_three_180 : decode cX7_three 180 = .ok (.aload_n 0, 1) := by decide +kernel
theorem dX7_three_181 : decode cX7_three 181 = .ok (.iload_n 1, 1) := by decide +kernel
theorem dX7_three_182 : decode cX7_three 182 = .ok (.bipush 6, 2) := by decide +kernel
theorem dX7_three_184 : decode cX7_three 184 = .ok (.if_icmp .ne 21, 3) := by decide +kernel
theorem dX7_three_187 : decode cX7_three 187 = .ok (.aload_n 0, 1) := by decide +kernel
theorem dX7_three_188 : decode cX7_three 188 = .ok (.getfield 16, 3) := by decide +kernel
theorem dX7_three_191 : decode cX7_three 191 = .ok (.bipush 7, 2) := by decide +kernel
theorem dX7_three_193 : decode cX7_three 193 = .ok (.iaload, 1) := by decide +kernel
theorem dX7_three_194 : decode cX7_three 194 = .ok (.bipush 8, 2) := by decide +kernel
theorem dX7_three_196 : decode cX7_three 196 = .ok (.ishl, 1) := by decide +kernel
theorem dX7_three_197 : decode cX7_three 197 = .ok (.aload_n 0, 1) := by decide +kernel
theorem dX7_three_198 : decode cX7_three 198 = .ok (.invokevirtual 83, 3) := by decide +kernel
theorem dX7_three_201 : decode cX7_three 201 = .ok (.ior, 1) := by decide +kernel
theorem dX7_three_202 : decode cX7_three 202 = .ok (.goto 10, 3) := by decide +kernel
theorem dX7_three_205 : decode cX7_three 205 = .ok (.aload_n 0, 1) := by decide +kernel
theorem dX7_three_206 : decode cX7_three 206 = .ok (.iload_n 1, 1) := by decide +kernel
theorem dX7_three_207 : decode cX7_three 207 = .ok (.iconst 2, 1) := by decide +kernel
theorem dX7_three_208 : decode cX7_three 208 = .ok (.idiv, 1) := by decide +kernel
theorem dX7_three_209 : decode cX7_three 209 = .ok (.invokevirtual 147, 3) := by decide +kernel
theorem dX7_three_212 : decode cX7_three 212 = .ok (.invokevirtual 168, 3) := by decide +kernel
theorem dX7_three_215 : decode cX7_three 215 = .ok (.goto 43, 3) := by decide +kernel
theorem dX7_three_218 : decode cX7_three 218 = .ok (.aload_n 0, 1) := by decide +kernel
theorem dX7_three_219 : decode cX7_three 219 = .ok (.bipush 7, 2) := by decide +kernel
theorem dX7_three_221 : decode cX7_three 221 = .ok (.putfield 141, 3) := by decide +kernel
theorem dX7_three_224 : decode cX7_three 224 = .ok (.aload_n 0, 1) := by decide +kernel
theorem dX7_three_225 : decode cX7_three 225 = .ok (.iload_n 1, 1) := by decide +kernel
theorem dX7_three_226 : decode cX7_three 226 = .ok (.aload_n 0, 1) := by decide +kernel
theorem dX7_three_227 : decode cX7_three 227 = .ok (.invokevirtual 51, 3) := by decide +kernel
theorem dX7_three_230 : decode cX7_three 230 = .ok (.invokevirtual 187, 3) := by decide +kernel
theorem dX7_three_233 : decode cX7_three 233 = .ok (.goto 25, 3) := by decide +kernel
theorem dX7_three_236 : decode cX7_three 236 = .ok (.aload_n 0, 1) := by decide +kernel
theorem dX7_three_237 : decode cX7_three 237 = .ok (.bipush 11, 2) := by decide +kernel
theorem dX7_three_239 : decode cX7_three 239 = .ok (.putfield 141, 3) := by decide +kernel
theorem dX7_three_242 : decode cX7_three 242 = .ok (.aload_n 0, 1) := by decide +kernel
theorem dX7_three_243 : decode cX7_three 243 = .ok (.aload_n 0, 1) := by decide +kernel
theorem dX7_three_244 : decode cX7_three 244 = .ok (.getfield 47, 3) := by decide +kernel
theorem dX7_three_247 : decode cX7_three 247 = .ok (.invokevirtual 168, 3) := by decide +kernel
theorem dX7_three_250 : decode cX7_three 250 = .ok (.aload_n 0, 1) := by decide +kernel
theorem dX7_three_251 : decode cX7_three 251 = .ok (.bipush 8, 2) := by decide +kernel
theorem dX7_three_253 : decode cX7_three 253 = .ok (.iload_n 1, 1) := by decide +kernel
theorem dX7_three_254 : decode cX7_three 254 = .ok (.imul, 1) := by decide +kernel
theorem dX7_three_255 : decode cX7_three 255 = .ok (.putfield 47, 3) := by decide +kernel
theorem dX7_three_258 : decode cX7_three 258 = .ok (.return_, 1) := by decide +kernel
set_option maxRecDepth 20000 in
theorem ggX7_single_X7_pop : GoodIn wsX7_single wsX7_pop := goodIn_r _ [9, 4, 10, 11, 12, 13, 8, 14, 15, 16, 17, 18, 19, 37, 38, 39, 40, 41, 42, 43, 44, 45, 46, 47, 48, 49, 50, 51, 52, 53, 54, 55, 56, 57, 58, 59, 60, 61, 62, 63, 64, 65, 66] (by decide +kernel) (by decide +kernel)
set_option maxRecDepth 20000 in
theorem gX7_single_X7_pop : GoodIn wsX7_single (wsV RX7 174 RX7 yX7_pop wsX7_pop) := goodIn_app (goodIn_of _ (by decide +kernel)) ggX7_single_X7_pop
set_option maxRecDepth 20000 in
theorem ggX7_single_X7_setFlags : GoodIn wsX7_single wsX7_setFlags := goodIn_r _ [23, 24, 25, 26, 27, 28, 37, 38, 39, 40, 41, 42, 43, 44, 45, 46, 47, 48, 49, 50, 51, 52, 53, 54, 55, 56, 57, 58, 59, 60, 61, 62, 63, 64, 65, 66] (by decide +kernel) (by decide +kernel)
set_option maxRecDepth 20000 in
theorem gX7_single_X7_setFlags : GoodIn wsX7_single (wsV RX7 86 RX7 yX7_setFlags wsX7_setFlags) := goodIn_app (goodIn_of _ (by decide +kernel)) ggX7_single_X7_setFlags
set_option maxRecDepth 20000 in
theorem ggX7_single_X7_setPair : GoodIn wsX7_single wsX7_setPair := goodIn_r _ [32, 10, 4, 2, 37, 38, 39, 40, 41, 42, 43, 44, 45, 46, 47, 48, 49, 50, 51, 52, 53, 54, 55, 56, 57, 58, 59, 60, 61, 62, 63, 64, 65, 66] (by decide +kernel) (by decide +kernel)
set_option maxRecDepth 20000 in
theorem gX7_single_X7_setPair : GoodIn wsX7_single (wsV RX7 150 RX7 yX7_setPair wsX7_setPair) := goodIn_app (goodIn_of _ (by decide +kernel)) ggX7_single_X7_setPair
set_option maxRecDepth 20000 in
theorem ggX7_single_X7_hl : GoodIn wsX7_single wsX7_hl := goodIn_r _ [36, 2, 37, 38, 39, 40, 41, 42, 43, 44, 45, 46, 47, 48, 49, 50, 51, 52, 53, 54, 55, 56, 57, 58, 59, 60, 61, 62, 63, 64, 65, 66] (by decide +kernel) (by decide +kernel)
set_option maxRecDepth 20000 in
theorem gX7_single_X7_hl : GoodIn wsX7_single (wsV RX7 64 RX7 yX7_hl wsX7_hl) := goodIn_app (goodIn_of _ (by decide +kernel)) ggX7_single_X7_hl
theorem dX7_single_0 : decode cX7_single 0 = .ok (.aload_n 0, 1) := by decide +kernel
theorem dX7_single_1 : decode cX7_single 1 = .ok (.iload_n 1, 1) := by decide +kernel
theorem dX7_single_2 : decode cX7_single 2 = .ok (.iconst 5, 1) := by decide +kernel
theorem dX7_single_3 : decode cX7_single 3 = .ok (.if_icmp .eq 9, 3) := by decide +kernel
theorem dX7_single_6 : decode cX7_single 6 = .ok (.iload_n 1, 1) := by decide +kernel
theorem dX7_single_7 : decode cX7_single 7 = .ok (.bipush 7, 2) := by decide +kernel
theorem dX7_single_9 : decode cX7_single 9 = .ok (.if_icmp .ne 7, 3) := by decide +kernel
theorem dX7_single_12 : decode cX7_single 12 = .ok (.iconst 5, 1) := by decide +kernel
theorem dX7_single_13 : decode cX7_single 13 = .ok (.goto 5, 3) := by decide +kernel
theorem dX7_single_16 : decode cX7_single 16 = .ok (.bipush 10, 2) := by decide +kernel
theorem dX7_single_18 : decode cX7_single 18 = .ok (.putfield 141, 3) := by decide +kernel
theorem dX7_single_21 : decode cX7_single 21 = .ok (.iload_n 1, 1) := by decide +kernel
theorem dX7_single_22 : decode cX7_single 22 = .ok (.bipush 6, 2) := by decide +kernel
theorem dX7_single_24 : decode cX7_single 24 = .ok (.if_icmp .ne 27, 3) := by decide +kernel
theorem dX7_single_27 : decode cX7_single 27 = .ok (.aload_n 0, 1) := by decide +kernel
theorem dX7_single_28 : decode cX7_single 28 = .ok (.invokevirtual 174, 3) := by decide +kernel
theorem dX7_single_31 : decode cX7_single 31 = .ok (.istore_n 2, 1) := by decide +kernel
theorem dX7_single_32 : decode cX7_single 32 = .ok (.aload_n 0, 1) := by decide +kernel
theorem dX7_single_33 : decode cX7_single 33 = .ok (.getfield 16, 3) := by decide +kernel
theorem dX7_single_36 : decode cX7_single 36 = .ok (.bipush 7, 2) := by decide +kernel
theorem dX7_single_38 : decode cX7_single 38 = .ok (.iload_n 2, 1) := by decide +kernel
theorem dX7_single_39 : decode cX7_single 39 = .ok (.bipush 8, 2) := by decide +kernel
theorem dX7_single_41 : decode cX7_single 41 = .ok (.ishr, 1) := by decide +kernel
theorem dX7_single_42 : decode cX7_single 42 = .ok (.iastore, 1) := by decide +kernel
theorem dX7_single_43 : decode cX7_single 43 = .ok (.aload_n 0, 1) := by decide +kernel
theorem dX7_single_44 : decode cX7_single 44 = .ok (.iload_n 2, 1) := by decide +kernel
theorem dX7_single_45 : decode cX7_single 45 = .ok (.invokevirtual 86, 3) := by decide +kernel
theorem dX7_single_48 : decode cX7_single 48 = .ok (.goto 63, 3) := by decide +kernel
theorem dX7_single_51 : decode cX7_single 51 = .ok (.iload_n 1, 1) := by decide +kernel
theorem dX7_single_52 : decode cX7_single 52 = .ok (.iconst 2, 1) := by decide +kernel
theorem dX7_single_53 : decode cX7_single 53 = .ok (.irem, 1) := by decide +kernel
theorem dX7_single_54 : decode cX7_single 54 = .ok (.ifCond .ne 17, 3) := by decide +kernel
theorem dX7_single_57 : decode cX7_single 57 = .ok (.aload_n 0, 1) := by decide +kernel
theorem dX7_single_58 : decode cX7_single 58 = .ok (.iload_n 1, 1) := by decide +kernel
theorem dX7_single_59 : decode cX7_single 59 = .ok (.iconst 2, 1) := by decide +kernel
theorem dX7_single_60 : decode cX7_single 60 = .ok (.idiv, 1) := by decide +kernel
theorem dX7_single_61 : decode cX7_single 61 = .ok (.aload_n 0, 1) := by decide +kernel
theorem dX7_single_62 : decode cX7_single 62 = .ok (.invokevirtual 174, 3) := by decide +kernel
theorem dX7_single_65 : decode cX7_single 65 = .ok (.invokevirtual 150, 3) := by decide +kernel
theorem dX7_single_68 : decode cX7_single 68 = .ok (.goto 43, 3) := by decide +kernel
theorem dX7_single_71 : decode cX7_single 71 = .ok (.iload_n 1, 1) := by decide +kernel
theorem dX7_single_72 : decode cX7_single 72 = .ok (.iconst 4, 1) := by decide +kernel
theorem dX7_single_73 : decode cX7_single 73 = .ok (.if_icmp .ge 14, 3) := by decide +kernel
theorem dX7_single_76 : decode cX7_single 76 = .ok (.aload_n 0, 1) := by decide +kernel
theorem dX7_single_77 : decode cX7_single 77 = .ok (.aload_n 0, 1) := by decide +kernel
theorem dX7_single_78 : decode cX7_single 78 = .ok (.invokevirtual 174, 3) := by decide +kernel
theorem dX7_single_81 : decode cX7_single 81 = .ok (.putfield 47, 3) := by decide +kernel
theorem dX7_single_84 : decode cX7_single 84 = .ok (.goto 27, 3) := by decide +kernel
theorem dX7_single_87 : decode cX7_single 87 = .ok (.iload_n 1, 1) := by decide +kernel
theorem dX7_single_88 : decode cX7_single 88 = .ok (.iconst 5, 1) := by decide +kernel
theorem dX7_single_89 : decode cX7_single 89 = .ok (.if_icmp .ne 14, 3) := by decide +kernel
theorem dX7_single_92 : decode cX7_single 92 = .ok (.aload_n 0, 1) := by decide +kernel
theorem dX7_single_93 : decode cX7_single 93 = .ok (.aload_n 0, 1) := by decide +kernel
theorem dX7_single_94 : decode cX7_single 94 = .ok (.invokevirtual 64, 3) := by decide +kernel
theorem dX7_single_97 : decode cX7_single 97 = .ok (.putfield 47, 3) := by decide +kernel
theorem dX7_single_100 : decode cX7_single 100 = .ok (.goto 11, 3) := by decide +kernel
theorem dX7_single_103 : decode cX7_single 103 = .ok (.aload_n 0, 1) := by decide +kernel
theorem dX7_single_104 : decode cX7_single 104 = .ok (.aload_n 0, 1) := by decide +kernel
theorem dX7_single_105 : decode cX7_single 105 = .ok (.invokevirtual 64, 3) := by decide +kernel
theorem dX7_single_108 : decode cX7_single 108 = .ok (.putfield 55, 3) := by decide +kernel
theorem dX7_single_111 : decode cX7_single 111 = .ok (.return_, 1) := by decide +kernel
set_option maxRecDepth 20000 in
theorem ggX7_special_X7_nextWord : GoodIn wsX7_special wsX7_nextWord := goodIn_r _ [11, 12, 13, 14, 10, 15, 2, 16, 17, 18, 19, 20, 21, 68, 69, 70, 71, 72, 73, 74, 75, 76, 77, 78, 79, 80, 81, 82, 83, 84, 85, 86, 87, 88, 89, 90, 91, 92, 93, 94, 95, 96, 97] (by decide +kernel) (by decide +kernel)
set_option maxRecDepth 20000 in
theorem gX7_special_X7_nextWord : GoodIn wsX7_special (wsV RX7 153 RX7 yX7_nextWord wsX7_nextWord) := goodIn_app (goodIn_of _ (by decide +kernel)) ggX7_special_X7_nextWord
set_option maxRecDepth 20000 in
theorem ggX7_special_X7_next : GoodIn wsX7_special wsX7_next := goodIn_r _ [15, 2, 16, 17, 18, 19, 10, 20, 21, 68, 69, 70, 71, 72, 73, 74, 75, 76, 77, 78, 79, 80, 81, 82, 83, 84, 85, 86, 87, 88, 89, 90, 91, 92, 93, 94, 95, 96, 97] (by decide +kernel) (by decide +kernel)
set_option maxRecDepth 20000 in
theorem gX7_special_X7_next : GoodIn wsX7_special (wsV RX7 51 RX7 yX7_next wsX7_next) := goodIn_app (goodIn_of _ (by decide +kernel)) ggX7_special_X7_next
set_option maxRecDepth 20000 in
theorem ggX7_special_X7_out : GoodIn wsX7_special wsX7_out := goodIn_r _ [25, 26, 27, 28, 29, 30, 31, 32, 33, 34, 35, 36, 37, 68, 69, 70, 71, 72, 73, 74, 75, 76, 77, 78, 79, 80, 81, 82, 83, 84, 85, 86, 87, 88, 89, 90, 91, 92, 93, 94, 95, 96, 97] (by decide +kernel) (by decide +kernel)
set_option maxRecDepth 20000 in
theorem gX7_special_X7_out : GoodIn wsX7_special (wsV RX7 190 RX7 yX7_out wsX7_out) := goodIn_app (goodIn_of _ (by decide +kernel)) ggX7_special_X7_out
set_option maxRecDepth 20000 in
theorem ggX7_special_X7_in : GoodIn wsX7_special wsX7_in := goodIn_r _ [41, 42, 43, 32, 68, 69, 70, 71, 72, 73, 74, 75, 76, 77, 78, 79, 80, 81, 82, 83, 84, 85, 86, 87, 88, 89, 90, 91, 92, 93, 94, 95, 96, 97] (by decide +kernel) (by decide +kernel)
set_option maxRecDepth 20000 in
theorem gX7_special_X7_in : GoodIn wsX7_special (wsV RX7 193 RX7 yX7_in wsX7_in) := goodIn_app (goodIn_of _ (by decide +kernel)) ggX7_special_X7_in
set_option maxRecDepth 20000 in
theorem ggX7_special_X7_getWord : GoodIn wsX7_special wsX7_getWord := goodIn_r _ [47, 17, 18, 19, 10, 20, 21, 68, 69, 70, 71, 72, 73, 74, 75, 76, 77, 78, 79, 80, 81, 82, 83, 84, 85, 86, 87, 88, 89, 90, 91, 92, 93, 94, 95, 96, 97] (by decide +kernel) (by decide +kernel)
set_option maxRecDepth 20000 in
theorem gX7_special_X7_getWord : GoodIn wsX7_special (wsV RX7 61 RX7 yX7_getWord wsX7_getWord) := goodIn_app (goodIn_of _ (by decide +kernel)) ggX7_special_X7_getWord
set_option maxRecDepth 20000 in
theorem ggX7_special_X7_hl : GoodIn wsX7_special wsX7_hl := goodIn_r _ [51, 3, 68, 69, 70, 71, 72, 73, 74, 75, 76, 77, 78, 79, 80, 81, 82, 83, 84, 85, 86, 87, 88, 89, 90, 91, 92, 93, 94, 95, 96, 97] (by decide +kernel) (by decide +kernel)
set_option maxRecDepth 20000 in
theorem gX7_special_X7_hl : GoodIn wsX7_special (wsV RX7 64 RX7 yX7_hl wsX7_hl) := goodIn_app (goodIn_of _ (by decide +kernel)) ggX7_special_X7_hl
set_option maxRecDepth 20000 in
theorem ggX7_special_X7_setWord : GoodIn wsX7_special wsX7_setWord := goodIn_r _ [55, 56, 57, 58, 10, 59, 21, 68, 69, 70, 71, 72, 73, 74, 75, 76, 77, 78, 79, 80, 81, 82, 83, 84, 85, 86, 87, 88, 89, 90, 91, 92, 93, 94, 95, 96, 97] (by decide +kernel) (by decide +kernel)
set_option maxRecDepth 20000 in
theorem gX7_special_X7_setWord : GoodIn wsX7_special (wsV RX7 58 RX7 yX7_setWord wsX7_setWord) := goodIn_app (goodIn_of _ (by decide +kernel)) ggX7_special_X7_setWord
set_option maxRecDepth 20000 in
theorem ggX7_special_X7_setPair : GoodIn wsX7_special wsX7_setPair := goodIn_r _ [63, 16, 4, 3, 68, 69, 70, 71, 72, 73, 74, 75, 76, 77, 78, 79, 80, 81, 82, 83, 84, 85, 86, 87, 88, 89, 90, 91, 92, 93, 94, 95, 96, 97] (by decide +kernel) (by decide +kernel)
set_option maxRecDepth 20000 in
theorem gX7_special_X7_setPair : GoodIn wsX7_special (wsV RX7 150 RX7 yX7_setPair wsX7_setPair) := goodIn_app (goodIn_of _ (by decide +kernel)) ggX7_special_X7_setPair
set_option maxRecDepth 20000 in
theorem ggX7_special_X7_pair : GoodIn wsX7_special wsX7_pair := goodIn_r _ [67, 4, 3, 68, 69, 70, 71, 72, 73, 74, 75, 76, 77, 78, 79, 80, 81, 82, 83, 84, 85, 86, 87, 88, 89, 90, 91, 92, 93, 94, 95, 96, 97] (by decide +kernel) (by decide +kernel)
set_option maxRecDepth 20000 in
theorem gX7_special_X7_pair : GoodIn wsX7_special (wsV RX7 147 RX7 yX7_pair wsX7_pair) := goodIn_app (goodIn_of _ (by decide +kernel)) ggX7_special_X7_pair
theorem dX7_special_0 : decode cX7_special 0 = .ok (.aload_n 0, 1) := by decide +kernel
theorem dX7_special_1 : decode cX7_special 1 = .ok (.iload_n 1, 1) := by decide +kernel
theorem dX7_special_2 : decode cX7_special 2 = .ok (.iconst 4, 1) := by decide +kernel
theorem dX7_special_3 : decode cX7_special 3 = .ok (.if_icmp .ge 8, 3) := by decide +kernel
theorem dX7_special_6 : decode cX7_special 6 = .ok (.bipush 10, 2) := by decide +kernel
theorem dX7_special_8 : decode cX7_special 8 = .ok (.goto 14, 3) := by decide +kernel
theorem dX7_special_11 : decode cX7_special 11 = .ok (.iload_n 1, 1) := by decide +kernel
theorem dX7_special_12 : decode cX7_special 12 = .ok (.iconst 4, 1) := by decide +kernel
theorem dX7_special_13 : decode cX7_special 13 = .ok (.if_icmp .ne 8, 3) := by decide +kernel
theorem dX7_special_16 : decode cX7_special 16 = .ok (.bipush 18, 2) := by decide +kernel
theorem dX7_special_18 : decode cX7_special 18 = .ok (.goto 4, 3) := by decide +kernel
theorem dX7_special_21 : decode cX7_special 21 = .ok (.iconst 4, 1) := by decide +kernel
theorem dX7_special_22 : decode cX7_special 22 = .ok (.putfield 141, 3) := by decide +kernel
theorem dX7_special_25 : decode cX7_special 25 = .ok (.iload_n 1, 1) := by decide +kernel
theorem dX7_special_26 : decode cX7_special 26 = .ok (.iconst 2, 1) := by decide +kernel
theorem dX7_special_27 : decode cX7_special 27 = .ok (.if_icmp .ge 14, 3) := by decide +kernel
theorem dX7_special_30 : decode cX7_special 30 = .ok (.aload_n 0, 1) := by decide +kernel
theorem dX7_special_31 : decode cX7_special 31 = .ok (.aload_n 0, 1) := by decide +kernel
theorem dX7_special_32 : decode cX7_special 32 = .ok (.invokevirtual 153, 3) := by decide +kernel
theorem dX7_special_35 : decode cX7_special 35 = .ok (.putfield 47, 3) := by decide +kernel
theorem dX7_special_38 : decode cX7_special 38 = .ok (.goto 143, 3) := by decide +kernel
theorem dX7_special_41 : decode cX7_special 41 = .ok (.iload_n 1, 1) := by decide +kernel
theorem dX7_special_42 : decode cX7_special 42 = .ok (.iconst 2, 1) := by decide +kernel
theorem dX7_special_43 : decode cX7_special 43 = .ok (.if_icmp .ne 21, 3) := by decide +kernel
theorem dX7_special_46 : decode cX7_special 46 = .ok (.aload_n 0, 1) := by decide +kernel
theorem dX7_special_47 : decode cX7_special 47 = .ok (.aload_n 0, 1) := by decide +kernel
theorem dX7_special_48 : decode cX7_special 48 = .ok (.invokevirtual 51, 3) := by decide +kernel
theorem dX7_special_51 : decode cX7_special 51 = .ok (.aload_n 0, 1) := by decide +kernel
theorem dX7_special_52 : decode cX7_special 52 = .ok (.getfield 16, 3) := by decide +kernel
theorem dX7_special_55 : decode cX7_special 55 = .ok (.bipush 7, 2) := by decide +kernel
theorem dX7_special_57 : decode cX7_special 57 = .ok (.iaload, 1) := by decide +kernel
theorem dX7_special_58 : decode cX7_special 58 = .ok (.invokevirtual 190, 3) := by decide +kernel
theorem dX7_special_61 : decode cX7_special 61 = .ok (.goto 120, 3) := by decide +kernel
theorem dX7_special_64 : decode cX7_special 64 = .ok (.iload_n 1, 1) := by decide +kernel
theorem dX7_special_65 : decode cX7_special 65 = .ok (.iconst 3, 1) := by decide +kernel
theorem dX7_special_66 : decode cX7_special 66 = .ok (.if_icmp .ne 21, 3) := by decide +kernel
theorem dX7_special_69 : decode cX7_special 69 = .ok (.aload_n 0, 1) := by decide +kernel
theorem dX7_special_70 : decode cX7_special 70 = .ok (.getfield 16, 3) := by decide +kernel
theorem dX7_special_73 : decode cX7_special 73 = .ok (.bipush 7, 2) := by decide +kernel
theorem dX7_special_75 : decode cX7_special 75 = .ok (.aload_n 0, 1) := by decide +kernel
theorem dX7_special_76 : decode cX7_special 76 = .ok (.aload_n 0, 1) := by decide +kernel
theorem dX7_special_77 : decode cX7_special 77 = .ok (.invokevirtual 51, 3) := by decide +kernel
theorem dX7_special_80 : decode cX7_special 80 = .ok (.invokevirtual 193, 3) := by decide +kernel
theorem dX7_special_83 : decode cX7_special 83 = .ok (.iastore, 1) := by decide +kernel
theorem dX7_special_84 : decode cX7_special 84 = .ok (.goto 97, 3) := by decide +kernel
theorem dX7_special_87 : decode cX7_special 87 = .ok (.iload_n 1, 1) := by decide +kernel
theorem dX7_special_88 : decode cX7_special 88 = .ok (.iconst 4, 1) := by decide +kernel
theorem dX7_special_89 : decode cX7_special 89 = .ok (.if_icmp .ne 33, 3) := by decide +kernel
theorem dX7_special_92 : decode cX7_special 92 = .ok (.aload_n 0, 1) := by decide +kernel
theorem dX7_special_93 : decode cX7_special 93 = .ok (.aload_n 0, 1) := by decide +kernel
theorem dX7_special_94 : decode cX7_special 94 = .ok (.getfield 55, 3) := by decide +kernel
theorem dX7_special_97 : decode cX7_special 97 = .ok (.invokevirtual 61, 3) := by decide +kernel
theorem dX7_special_100 : decode cX7_special 100 = .ok (.istore_n 2, 1) := by decide +kernel
theorem dX7_special_101 : decode cX7_special 101 = .ok (.aload_n 0, 1) := by decide +kernel
theorem dX7_special_102 : decode cX7_special 102 = .ok (.aload_n 0, 1) := by decide +kernel
theorem dX7_special_103 : decode cX7_special 103 = .ok (.getfield 55, 3) := by decide +kernel
theorem dX7_special_106 : decode cX7_special 106 = .ok (.aload_n 0, 1) := by decide +kernel
theorem dX7_special_107 : decode cX7_special 107 = .ok (.invokevirtual 64, 3) := by decide +kernel
theorem dX7_special_110 : decode cX7_special 110 = .ok (.invokevirtual 58, 3) := by decide +kernel
theorem dX7_special_113 : decode cX7_special 113 = .ok (.aload_n 0, 1) := by decide +kernel
theorem dX7_special_114 : decode cX7_special 114 = .ok (.iconst 2, 1) := by decide +kernel
theorem dX7_special_115 : decode cX7_special 115 = .ok (.iload_n 2, 1) := by decide +kernel
theorem dX7_special_116 : decode cX7_special 116 = .ok (.invokevirtual 150, 3) := by decide +kernel
theorem dX7_special_119 : decode cX7_special 119 = .ok (.goto 62, 3) := by decide +kernel
theorem dX7_special_122 : decode cX7_special 122 = .ok (.iload_n 1, 1) := by decide +kernel
theorem dX7_special_123 : decode cX7_special 123 = .ok (.iconst 5, 1) := by decide +kernel
theorem dX7_special_124 : decode cX7_special 124 = .ok (.if_icmp .ne 27, 3) := by decide +kernel
theorem dX7_special_127 : decode cX7_special 127 = .ok (.aload_n 0, 1) := by decide +kernel
theorem dX7_special_128 : decode cX7_special 128 = .ok (.invokevirtual 64, 3) := by decide +kernel
theorem dX7_special_131 : decode cX7_special 131 = .ok (.istore_n 2, 1) := by decide +kernel
theorem dX7_special_132 : decode cX7_special 132 = .ok (.aload_n 0, 1) := by decide +kernel
theorem dX7_special_133 : decode cX7_special 133 = .ok (.iconst 2, 1) := by decide +kernel
theorem dX7_special_134 : decode cX7_special 134 = .ok (.aload_n 0, 1) := by decide +kernel
theorem dX7_special_135 : decode cX7_special 135 = .ok (.iconst 1, 1) := by decide +kernel
theorem dX7_special_136 : decode cX7_special 136 = .ok (.invokevirtual 147, 3) := by decide +kernel
theorem dX7_special_139 : decode cX7_special 139 = .ok (.invokevirtual 150, 3) := by decide +kernel
theorem dX7_special_142 : decode cX7_special 142 = .ok (.aload_n 0, 1) := by decide +kernel
theorem dX7_special_143 : decode cX7_special 143 = .ok (.iconst 1, 1) := by decide +kernel
theorem dX7_special_144 : decode cX7_special 144 = .ok (.iload_n 2, 1) := by decide +kernel
theorem dX7_special_145 : decode cX7_special 145 = .ok (.invokevirtual 150, 3) := by decide +kernel
theorem dX7_special_148 : decode cX7_special 148 = .ok (.goto 33, 3) := by decide +kernel
theorem dX7_special_151 : decode cX7_special 151 = .ok (.aload_n 0, 1) := by decide +kernel
theorem dX7_special_152 : decode cX7_special 152 = .ok (.iload_n 1, 1) := by decide +kernel
theorem dX7_special_153 : decode cX7_special 153 = .ok (.bipush 7, 2) := by decide +kernel
theorem dX7_special_155 : decode cX7_special 155 = .ok (.if_icmp .ne 7, 3) := by decide +kernel
theorem dX7_special_158 : decode cX7_special 158 = .ok (.iconst 1, 1) := by decide +kernel
theorem dX7_special_159 : decode cX7_special 159 = .ok (.goto 4, 3) := by decide +kernel
theorem dX7_special_162 : decode cX7_special 162 = .ok (.iconst 0, 1) := by decide +kernel
theorem dX7_special_163 : decode cX7_special 163 = .ok (.putfield 196, 3) := by decide +kernel
theorem dX7_special_166 : decode cX7_special 166 = .ok (.aload_n 0, 1) := by decide +kernel
theorem dX7_special_167 : decode cX7_special 167 = .ok (.iload_n 1, 1) := by decide +kernel
theorem dX7_special_168 : decode cX7_special 168 = .ok (.bipush 7, 2) := by decide +kernel
theorem dX7_special_170 : decode cX7_special 170 = .ok (.if_icmp .ne 7, 3) := by decide +kernel
theorem dX7_special_173 : decode cX7_special 173 = .ok (.iconst 1, 1) := by decide +kernel
theorem dX7_special_174 : decode cX7_special 174 = .ok (.goto 4, 3) := by decide +kernel
theorem dX7_special_177 : decode cX7_special 177 = .ok (.iconst 0, 1) := by decide +kernel
theorem dX7_special_178 : decode cX7_special 178 = .ok (.putfield 199, 3) := by decide +kernel
theorem dX7_special_181 : decode cX7_special 181 = .ok (.return_, 1) := by decide +kernel
set_option maxRecDepth 20000 in
theorem ggX7_instruction_X7_next : GoodIn wsX7_instruction wsX7_next := goodIn_r _ [8, 9, 10, 11, 12, 13, 7, 14, 15, 150, 151, 152, 153, 154, 155, 156, 157, 158, 159, 160, 161, 162, 163, 164, 165, 166, 167, 168, 169, 170, 171, 172, 173, 174, 175, 176, 177, 178, 179] (by decide +kernel) (by decide +kernel)
set_option maxRecDepth 20000 in
theorem gX7_instruction_X7_next : GoodIn wsX7_instruction (wsV RX7 51 RX7 yX7_next wsX7_next) := goodIn_app (goodIn_of _ (by decide +kernel)) ggX7_instruction_X7_next
set_option maxRecDepth 20000 in
theorem ggX7_instruction_X7_zero : GoodIn wsX7_instruction wsX7_zero := goodIn_r _ [19, 2, 10, 20, 21, 22, 23, 24, 7, 25, 26, 27, 28, 29, 30, 31, 32, 33, 34, 35, 36, 37, 38, 39, 4, 5, 6, 8, 9, 11, 12, 13, 14, 15, 40, 41, 42, 43, 44, 45, 46, 47, 48, 49, 50, 51, 52, 53, 54, 55, 56, 57, 58, 59, 60, 61, 62, 63, 64, 65, 66, 67, 68, 69, 70, 71, 72, 73, 74, 75, 76, 77, 78, 150, 151, 152, 153, 154, 155, 156, 157, 158, 159, 160, 161, 162, 163, 164, 165, 166, 167, 168, 169, 170, 171, 172, 173, 174, 175, 176, 177, 178, 179] (by decide +kernel) (by decide +kernel)
set_option maxRecDepth 20000 in
theorem gX7_instruction_X7_zero : GoodIn wsX7_instruction (wsV RX7 202 RX7 yX7_zero wsX7_zero) := goodIn_app (goodIn_of _ (by decide +kernel)) ggX7_instruction_X7_zero
set_option maxRecDepth 20000 in
theorem ggX7_instruction_X7_reg : GoodIn wsX7_instruction wsX7_reg := goodIn_r _ [59, 26, 22, 23, 24, 7, 25, 11, 12, 13, 14, 15, 150, 151, 152, 153, 154, 155, 156, 157, 158, 159, 160, 161, 162, 163, 164, 165, 166, 167, 168, 169, 170, 171, 172, 173, 174, 175, 176, 177, 178, 179] (by decide +kernel) (by decide +kernel)
set_option maxRecDepth 20000 in
theorem gX7_instruction_X7_reg : GoodIn wsX7_instruction (wsV RX7 159 RX7 yX7_reg wsX7_reg) := goodIn_app (goodIn_of _ (by decide +kernel)) ggX7_instruction_X7_reg
set_option maxRecDepth 20000 in
theorem ggX7_instruction_X7_setReg : GoodIn wsX7_instruction wsX7_setReg := goodIn_r _ [63, 26, 22, 23, 24, 7, 25, 48, 49, 50, 51, 15, 150, 151, 152, 153, 154, 155, 156, 157, 158, 159, 160, 161, 162, 163, 164, 165, 166, 167, 168, 169, 170, 171, 172, 173, 174, 175, 176, 177, 178, 179] (by decide +kernel) (by decide +kernel)
set_option maxRecDepth 20000 in
theorem gX7_instruction_X7_setReg : GoodIn wsX7_instruction (wsV RX7 162 RX7 yX7_setReg wsX7_setReg) := goodIn_app (goodIn_of _ (by decide +kernel)) ggX7_instruction_X7_setReg
set_option maxRecDepth 20000 in
theorem ggX7_instruction_X7_reckon : GoodIn wsX7_instruction wsX7_reckon := goodIn_r _ [82, 26, 20, 21, 83, 84, 85, 7, 86, 64, 65, 66, 67, 68, 69, 70, 87, 88, 89, 90, 150, 151, 152, 153, 154, 155, 156, 157, 158, 159, 160, 161, 162, 163, 164, 165, 166, 167, 168, 169, 170, 171, 172, 173, 174, 175, 176, 177, 178, 179] (by decide +kernel) (by decide +kernel)
set_option maxRecDepth 20000 in
theorem gX7_instruction_X7_reckon : GoodIn wsX7_instruction (wsV RX7 187 RX7 yX7_reckon wsX7_reckon) := goodIn_app (goodIn_of _ (by decide +kernel)) ggX7_instruction_X7_reckon
set_option maxRecDepth 20000 in
theorem ggX7_instruction_X7_three : GoodIn wsX7_instruction wsX7_three := goodIn_r _ [94, 2, 9, 26, 95, 96, 97, 7, 98, 69, 20, 70, 68, 99, 100, 101, 102, 31, 10, 52, 53, 54, 55, 11, 12, 13, 14, 15, 103, 104, 105, 106, 107, 108, 109, 110, 21, 32, 33, 34, 35, 22, 23, 24, 25, 111, 112, 113, 114, 36, 37, 38, 39, 4, 5, 6, 8, 115, 116, 117, 118, 44, 45, 46, 47, 48, 49, 50, 51, 119, 120, 121, 122, 123, 1, 124, 125, 126, 127, 128, 129, 130, 131, 132, 133, 134, 135, 136, 137, 138, 139, 140, 141, 142, 143, 144, 145, 27, 28, 29, 30, 146, 147, 148, 149, 79, 80, 81, 82, 83, 84, 85, 86, 64, 65, 66, 67, 87, 88, 89, 90, 150, 151, 152, 153, 154, 155, 156, 157, 158, 159, 160, 161, 162, 163, 164, 165, 166, 167, 168, 169, 170, 171, 172, 173, 174, 175, 176, 177, 178, 179] (by decide +kernel) (by decide +kernel)
set_option maxRecDepth 20000 in
theorem gX7_instruction_X7_three : GoodIn wsX7_instruction (wsV RX7 207 RX7 yX7_three wsX7_three) := goodIn_app (goodIn_of _ (by decide +kernel)) ggX7_instruction_X7_three
theorem dX7_instruction_0 : decode cX7_instruction 0 = .ok (.aload_n 0, 1) := by decide +kernel
theorem dX7_instruction_1 : decode cX7_instruction 1 = .ok (.invokevirtual 51, 3) := by decide +kernel
theorem dX7_instruction_4 : decode cX7_instruction 4 = .ok (.istore_n 1, 1) := by decide +kernel
theorem dX7_instruction_5 : decode cX7_instruction 5 = .ok (.iload_n 1, 1) := by decide +kernel
theorem dX7_instruction_6 : decode cX7_instruction 6 = .ok (.iconst 3, 1) := by decide +kernel
theorem dX7_instruction_7 : decode cX7_instruction 7 = .ok (.ishr, 1) := by decide +kernel
theorem dX7_instruction_8 : decode cX7_instruction 8 = .ok (.bipush 7, 2) := by decide +kernel
theorem dX7_instruction_10 : decode cX7_instruction 10 = .ok (.iand, 1) := by decide +kernel
theorem dX7_instruction_11 : decode cX7_instruction 11 = .ok (.istore_n 2, 1) := by decide +kernel
theorem dX7_instruction_12 : decode cX7_instruction 12 = .ok (.iload_n 1, 1) := by decide +kernel
theorem dX7_instruction_13 : decode cX7_instruction 13 = .ok (.bipush 7, 2) := by decide +kernel
theorem dX7_instruction_15 : decode cX7_instruction 15 = .ok (.iand, 1) := by decide +kernel
theorem dX7_instruction_16 : decode cX7_instruction 16 = .ok (.istore_n 3, 1) := by decide +kernel
theorem dX7_instruction_17 : decode cX7_instruction 17 = .ok (.aload_n 0, 1) := by decide +kernel
theorem dX7_instruction_18 : decode cX7_instruction 18 = .ok (.iconst 0, 1) := by decide +kernel
theorem dX7_instruction_19 : decode cX7_instruction 19 = .ok (.putfield 199, 3) := by decide +kernel
theorem dX7_instruction_22 : decode cX7_instruction 22 = .ok (.iload_n 1, 1) := by decide +kernel
theorem dX7_instruction_23 : decode cX7_instruction 23 = .ok (.bipush 64, 2) := by decide +kernel
theorem dX7_instruction_25 : decode cX7_instruction 25 = .ok (.if_icmp .ge 12, 3) := by decide +kernel
theorem dX7_instruction_28 : decode cX7_instruction 28 = .ok (.aload_n 0, 1) := by decide +kernel
theorem dX7_instruction_29 : decode cX7_instruction 29 = .ok (.iload_n 2, 1) := by decide +kernel
theorem dX7_instruction_30 : decode cX7_instruction 30 = .ok (.iload_n 3, 1) := by decide +kernel
theorem dX7_instruction_31 : decode cX7_instruction 31 = .ok (.invokevirtual 202, 3) := by decide +kernel
theorem dX7_instruction_34 : decode cX7_instruction 34 = .ok (.goto 107, 3) := by decide +kernel
theorem dX7_instruction_37 : decode cX7_instruction 37 = .ok (.iload_n 1, 1) := by decide +kernel
theorem dX7_instruction_38 : decode cX7_instruction 38 = .ok (.bipush 118, 2) := by decide +kernel
theorem dX7_instruction_40 : decode cX7_instruction 40 = .ok (.if_icmp .ne 17, 3) := by decide +kernel
theorem dX7_instruction_43 : decode cX7_instruction 43 = .ok (.aload_n 0, 1) := by decide +kernel
theorem dX7_instruction_44 : decode cX7_instruction 44 = .ok (.bipush 7, 2) := by decide +kernel
theorem dX7_instruction_46 : decode cX7_instruction 46 = .ok (.putfield 141, 3) := by decide +kernel
theorem dX7_instruction_49 : decode cX7_instruction 49 = .ok (.aload_n 0, 1) := by decide +kernel
theorem dX7_instruction_50 : decode cX7_instruction 50 = .ok (.iconst 1, 1) := by decide +kernel
theorem dX7_instruction_51 : decode cX7_instruction 51 = .ok (.putfield 204, 3) := by decide +kernel
theorem dX7_instruction_54 : decode cX7_instruction 54 = .ok (.goto 87, 3) := by decide +kernel
theorem dX7_instruction_57 : decode cX7_instruction 57 = .ok (.iload_n 1, 1) := by decide +kernel
theorem dX7_instruction_58 : decode cX7_instruction 58 = .ok (.sipush 128, 3) := by decide +kernel
theorem dX7_instruction_61 : decode cX7_instruction 61 = .ok (.if_icmp .ge 38, 3) := by decide +kernel
theorem dX7_instruction_64 : decode cX7_instruction 64 = .ok (.aload_n 0, 1) := by decide +kernel
theorem dX7_instruction_65 : decode cX7_instruction 65 = .ok (.iload_n 2, 1) := by decide +kernel
theorem dX7_instruction_66 : decode cX7_instruction 66 = .ok (.bipush 6, 2) := by decide +kernel
theorem dX7_instruction_68 : decode cX7_instruction 68 = .ok (.if_icmp .eq 9, 3) := by decide +kernel
theorem dX7_instruction_71 : decode cX7_instruction 71 = .ok (.iload_n 3, 1) := by decide +kernel
theorem dX7_instruction_72 : decode cX7_instruction 72 = .ok (.bipush 6, 2) := by decide +kernel
end
section
theorem dX7_instruction_74 : decode cX7_instruction 74 = .ok (.if_icmp .ne 8, 3) := by decide +kernel
theorem dX7_instruction_77 : decode cX7_instruction 77 = .ok (.bipush 7, 2) := by decide +kernel
theorem dX7_instruction_79 : decode cX7_instruction 79 = .ok (.goto 4, 3) := by decide +kernel
theorem dX7_instruction_82 : decode cX7_instruction 82 = .ok (.iconst 5, 1) := by decide +kernel
theorem dX7_instruction_83 : decode cX7_instruction 83 = .ok (.putfield 141, 3) := by decide +kernel
theorem dX7_instruction_86 : decode cX7_instruction 86 = .ok (.aload_n 0, 1) := by decide +kernel
theorem dX7_instruction_87 : decode cX7_instruction 87 = .ok (.iload_n 2, 1) := by decide +kernel
theorem dX7_instruction_88 : decode cX7_instruction 88 = .ok (.aload_n 0, 1) := by decide +kernel
theorem dX7_instruction_89 : decode cX7_instruction 89 = .ok (.iload_n 3, 1) := by decide +kernel
theorem dX7_instruction_90 : decode cX7_instruction 90 = .ok (.invokevirtual 159, 3) := by decide +kernel
theorem dX7_instruction_93 : decode cX7_instruction 93 = .ok (.invokevirtual 162, 3) := by decide +kernel
theorem dX7_instruction_96 : decode cX7_instruction 96 = .ok (.goto 45, 3) := by decide +kernel
theorem dX7_instruction_99 : decode cX7_instruction 99 = .ok (.iload_n 1, 1) := by decide +kernel
theorem dX7_instruction_100 : decode cX7_instruction 100 = .ok (.sipush 192, 3) := by decide +kernel
theorem dX7_instruction_103 : decode cX7_instruction 103 = .ok (.if_icmp .ge 32, 3) := by decide +kernel
theorem dX7_instruction_106 : decode cX7_instruction 106 = .ok (.aload_n 0, 1) := by decide +kernel
theorem dX7_instruction_107 : decode cX7_instruction 107 = .ok (.iload_n 3, 1) := by decide +kernel
theorem dX7_instruction_108 : decode cX7_instruction 108 = .ok (.bipush 6, 2) := by decide +kernel
theorem dX7_instruction_110 : decode cX7_instruction 110 = .ok (.if_icmp .ne 8, 3) := by decide +kernel
theorem dX7_instruction_113 : decode cX7_instruction 113 = .ok (.bipush 7, 2) := by decide +kernel
theorem dX7_instruction_115 : decode cX7_instruction 115 = .ok (.goto 4, 3) := by decide +kernel
theorem dX7_instruction_118 : decode cX7_instruction 118 = .ok (.iconst 4, 1) := by decide +kernel
theorem dX7_instruction_119 : decode cX7_instruction 119 = .ok (.putfield 141, 3) := by decide +kernel
theorem dX7_instruction_122 : decode cX7_instruction 122 = .ok (.aload_n 0, 1) := by decide +kernel
theorem dX7_instruction_123 : decode cX7_instruction 123 = .ok (.iload_n 2, 1) := by decide +kernel
theorem dX7_instruction_124 : decode cX7_instruction 124 = .ok (.aload_n 0, 1) := by decide +kernel
theorem dX7_instruction_125 : decode cX7_instruction 125 = .ok (.iload_n 3, 1) := by decide +kernel
theorem dX7_instruction_126 : decode cX7_instruction 126 = .ok (.invokevirtual 159, 3) := by decide +kernel
theorem dX7_instruction_129 : decode cX7_instruction 129 = .ok (.invokevirtual 187, 3) := by decide +kernel
theorem dX7_instruction_132 : decode cX7_instruction 132 = .ok (.goto 9, 3) := by decide +kernel
theorem dX7_instruction_135 : decode cX7_instruction 135 = .ok (.aload_n 0, 1) := by decide +kernel
theorem dX7_instruction_136 : decode cX7_instruction 136 = .ok (.iload_n 2, 1) := by decide +kernel
theorem dX7_instruction_137 : decode cX7_instruction 137 = .ok (.iload_n 3, 1) := by decide +kernel
theorem dX7_instruction_138 : decode cX7_instruction 138 = .ok (.invokevirtual 207, 3) := by decide +kernel
theorem dX7_instruction_141 : decode cX7_instruction 141 = .ok (.return_, 1) := by decide +kernel
set_option maxRecDepth 20000 in
theorem ggX7_step_X7_push : GoodIn wsX7_step wsX7_push := goodIn_r _ [12, 13, 14, 15, 16, 17, 11, 18, 19, 20, 21, 22, 23, 166, 167, 168, 169, 170, 171, 172, 173, 174, 175, 176, 177, 178, 179, 180, 181, 182, 183, 184, 185, 186, 187, 188, 189, 190, 191, 192, 193, 194, 195] (by decide +kernel) (by decide +kernel)
set_option maxRecDepth 20000 in
theorem gX7_step_X7_push : GoodIn wsX7_step (wsV RX7 168 RX7 yX7_push wsX7_push) := goodIn_app (goodIn_of _ (by decide +kernel)) ggX7_step_X7_push
set_option maxRecDepth 20000 in
theorem ggX7_step_X7_instruction : GoodIn wsX7_step wsX7_instruction := goodIn_r _ [27, 4, 5, 6, 28, 29, 30, 11, 31, 7, 14, 32, 33, 34, 35, 23, 36, 37, 38, 39, 40, 41, 42, 43, 44, 45, 46, 47, 48, 49, 50, 13, 51, 52, 53, 54, 55, 56, 57, 58, 59, 60, 61, 62, 15, 16, 17, 18, 19, 20, 21, 22, 63, 64, 65, 66, 67, 68, 69, 70, 71, 72, 73, 74, 75, 76, 77, 78, 79, 80, 81, 82, 83, 84, 85, 86, 87, 88, 89, 90, 91, 92, 93, 94, 95, 96, 97, 98, 99, 100, 101, 102, 103, 104, 105, 106, 107, 108, 109, 110, 111, 112, 113, 114, 115, 116, 117, 118, 119, 120, 121, 122, 123, 124, 125, 8, 9, 10, 12, 126, 127, 128, 129, 3, 130, 131, 132, 133, 134, 135, 136, 137, 138, 139, 140, 141, 142, 143, 144, 145, 146, 147, 148, 149, 150, 151, 152, 153, 154, 155, 166, 167, 168, 169, 170, 171, 172, 173, 174, 175, 176, 177, 178, 179, 180, 181, 182, 183, 184, 185, 186, 187, 188, 189, 190, 191, 192, 193, 194, 195] (by decide +kernel) (by decide +kernel)
set_option maxRecDepth 20000 in
theorem gX7_step_X7_instruction : GoodIn wsX7_step (wsV RX7 210 RX7 yX7_instruction wsX7_instruction) := goodIn_app (goodIn_of _ (by decide +kernel)) ggX7_step_X7_instruction
set_option maxRecDepth 20000 in
theorem ggX7_step_X7_pass : GoodIn wsX7_step wsX7_pass := goodIn_r _ [159, 160, 5, 140, 145, 144, 161, 162, 163, 11, 164, 141, 137, 165, 142, 143, 14, 139, 2, 19, 20, 21, 22, 23, 32, 33, 34, 35, 166, 167, 168, 169, 170, 171, 172, 173, 174, 175, 176, 177, 178, 179, 180, 181, 182, 183, 184, 185, 186, 187, 188, 189, 190, 191, 192, 193, 194, 195] (by decide +kernel) (by decide +kernel)
set_option maxRecDepth 20000 in
theorem gX7_step_X7_pass : GoodIn wsX7_step (wsV RX7 213 RX7 yX7_pass wsX7_pass) := goodIn_app (goodIn_of _ (by decide +kernel)) ggX7_step_X7_pass
theorem dX7_step_0 : decode cX7_step 0 = .ok (.aload_n 0, 1) := by decide +kernel
theorem dX7_step_1 : decode cX7_step 1 = .ok (.iload_n 1, 1) := by decide +kernel
theorem dX7_step_2 : decode cX7_step 2 = .ok (.ifCond .lt 10, 3) := by decide +kernel
theorem dX7_step_5 : decode cX7_step 5 = .ok (.iload_n 1, 1) := by decide +kernel
theorem dX7_step_6 : decode cX7_step 6 = .ok (.sipush 3000, 3) := by decide +kernel
theorem dX7_step_9 : decode cX7_step 9 = .ok (.if_icmp .le 7, 3) := by decide +kernel
theorem dX7_step_12 : decode cX7_step 12 = .ok (.iconst 1, 1) := by decide +kernel
theorem dX7_step_13 : decode cX7_step 13 = .ok (.goto 4, 3) := by decide +kernel
theorem dX7_step_16 : decode cX7_step 16 = .ok (.iconst 0, 1) := by decide +kernel
theorem dX7_step_17 : decode cX7_step 17 = .ok (.putfield 29, 3) := by decide +kernel
theorem dX7_step_20 : decode cX7_step 20 = .ok (.iconst 0, 1) := by decide +kernel
theorem dX7_step_21 : decode cX7_step 21 = .ok (.istore_n 2, 1) := by decide +kernel
theorem dX7_step_22 : decode cX7_step 22 = .ok (.iconst 0, 1) := by decide +kernel
theorem dX7_step_23 : decode cX7_step 23 = .ok (.istore_n 3, 1) := by decide +kernel
theorem dX7_step_24 : decode cX7_step 24 = .ok (.iload_n 3, 1) := by decide +kernel
theorem dX7_step_25 : decode cX7_step 25 = .ok (.iload_n 1, 1) := by decide +kernel
theorem dX7_step_26 : decode cX7_step 26 = .ok (.if_icmp .ge 115, 3) := by decide +kernel
theorem dX7_step_29 : decode cX7_step 29 = .ok (.aload_n 0, 1) := by decide +kernel
theorem dX7_step_30 : decode cX7_step 30 = .ok (.getfield 29, 3) := by decide +kernel
theorem dX7_step_33 : decode cX7_step 33 = .ok (.ifCond .ne 108, 3) := by decide +kernel
theorem dX7_step_36 : decode cX7_step 36 = .ok (.aload_n 0, 1) := by decide +kernel
theorem dX7_step_37 : decode cX7_step 37 = .ok (.getfield 19, 3) := by decide +kernel
theorem dX7_step_40 : decode cX7_step 40 = .ok (.ifCond .lt 60, 3) := by decide +kernel
theorem dX7_step_43 : decode cX7_step 43 = .ok (.aload_n 0, 1) := by decide +kernel
theorem dX7_step_44 : decode cX7_step 44 = .ok (.getfield 196, 3) := by decide +kernel
theorem dX7_step_47 : decode cX7_step 47 = .ok (.ifCond .eq 53, 3) := by decide +kernel
theorem dX7_step_50 : decode cX7_step 50 = .ok (.aload_n 0, 1) := by decide +kernel
theorem dX7_step_51 : decode cX7_step 51 = .ok (.getfield 199, 3) := by decide +kernel
theorem dX7_step_54 : decode cX7_step 54 = .ok (.ifCond .ne 46, 3) := by decide +kernel
theorem dX7_step_57 : decode cX7_step 57 = .ok (.aload_n 0, 1) := by decide +kernel
theorem dX7_step_58 : decode cX7_step 58 = .ok (.bipush 11, 2) := by decide +kernel
theorem dX7_step_60 : decode cX7_step 60 = .ok (.putfield 141, 3) := by decide +kernel
theorem dX7_step_63 : decode cX7_step 63 = .ok (.aload_n 0, 1) := by decide +kernel
theorem dX7_step_64 : decode cX7_step 64 = .ok (.iconst 0, 1) := by decide +kernel
theorem dX7_step_65 : decode cX7_step 65 = .ok (.putfield 196, 3) := by decide +kernel
theorem dX7_step_68 : decode cX7_step 68 = .ok (.aload_n 0, 1) := by decide +kernel
theorem dX7_step_69 : decode cX7_step 69 = .ok (.iconst 0, 1) := by decide +kernel
theorem dX7_step_70 : decode cX7_step 70 = .ok (.putfield 204, 3) := by decide +kernel
theorem dX7_step_73 : decode cX7_step 73 = .ok (.aload_n 0, 1) := by decide +kernel
theorem dX7_step_74 : decode cX7_step 74 = .ok (.aload_n 0, 1) := by decide +kernel
theorem dX7_step_75 : decode cX7_step 75 = .ok (.getfield 47, 3) := by decide +kernel
theorem dX7_step_78 : decode cX7_step 78 = .ok (.invokevirtual 168, 3) := by decide +kernel
theorem dX7_step_81 : decode cX7_step 81 = .ok (.aload_n 0, 1) := by decide +kernel
theorem dX7_step_82 : decode cX7_step 82 = .ok (.bipush 8, 2) := by decide +kernel
theorem dX7_step_84 : decode cX7_step 84 = .ok (.aload_n 0, 1) := by decide +kernel
theorem dX7_step_85 : decode cX7_step 85 = .ok (.getfield 19, 3) := by decide +kernel
theorem dX7_step_88 : decode cX7_step 88 = .ok (.imul, 1) := by decide +kernel
theorem dX7_step_89 : decode cX7_step 89 = .ok (.putfield 47, 3) := by decide +kernel
theorem dX7_step_92 : decode cX7_step 92 = .ok (.aload_n 0, 1) := by decide +kernel
theorem dX7_step_93 : decode cX7_step 93 = .ok (.iconst (-1), 1) := by decide +kernel
theorem dX7_step_94 : decode cX7_step 94 = .ok (.putfield 19, 3) := by decide +kernel
theorem dX7_step_97 : decode cX7_step 97 = .ok (.goto 27, 3) := by decide +kernel
theorem dX7_step_100 : decode cX7_step 100 = .ok (.aload_n 0, 1) := by decide +kernel
theorem dX7_step_101 : decode cX7_step 101 = .ok (.getfield 204, 3) := by decide +kernel
theorem dX7_step_104 : decode cX7_step 104 = .ok (.ifCond .eq 16, 3) := by decide +kernel
theorem dX7_step_107 : decode cX7_step 107 = .ok (.aload_n 0, 1) := by decide +kernel
theorem dX7_step_108 : decode cX7_step 108 = .ok (.iconst 4, 1) := by decide +kernel
theorem dX7_step_109 : decode cX7_step 109 = .ok (.putfield 141, 3) := by decide +kernel
theorem dX7_step_112 : decode cX7_step 112 = .ok (.aload_n 0, 1) := by decide +kernel
theorem dX7_step_113 : decode cX7_step 113 = .ok (.iconst 0, 1) := by decide +kernel
theorem dX7_step_114 : decode cX7_step 114 = .ok (.putfield 199, 3) := by decide +kernel
theorem dX7_step_117 : decode cX7_step 117 = .ok (.goto 7, 3) := by decide +kernel
theorem dX7_step_120 : decode cX7_step 120 = .ok (.aload_n 0, 1) := by decide +kernel
theorem dX7_step_121 : decode cX7_step 121 = .ok (.invokevirtual 210, 3) := by decide +kernel
theorem dX7_step_124 : decode cX7_step 124 = .ok (.aload_n 0, 1) := by decide +kernel
theorem dX7_step_125 : decode cX7_step 125 = .ok (.invokevirtual 213, 3) := by decide +kernel
theorem dX7_step_128 : decode cX7_step 128 = .ok (.iload_n 2, 1) := by decide +kernel
theorem dX7_step_129 : decode cX7_step 129 = .ok (.aload_n 0, 1) := by decide +kernel
theorem dX7_step_130 : decode cX7_step 130 = .ok (.getfield 141, 3) := by decide +kernel
theorem dX7_step_133 : decode cX7_step 133 = .ok (.iadd, 1) := by decide +kernel
theorem dX7_step_134 : decode cX7_step 134 = .ok (.istore_n 2, 1) := by decide +kernel
theorem dX7_step_135 : decode cX7_step 135 = .ok (.iinc 3 1, 3) := by decide +kernel
theorem dX7_step_138 : decode cX7_step 138 = .ok (.goto (-114), 3) := by decide +kernel
theorem dX7_step_141 : decode cX7_step 141 = .ok (.iload_n 2, 1) := by decide +kernel
theorem dX7_step_142 : decode cX7_step 142 = .ok (.ireturn, 1) := by decide +kernel
set_option maxRecDepth 20000 in
theorem ggX7_type_X7_noByte : GoodIn wsX7_type wsX7_noByte := goodIn_r _ [7] (by decide +kernel) (by decide +kernel)
set_option maxRecDepth 20000 in
theorem gX7_type_X7_noByte : GoodIn wsX7_type (va_wsS RX7 36 yX7_noByte wsX7_noByte) := goodIn_app (goodIn_of _ (by decide +kernel)) ggX7_type_X7_noByte
theorem dX7_type_0 : decode cX7_type 0 = .ok (.aload_n 0, 1) := by decide +kernel
theorem dX7_type_1 : decode cX7_type 1 = .ok (.iload_n 1, 1) := by decide +kernel
theorem dX7_type_2 : decode cX7_type 2 = .ok (.invokestatic 36, 3) := by decide +kernel
theorem dX7_type_5 : decode cX7_type 5 = .ok (.ifCond .eq 7, 3) := by decide +kernel
theorem dX7_type_8 : decode cX7_type 8 = .ok (.iconst 1, 1) := by decide +kernel
theorem dX7_type_9 : decode cX7_type 9 = .ok (.goto 4, 3) := by decide +kernel
theorem dX7_type_12 : decode cX7_type 12 = .ok (.iconst 0, 1) := by decide +kernel
theorem dX7_type_13 : decode cX7_type 13 = .ok (.putfield 29, 3) := by decide +kernel
theorem dX7_type_16 : decode cX7_type 16 = .ok (.aload_n 0, 1) := by decide +kernel
theorem dX7_type_17 : decode cX7_type 17 = .ok (.getfield 29, 3) := by decide +kernel
theorem dX7_type_20 : decode cX7_type 20 = .ok (.ifCond .le 5, 3) := by decide +kernel
theorem dX7_type_23 : decode cX7_type 23 = .ok (.iconst 0, 1) := by decide +kernel
theorem dX7_type_24 : decode cX7_type 24 = .ok (.ireturn, 1) := by decide +kernel
theorem dX7_type_25 : decode cX7_type 25 = .ok (.aload_n 0, 1) := by decide +kernel
theorem dX7_type_26 : decode cX7_type 26 = .ok (.getfield 103, 3) := by decide +kernel
theorem dX7_type_29 : decode cX7_type 29 = .ok (.bipush 64, 2) := by decide +kernel
theorem dX7_type_31 : decode cX7_type 31 = .ok (.if_icmp .ne 5, 3) := by decide +kernel
theorem dX7_type_34 : decode cX7_type 34 = .ok (.iconst (-1), 1) := by decide +kernel
theorem dX7_type_35 : decode cX7_type 35 = .ok (.ireturn, 1) := by decide +kernel
theorem dX7_type_36 : decode cX7_type 36 = .ok (.aload_n 0, 1) := by decide +kernel
theorem dX7_type_37 : decode cX7_type 37 = .ok (.getfield 23, 3) := by decide +kernel
theorem dX7_type_40 : decode cX7_type 40 = .ok (.aload_n 0, 1) := by decide +kernel
theorem dX7_type_41 : decode cX7_type 41 = .ok (.getfield 103, 3) := by decide +kernel
theorem dX7_type_44 : decode cX7_type 44 = .ok (.iload_n 1, 1) := by decide +kernel
theorem dX7_type_45 : decode cX7_type 45 = .ok (.iastore, 1) := by decide +kernel
theorem dX7_type_46 : decode cX7_type 46 = .ok (.aload_n 0, 1) := by decide +kernel
theorem dX7_type_47 : decode cX7_type 47 = .ok (.dup, 1) := by decide +kernel
theorem dX7_type_48 : decode cX7_type 48 = .ok (.getfield 103, 3) := by decide +kernel
theorem dX7_type_51 : decode cX7_type 51 = .ok (.iconst 1, 1) := by decide +kernel
theorem dX7_type_52 : decode cX7_type 52 = .ok (.iadd, 1) := by decide +kernel
theorem dX7_type_53 : decode cX7_type 53 = .ok (.putfield 103, 3) := by decide +kernel
theorem dX7_type_56 : decode cX7_type 56 = .ok (.aload_n 0, 1) := by decide +kernel
theorem dX7_type_57 : decode cX7_type 57 = .ok (.getfield 103, 3) := by decide +kernel
theorem dX7_type_60 : decode cX7_type 60 = .ok (.ireturn, 1) := by decide +kernel
theorem dX7_written_0 : decode cX7_written 0 = .ok (.aload_n 0, 1) := by decide +kernel
theorem dX7_written_1 : decode cX7_written 1 = .ok (.iconst 0, 1) := by decide +kernel
theorem dX7_written_2 : decode cX7_written 2 = .ok (.putfield 29, 3) := by decide +kernel
theorem dX7_written_5 : decode cX7_written 5 = .ok (.aload_n 0, 1) := by decide +kernel
theorem dX7_written_6 : decode cX7_written 6 = .ok (.getfield 109, 3) := by decide +kernel
theorem dX7_written_9 : decode cX7_written 9 = .ok (.ireturn, 1) := by decide +kernel
theorem dX7_text_0 : decode cX7_text 0 = .ok (.aload_n 0, 1) := by decide +kernel
theorem dX7_text_1 : decode cX7_text 1 = .ok (.iload_n 1, 1) := by decide +kernel
theorem dX7_text_2 : decode cX7_text 2 = .ok (.ifCond .lt 23, 3) := by decide +kernel
theorem dX7_text_5 : decode cX7_text 5 = .ok (.iload_n 1, 1) := by decide +kernel
theorem dX7_text_6 : decode cX7_text 6 = .ok (.aload_n 0, 1) := by decide +kernel
theorem dX7_text_7 : decode cX7_text 7 = .ok (.getfield 109, 3) := by decide +kernel
theorem dX7_text_10 : decode cX7_text 10 = .ok (.if_icmp .ge 15, 3) := by decide +kernel
theorem dX7_text_13 : decode cX7_text 13 = .ok (.iload_n 1, 1) := by decide +kernel
theorem dX7_text_14 : decode cX7_text 14 = .ok (.aload_n 0, 1) := by decide +kernel
theorem dX7_text_15 : decode cX7_text 15 = .ok (.getfield 109, 3) := by decide +kernel
theorem dX7_text_18 : decode cX7_text 18 = .ok (.sipush 256, 3) := by decide +kernel
theorem dX7_text_21 : decode cX7_text 21 = .ok (.isub, 1) := by decide +kernel
theorem dX7_text_22 : decode cX7_text 22 = .ok (.if_icmp .ge 7, 3) := by decide +kernel
theorem dX7_text_25 : decode cX7_text 25 = .ok (.iconst 1, 1) := by decide +kernel
theorem dX7_text_26 : decode cX7_text 26 = .ok (.goto 4, 3) := by decide +kernel
theorem dX7_text_29 : decode cX7_text 29 = .ok (.iconst 0, 1) := by decide +kernel
theorem dX7_text_30 : decode cX7_text 30 = .ok (.putfield 29, 3) := by decide +kernel
theorem dX7_text_33 : decode cX7_text 33 = .ok (.aload_n 0, 1) := by decide +kernel
theorem dX7_text_34 : decode cX7_text 34 = .ok (.getfield 29, 3) := by decide +kernel
theorem dX7_text_37 : decode cX7_text 37 = .ok (.ifCond .le 7, 3) := by decide +kernel
theorem dX7_text_40 : decode cX7_text 40 = .ok (.iconst 0, 1) := by decide +kernel
theorem dX7_text_41 : decode cX7_text 41 = .ok (.goto 13, 3) := by decide +kernel
theorem dX7_text_44 : decode cX7_text 44 = .ok (.aload_n 0, 1) := by decide +kernel
theorem dX7_text_45 : decode cX7_text 45 = .ok (.getfield 26, 3) := by decide +kernel
theorem dX7_text_48 : decode cX7_text 48 = .ok (.iload_n 1, 1) := by decide +kernel
theorem dX7_text_49 : decode cX7_text 49 = .ok (.sipush 256, 3) := by decide +kernel
theorem dX7_text_52 : decode cX7_text 52 = .ok (.irem, 1) := by decide +kernel
theorem dX7_text_53 : decode cX7_text 53 = .ok (.iaload, 1) := by decide +kernel
theorem dX7_text_54 : decode cX7_text 54 = .ok (.ireturn, 1) := by decide +kernel
theorem dX7_want_0 : decode cX7_want 0 = .ok (.aload_n 0, 1) := by decide +kernel
theorem dX7_want_1 : decode cX7_want 1 = .ok (.iload_n 1, 1) := by decide +kernel
theorem dX7_want_2 : decode cX7_want 2 = .ok (.ifCond .lt 9, 3) := by decide +kernel
theorem dX7_want_5 : decode cX7_want 5 = .ok (.iload_n 1, 1) := by decide +kernel
theorem dX7_want_6 : decode cX7_want 6 = .ok (.bipush 7, 2) := by decide +kernel
theorem dX7_want_8 : decode cX7_want 8 = .ok (.if_icmp .le 7, 3) := by decide +kernel
theorem dX7_want_11 : decode cX7_want 11 = .ok (.iconst 1, 1) := by decide +kernel
theorem dX7_want_12 : decode cX7_want 12 = .ok (.goto 4, 3) := by decide +kernel
theorem dX7_want_15 : decode cX7_want 15 = .ok (.iconst 0, 1) := by decide +kernel
theorem dX7_want_16 : decode cX7_want 16 = .ok (.putfield 29, 3) := by decide +kernel
theorem dX7_want_19 : decode cX7_want 19 = .ok (.aload_n 0, 1) := by decide +kernel
theorem dX7_want_20 : decode cX7_want 20 = .ok (.getfield 29, 3) := by decide +kernel
theorem dX7_want_23 : decode cX7_want 23 = .ok (.ifCond .ne 8, 3) := by decide +kernel
theorem dX7_want_26 : decode cX7_want 26 = .ok (.aload_n 0, 1) := by decide +kernel
theorem dX7_want_27 : decode cX7_want 27 = .ok (.iload_n 1, 1) := by decide +kernel
theorem dX7_want_28 : decode cX7_want 28 = .ok (.putfield 19, 3) := by decide +kernel
theorem dX7_want_31 : decode cX7_want 31 = .ok (.return_, 1) := by decide +kernel
theorem dX7_cycles_0 : decode cX7_cycles 0 = .ok (.aload_n 0, 1) := by decide +kernel
theorem dX7_cycles_1 : decode cX7_cycles 1 = .ok (.iconst 0, 1) := by decide +kernel
theorem dX7_cycles_2 : decode cX7_cycles 2 = .ok (.putfield 29, 3) := by decide +kernel
theorem dX7_cycles_5 : decode cX7_cycles 5 = .ok (.aload_n 0, 1) := by decide +kernel
theorem dX7_cycles_6 : decode cX7_cycles 6 = .ok (.getfield 137, 3) := by decide +kernel
theorem dX7_cycles_9 : decode cX7_cycles 9 = .ok (.lreturn, 1) := by decide +kernel
theorem dX7_told_0 : decode cX7_told 0 = .ok (.aload_n 0, 1) := by decide +kernel
theorem dX7_told_1 : decode cX7_told 1 = .ok (.iload_n 1, 1) := by decide +kernel
theorem dX7_told_2 : decode cX7_told 2 = .ok (.ifCond .lt 8, 3) := by decide +kernel
theorem dX7_told_5 : decode cX7_told 5 = .ok (.iload_n 1, 1) := by decide +kernel
theorem dX7_told_6 : decode cX7_told 6 = .ok (.iconst 5, 1) := by decide +kernel
theorem dX7_told_7 : decode cX7_told 7 = .ok (.if_icmp .le 7, 3) := by decide +kernel
theorem dX7_told_10 : decode cX7_told 10 = .ok (.iconst 1, 1) := by decide +kernel
theorem dX7_told_11 : decode cX7_told 11 = .ok (.goto 4, 3) := by decide +kernel
theorem dX7_told_14 : decode cX7_told 14 = .ok (.iconst 0, 1) := by decide +kernel
theorem dX7_told_15 : decode cX7_told 15 = .ok (.putfield 29, 3) := by decide +kernel
theorem dX7_told_18 : decode cX7_told 18 = .ok (.aload_n 0, 1) := by decide +kernel
theorem dX7_told_19 : decode cX7_told 19 = .ok (.getfield 29, 3) := by decide +kernel
theorem dX7_told_22 : decode cX7_told 22 = .ok (.ifCond .le 5, 3) := by decide +kernel
theorem dX7_told_25 : decode cX7_told 25 = .ok (.iconst 0, 1) := by decide +kernel
theorem dX7_told_26 : decode cX7_told 26 = .ok (.ireturn, 1) := by decide +kernel
theorem dX7_told_27 : decode cX7_told 27 = .ok (.iload_n 1, 1) := by decide +kernel
theorem dX7_told_28 : decode cX7_told 28 = .ok (.ifCond .ne 18, 3) := by decide +kernel
theorem dX7_told_31 : decode cX7_told 31 = .ok (.aload_n 0, 1) := by decide +kernel
theorem dX7_told_32 : decode cX7_told 32 = .ok (.getfield 204, 3) := by decide +kernel
theorem dX7_told_35 : decode cX7_told 35 = .ok (.ifCond .eq 7, 3) := by decide +kernel
theorem dX7_told_38 : decode cX7_told 38 = .ok (.iconst 1, 1) := by decide +kernel
theorem dX7_told_39 : decode cX7_told 39 = .ok (.goto 67, 3) := by decide +kernel
theorem dX7_told_42 : decode cX7_told 42 = .ok (.iconst 0, 1) := by decide +kernel
theorem dX7_told_43 : decode cX7_told 43 = .ok (.goto 63, 3) := by decide +kernel
theorem dX7_told_46 : decode cX7_told 46 = .ok (.iload_n 1, 1) := by decide +kernel
theorem dX7_told_47 : decode cX7_told 47 = .ok (.iconst 1, 1) := by decide +kernel
theorem dX7_told_48 : decode cX7_told 48 = .ok (.if_icmp .ne 18, 3) := by decide +kernel
theorem dX7_told_51 : decode cX7_told 51 = .ok (.aload_n 0, 1) := by decide +kernel
theorem dX7_told_52 : decode cX7_told 52 = .ok (.getfield 196, 3) := by decide +kernel
theorem dX7_told_55 : decode cX7_told 55 = .ok (.ifCond .eq 7, 3) := by decide +kernel
theorem dX7_told_58 : decode cX7_told 58 = .ok (.iconst 1, 1) := by decide +kernel
theorem dX7_told_59 : decode cX7_told 59 = .ok (.goto 47, 3) := by decide +kernel
theorem dX7_told_62 : decode cX7_told 62 = .ok (.iconst 0, 1) := by decide +kernel
theorem dX7_told_63 : decode cX7_told 63 = .ok (.goto 43, 3) := by decide +kernel
theorem dX7_told_66 : decode cX7_told 66 = .ok (.iload_n 1, 1) := by decide +kernel
theorem dX7_told_67 : decode cX7_told 67 = .ok (.iconst 2, 1) := by decide +kernel
theorem dX7_told_68 : decode cX7_told 68 = .ok (.if_icmp .ne 10, 3) := by decide +kernel
theorem dX7_told_71 : decode cX7_told 71 = .ok (.aload_n 0, 1) := by decide +kernel
theorem dX7_told_72 : decode cX7_told 72 = .ok (.getfield 19, 3) := by decide +kernel
theorem dX7_told_75 : decode cX7_told 75 = .ok (.goto 31, 3) := by decide +kernel
theorem dX7_told_78 : decode cX7_told 78 = .ok (.iload_n 1, 1) := by decide +kernel
theorem dX7_told_79 : decode cX7_told 79 = .ok (.iconst 3, 1) := by decide +kernel
theorem dX7_told_80 : decode cX7_told 80 = .ok (.if_icmp .ne 10, 3) := by decide +kernel
theorem dX7_told_83 : decode cX7_told 83 = .ok (.aload_n 0, 1) := by decide +kernel
theorem dX7_told_84 : decode cX7_told 84 = .ok (.getfield 106, 3) := by decide +kernel
theorem dX7_told_87 : decode cX7_told 87 = .ok (.goto 19, 3) := by decide +kernel
theorem dX7_told_90 : decode cX7_told 90 = .ok (.iload_n 1, 1) := by decide +kernel
theorem dX7_told_91 : decode cX7_told 91 = .ok (.iconst 4, 1) := by decide +kernel
theorem dX7_told_92 : decode cX7_told 92 = .ok (.if_icmp .ne 10, 3) := by decide +kernel
theorem dX7_told_95 : decode cX7_told 95 = .ok (.aload_n 0, 1) := by decide +kernel
theorem dX7_told_96 : decode cX7_told 96 = .ok (.getfield 128, 3) := by decide +kernel
theorem dX7_told_99 : decode cX7_told 99 = .ok (.goto 7, 3) := by decide +kernel
theorem dX7_told_102 : decode cX7_told 102 = .ok (.aload_n 0, 1) := by decide +kernel
theorem dX7_told_103 : decode cX7_told 103 = .ok (.getfield 115, 3) := by decide +kernel
theorem dX7_told_106 : decode cX7_told 106 = .ok (.ireturn, 1) := by decide +kernel
theorem dJ6_bitCount_0f7a4_0 : decode cJ6_bitCount_0f7a4 0 = .ok (.iload_n 0, 1) := by decide +kernel
theorem dJ6_bitCount_0f7a4_1 : decode cJ6_bitCount_0f7a4 1 = .ok (.iload_n 0, 1) := by decide +kernel
theorem dJ6_bitCount_0f7a4_2 : decode cJ6_bitCount_0f7a4 2 = .ok (.iconst 1, 1) := by decide +kernel
theorem dJ6_bitCount_0f7a4_3 : decode cJ6_bitCount_0f7a4 3 = .ok (.iushr, 1) := by decide +kernel
theorem dJ6_bitCount_0f7a4_4 : decode cJ6_bitCount_0f7a4 4 = .ok (.ldc_w 265, 3) := by decide +kernel
theorem dJ6_bitCount_0f7a4_7 : decode cJ6_bitCount_0f7a4 7 = .ok (.iand, 1) := by decide +kernel
theorem dJ6_bitCount_0f7a4_8 : decode cJ6_bitCount_0f7a4 8 = .ok (.isub, 1) := by decide +kernel
theorem dJ6_bitCount_0f7a4_9 : decode cJ6_bitCount_0f7a4 9 = .ok (.istore_n 0, 1) := by decide +kernel
theorem dJ6_bitCount_0f7a4_10 : decode cJ6_bitCount_0f7a4 10 = .ok (.iload_n 0, 1) := by decide +kernel
theorem dJ6_bitCount_0f7a4_11 : decode cJ6_bitCount_0f7a4 11 = .ok (.ldc_w 266, 3) := by decide +kernel
theorem dJ6_bitCount_0f7a4_14 : decode cJ6_bitCount_0f7a4 14 = .ok (.iand, 1) := by decide +kernel
theorem dJ6_bitCount_0f7a4_15 : decode cJ6_bitCount_0f7a4 15 = .ok (.iload_n 0, 1) := by decide +kernel
theorem dJ6_bitCount_0f7a4_16 : decode cJ6_bitCount_0f7a4 16 = .ok (.iconst 2, 1) := by decide +kernel
theorem dJ6_bitCount_0f7a4_17 : decode cJ6_bitCount_0f7a4 17 = .ok (.iushr, 1) := by decide +kernel
theorem dJ6_bitCount_0f7a4_18 : decode cJ6_bitCount_0f7a4 18 = .ok (.ldc_w 266, 3) := by decide +kernel
theorem dJ6_bitCount_0f7a4_21 : decode cJ6_bitCount_0f7a4 21 = .ok (.iand, 1) := by decide +kernel
theorem dJ6_bitCount_0f7a4_22 : decode cJ6_bitCount_0f7a4 22 = .ok (.iadd, 1) := by decide +kernel
theorem dJ6_bitCount_0f7a4_23 : decode cJ6_bitCount_0f7a4 23 = .ok (.istore_n 0, 1) := by decide +kernel
theorem dJ6_bitCount_0f7a4_24 : decode cJ6_bitCount_0f7a4 24 = .ok (.iload_n 0, 1) := by decide +kernel
theorem dJ6_bitCount_0f7a4_25 : decode cJ6_bitCount_0f7a4 25 = .ok (.iload_n 0, 1) := by decide +kernel
theorem dJ6_bitCount_0f7a4_26 : decode cJ6_bitCount_0f7a4 26 = .ok (.iconst 4, 1) := by decide +kernel
theorem dJ6_bitCount_0f7a4_27 : decode cJ6_bitCount_0f7a4 27 = .ok (.iushr, 1) := by decide +kernel
theorem dJ6_bitCount_0f7a4_28 : decode cJ6_bitCount_0f7a4 28 = .ok (.iadd, 1) := by decide +kernel
theorem dJ6_bitCount_0f7a4_29 : decode cJ6_bitCount_0f7a4 29 = .ok (.ldc_w 267, 3) := by decide +kernel
theorem dJ6_bitCount_0f7a4_32 : decode cJ6_bitCount_0f7a4 32 = .ok (.iand, 1) := by decide +kernel
theorem dJ6_bitCount_0f7a4_33 : decode cJ6_bitCount_0f7a4 33 = .ok (.istore_n 0, 1) := by decide +kernel
theorem dJ6_bitCount_0f7a4_34 : decode cJ6_bitCount_0f7a4 34 = .ok (.iload_n 0, 1) := by decide +kernel
theorem dJ6_bitCount_0f7a4_35 : decode cJ6_bitCount_0f7a4 35 = .ok (.iload_n 0, 1) := by decide +kernel
theorem dJ6_bitCount_0f7a4_36 : decode cJ6_bitCount_0f7a4 36 = .ok (.bipush 8, 2) := by decide +kernel
theorem dJ6_bitCount_0f7a4_38 : decode cJ6_bitCount_0f7a4 38 = .ok (.iushr, 1) := by decide +kernel
theorem dJ6_bitCount_0f7a4_39 : decode cJ6_bitCount_0f7a4 39 = .ok (.iadd, 1) := by decide +kernel
theorem dJ6_bitCount_0f7a4_40 : decode cJ6_bitCount_0f7a4 40 = .ok (.istore_n 0, 1) := by decide +kernel
theorem dJ6_bitCount_0f7a4_41 : decode cJ6_bitCount_0f7a4 41 = .ok (.iload_n 0, 1) := by decide +kernel
theorem dJ6_bitCount_0f7a4_42 : decode cJ6_bitCount_0f7a4 42 = .ok (.iload_n 0, 1) := by decide +kernel
theorem dJ6_bitCount_0f7a4_43 : decode cJ6_bitCount_0f7a4 43 = .ok (.bipush 16, 2) := by decide +kernel
theorem dJ6_bitCount_0f7a4_45 : decode cJ6_bitCount_0f7a4 45 = .ok (.iushr, 1) := by decide +kernel
theorem dJ6_bitCount_0f7a4_46 : decode cJ6_bitCount_0f7a4 46 = .ok (.iadd, 1) := by decide +kernel
theorem dJ6_bitCount_0f7a4_47 : decode cJ6_bitCount_0f7a4 47 = .ok (.istore_n 0, 1) := by decide +kernel
theorem dJ6_bitCount_0f7a4_48 : decode cJ6_bitCount_0f7a4 48 = .ok (.iload_n 0, 1) := by decide +kernel
theorem dJ6_bitCount_0f7a4_49 : decode cJ6_bitCount_0f7a4 49 = .ok (.bipush 63, 2) := by decide +kernel
theorem dJ6_bitCount_0f7a4_51 : decode cJ6_bitCount_0f7a4 51 = .ok (.iand, 1) := by decide +kernel
theorem dJ6_bitCount_0f7a4_52 : decode cJ6_bitCount_0f7a4 52 = .ok (.ireturn, 1) := by decide +kernel
end
