section
-- ===== PART A: goes FIRST, ahead of the names: the tables' words, and 'selects' of the private methods out of them =====
/-- a private method of a class that the tables say can be made, by its rows of tables_1 -/
def lw_okq (q : MethodName × Nat) : Prop := (q.1.cls ≠ "java/lang/invoke/MethodHandle" ∧ q.1.cls ≠ "java/lang/invoke/VarHandle") ∧ Cond.instantiable q.1.cls q.2 ∈ tables_1 ∧ Cond.privateMethod q.1 ∈ tables_1 ∧ Cond.instanceMethod q.1 ∈ tables_1
theorem lw_p0 : lw_okq (⟨"SweepBench", "noteNewCircuit", "()V"⟩, 13) := ⟨⟨by decide +kernel, by decide +kernel⟩, List.mem_of_getElem? (i := 15) (by decide +kernel), List.mem_of_getElem? (i := 369) (by decide +kernel), List.mem_of_getElem? (i := 370) (by decide +kernel)⟩
theorem lw_p1 : lw_okq (⟨"SweepBench", "noteMoreOfACircuit", "()V"⟩, 13) := ⟨⟨by decide +kernel, by decide +kernel⟩, List.mem_of_getElem? (i := 15) (by decide +kernel), List.mem_of_getElem? (i := 373) (by decide +kernel), List.mem_of_getElem? (i := 374) (by decide +kernel)⟩
theorem lw_p2 : lw_okq (⟨"SweepBench", "circuitAt", "(I)LSweepBench$Circuit;"⟩, 13) := ⟨⟨by decide +kernel, by decide +kernel⟩, List.mem_of_getElem? (i := 15) (by decide +kernel), List.mem_of_getElem? (i := 381) (by decide +kernel), List.mem_of_getElem? (i := 382) (by decide +kernel)⟩
theorem lw_p3 : lw_okq (⟨"SweepBench$AigerText", "startAnew", "(I)V"⟩, 18) := ⟨⟨by decide +kernel, by decide +kernel⟩, List.mem_of_getElem? (i := 218) (by decide +kernel), List.mem_of_getElem? (i := 433) (by decide +kernel), List.mem_of_getElem? (i := 434) (by decide +kernel)⟩
theorem lw_p4 : lw_okq (⟨"SweepBench$AigerText", "parseHead", "()V"⟩, 18) := ⟨⟨by decide +kernel, by decide +kernel⟩, List.mem_of_getElem? (i := 218) (by decide +kernel), List.mem_of_getElem? (i := 440) (by decide +kernel), List.mem_of_getElem? (i := 441) (by decide +kernel)⟩
theorem lw_p5 : lw_okq (⟨"SweepBench$AigerText", "expect", "(I)V"⟩, 18) := ⟨⟨by decide +kernel, by decide +kernel⟩, List.mem_of_getElem? (i := 218) (by decide +kernel), List.mem_of_getElem? (i := 444) (by decide +kernel), List.mem_of_getElem? (i := 445) (by decide +kernel)⟩
theorem lw_p6 : lw_okq (⟨"SweepBench$AigerText", "failIf", "(ZII)V"⟩, 18) := ⟨⟨by decide +kernel, by decide +kernel⟩, List.mem_of_getElem? (i := 218) (by decide +kernel), List.mem_of_getElem? (i := 452) (by decide +kernel), List.mem_of_getElem? (i := 453) (by decide +kernel)⟩
theorem lw_p7 : lw_okq (⟨"SweepBench$AigerText", "parseHeadNumber", "()V"⟩, 18) := ⟨⟨by decide +kernel, by decide +kernel⟩, List.mem_of_getElem? (i := 218) (by decide +kernel), List.mem_of_getElem? (i := 460) (by decide +kernel), List.mem_of_getElem? (i := 461) (by decide +kernel)⟩
theorem lw_p8 : lw_okq (⟨"SweepBench$AigerText", "parseNumber", "()I"⟩, 18) := ⟨⟨by decide +kernel, by decide +kernel⟩, List.mem_of_getElem? (i := 218) (by decide +kernel), List.mem_of_getElem? (i := 464) (by decide +kernel), List.mem_of_getElem? (i := 465) (by decide +kernel)⟩
theorem lw_p9 : lw_okq (⟨"SweepBench$AigerText", "askHeadNumbers", "()V"⟩, 18) := ⟨⟨by decide +kernel, by decide +kernel⟩, List.mem_of_getElem? (i := 218) (by decide +kernel), List.mem_of_getElem? (i := 473) (by decide +kernel), List.mem_of_getElem? (i := 474) (by decide +kernel)⟩
theorem lw_p10 : lw_okq (⟨"SweepBench$AigerText", "isBadHeadNumber", "(I)Z"⟩, 18) := ⟨⟨by decide +kernel, by decide +kernel⟩, List.mem_of_getElem? (i := 218) (by decide +kernel), List.mem_of_getElem? (i := 477) (by decide +kernel), List.mem_of_getElem? (i := 478) (by decide +kernel)⟩
theorem lw_p11 : lw_okq (⟨"SweepBench$AigerText", "hasTooFewVariables", "()Z"⟩, 18) := ⟨⟨by decide +kernel, by decide +kernel⟩, List.mem_of_getElem? (i := 218) (by decide +kernel), List.mem_of_getElem? (i := 481) (by decide +kernel), List.mem_of_getElem? (i := 482) (by decide +kernel)⟩
theorem lw_p12 : lw_okq (⟨"SweepBench$AigerText", "parseInputLines", "()V"⟩, 18) := ⟨⟨by decide +kernel, by decide +kernel⟩, List.mem_of_getElem? (i := 218) (by decide +kernel), List.mem_of_getElem? (i := 485) (by decide +kernel), List.mem_of_getElem? (i := 486) (by decide +kernel)⟩
theorem lw_p13 : lw_okq (⟨"SweepBench$AigerText", "parseDefinition", "(I)V"⟩, 18) := ⟨⟨by decide +kernel, by decide +kernel⟩, List.mem_of_getElem? (i := 218) (by decide +kernel), List.mem_of_getElem? (i := 489) (by decide +kernel), List.mem_of_getElem? (i := 490) (by decide +kernel)⟩
theorem lw_p14 : lw_okq (⟨"SweepBench$AigerText", "parseOutLines", "()V"⟩, 18) := ⟨⟨by decide +kernel, by decide +kernel⟩, List.mem_of_getElem? (i := 218) (by decide +kernel), List.mem_of_getElem? (i := 493) (by decide +kernel), List.mem_of_getElem? (i := 494) (by decide +kernel)⟩
theorem lw_p15 : lw_okq (⟨"SweepBench$AigerText", "parseUse", "()V"⟩, 18) := ⟨⟨by decide +kernel, by decide +kernel⟩, List.mem_of_getElem? (i := 218) (by decide +kernel), List.mem_of_getElem? (i := 497) (by decide +kernel), List.mem_of_getElem? (i := 498) (by decide +kernel)⟩
def lw_privs_1 : List (MethodName × Nat) := [(⟨"SweepBench", "noteNewCircuit", "()V"⟩, 13), (⟨"SweepBench", "noteMoreOfACircuit", "()V"⟩, 13), (⟨"SweepBench", "circuitAt", "(I)LSweepBench$Circuit;"⟩, 13), (⟨"SweepBench$AigerText", "startAnew", "(I)V"⟩, 18), (⟨"SweepBench$AigerText", "parseHead", "()V"⟩, 18), (⟨"SweepBench$AigerText", "expect", "(I)V"⟩, 18), (⟨"SweepBench$AigerText", "failIf", "(ZII)V"⟩, 18), (⟨"SweepBench$AigerText", "parseHeadNumber", "()V"⟩, 18), (⟨"SweepBench$AigerText", "parseNumber", "()I"⟩, 18), (⟨"SweepBench$AigerText", "askHeadNumbers", "()V"⟩, 18), (⟨"SweepBench$AigerText", "isBadHeadNumber", "(I)Z"⟩, 18), (⟨"SweepBench$AigerText", "hasTooFewVariables", "()Z"⟩, 18), (⟨"SweepBench$AigerText", "parseInputLines", "()V"⟩, 18), (⟨"SweepBench$AigerText", "parseDefinition", "(I)V"⟩, 18), (⟨"SweepBench$AigerText", "parseOutLines", "()V"⟩, 18), (⟨"SweepBench$AigerText", "parseUse", "()V"⟩, 18)]
theorem lw_r1 : ∀ q ∈ lw_privs_1, lw_okq q := List.forall_mem_cons.mpr ⟨lw_p0, List.forall_mem_cons.mpr ⟨lw_p1, List.forall_mem_cons.mpr ⟨lw_p2, List.forall_mem_cons.mpr ⟨lw_p3, List.forall_mem_cons.mpr ⟨lw_p4, List.forall_mem_cons.mpr ⟨lw_p5, List.forall_mem_cons.mpr ⟨lw_p6, List.forall_mem_cons.mpr ⟨lw_p7, List.forall_mem_cons.mpr ⟨lw_p8, List.forall_mem_cons.mpr ⟨lw_p9, List.forall_mem_cons.mpr ⟨lw_p10, List.forall_mem_cons.mpr ⟨lw_p11, List.forall_mem_cons.mpr ⟨lw_p12, List.forall_mem_cons.mpr ⟨lw_p13, List.forall_mem_cons.mpr ⟨lw_p14, List.forall_mem_cons.mpr ⟨lw_p15, fun _ h => absurd h List.not_mem_nil⟩⟩⟩⟩⟩⟩⟩⟩⟩⟩⟩⟩⟩⟩⟩⟩
theorem lw_p16 : lw_okq (⟨"SweepBench$AigerText", "parseAndLines", "()V"⟩, 18) := ⟨⟨by decide +kernel, by decide +kernel⟩, List.mem_of_getElem? (i := 218) (by decide +kernel), List.mem_of_getElem? (i := 501) (by decide +kernel), List.mem_of_getElem? (i := 502) (by decide +kernel)⟩
theorem lw_p17 : lw_okq (⟨"SweepBench$AigerText", "findNotDefined", "()V"⟩, 18) := ⟨⟨by decide +kernel, by decide +kernel⟩, List.mem_of_getElem? (i := 218) (by decide +kernel), List.mem_of_getElem? (i := 505) (by decide +kernel), List.mem_of_getElem? (i := 506) (by decide +kernel)⟩
theorem lw_p18 : lw_okq (⟨"SweepBench$AndOrder", "firstReady", "()I"⟩, 6) := ⟨⟨by decide +kernel, by decide +kernel⟩, List.mem_of_getElem? (i := 289) (by decide +kernel), List.mem_of_getElem? (i := 514) (by decide +kernel), List.mem_of_getElem? (i := 515) (by decide +kernel)⟩
theorem lw_p19 : lw_okq (⟨"SweepBench$AndOrder", "isThere", "(I)Z"⟩, 6) := ⟨⟨by decide +kernel, by decide +kernel⟩, List.mem_of_getElem? (i := 289) (by decide +kernel), List.mem_of_getElem? (i := 522) (by decide +kernel), List.mem_of_getElem? (i := 523) (by decide +kernel)⟩
theorem lw_p20 : lw_okq (⟨"SweepBench$AndOrder", "failAtFirstLoop", "()V"⟩, 6) := ⟨⟨by decide +kernel, by decide +kernel⟩, List.mem_of_getElem? (i := 289) (by decide +kernel), List.mem_of_getElem? (i := 530) (by decide +kernel), List.mem_of_getElem? (i := 531) (by decide +kernel)⟩
theorem lw_p21 : lw_okq (⟨"SweepBench$AndOrder", "needsItself", "(I)Z"⟩, 6) := ⟨⟨by decide +kernel, by decide +kernel⟩, List.mem_of_getElem? (i := 289) (by decide +kernel), List.mem_of_getElem? (i := 534) (by decide +kernel), List.mem_of_getElem? (i := 535) (by decide +kernel)⟩
theorem lw_p22 : lw_okq (⟨"SweepBench$AndOrder", "reachSides", "(I)V"⟩, 6) := ⟨⟨by decide +kernel, by decide +kernel⟩, List.mem_of_getElem? (i := 289) (by decide +kernel), List.mem_of_getElem? (i := 538) (by decide +kernel), List.mem_of_getElem? (i := 539) (by decide +kernel)⟩
theorem lw_p23 : lw_okq (⟨"SweepBench$AndOrder", "reach", "(I)V"⟩, 6) := ⟨⟨by decide +kernel, by decide +kernel⟩, List.mem_of_getElem? (i := 289) (by decide +kernel), List.mem_of_getElem? (i := 542) (by decide +kernel), List.mem_of_getElem? (i := 543) (by decide +kernel)⟩
theorem lw_p24 : lw_okq (⟨"SweepBench$AndOrder", "signalOf", "(I)I"⟩, 6) := ⟨⟨by decide +kernel, by decide +kernel⟩, List.mem_of_getElem? (i := 289) (by decide +kernel), List.mem_of_getElem? (i := 552) (by decide +kernel), List.mem_of_getElem? (i := 553) (by decide +kernel)⟩
theorem lw_p25 : lw_okq (⟨"SweepBench", "isInputWord", "(I)Z"⟩, 13) := ⟨⟨by decide +kernel, by decide +kernel⟩, List.mem_of_getElem? (i := 15) (by decide +kernel), List.mem_of_getElem? (i := 565) (by decide +kernel), List.mem_of_getElem? (i := 566) (by decide +kernel)⟩
theorem lw_p26 : lw_okq (⟨"SweepBench$Graph", "restart", "(I)V"⟩, 13) := ⟨⟨by decide +kernel, by decide +kernel⟩, List.mem_of_getElem? (i := 98) (by decide +kernel), List.mem_of_getElem? (i := 573) (by decide +kernel), List.mem_of_getElem? (i := 574) (by decide +kernel)⟩
theorem lw_p27 : lw_okq (⟨"SweepBench$Graph", "makeFalse", "()V"⟩, 13) := ⟨⟨by decide +kernel, by decide +kernel⟩, List.mem_of_getElem? (i := 98) (by decide +kernel), List.mem_of_getElem? (i := 577) (by decide +kernel), List.mem_of_getElem? (i := 578) (by decide +kernel)⟩
theorem lw_p28 : lw_okq (⟨"SweepBench$Graph", "addNode", "(II)V"⟩, 13) := ⟨⟨by decide +kernel, by decide +kernel⟩, List.mem_of_getElem? (i := 98) (by decide +kernel), List.mem_of_getElem? (i := 581) (by decide +kernel), List.mem_of_getElem? (i := 582) (by decide +kernel)⟩
theorem lw_p29 : lw_okq (⟨"SweepBench$Graph", "makeInput", "(I)V"⟩, 13) := ⟨⟨by decide +kernel, by decide +kernel⟩, List.mem_of_getElem? (i := 98) (by decide +kernel), List.mem_of_getElem? (i := 585) (by decide +kernel), List.mem_of_getElem? (i := 586) (by decide +kernel)⟩
theorem lw_p30 : lw_okq (⟨"SweepBench$Graph", "makeGate", "(LSweepBench$Circuit;I)V"⟩, 13) := ⟨⟨by decide +kernel, by decide +kernel⟩, List.mem_of_getElem? (i := 98) (by decide +kernel), List.mem_of_getElem? (i := 592) (by decide +kernel), List.mem_of_getElem? (i := 593) (by decide +kernel)⟩
theorem lw_p31 : lw_okq (⟨"SweepBench$Graph", "makeKind", "(IIII)I"⟩, 13) := ⟨⟨by decide +kernel, by decide +kernel⟩, List.mem_of_getElem? (i := 98) (by decide +kernel), List.mem_of_getElem? (i := 600) (by decide +kernel), List.mem_of_getElem? (i := 601) (by decide +kernel)⟩
def lw_privs_2 : List (MethodName × Nat) := [(⟨"SweepBench$AigerText", "parseAndLines", "()V"⟩, 18), (⟨"SweepBench$AigerText", "findNotDefined", "()V"⟩, 18), (⟨"SweepBench$AndOrder", "firstReady", "()I"⟩, 6), (⟨"SweepBench$AndOrder", "isThere", "(I)Z"⟩, 6), (⟨"SweepBench$AndOrder", "failAtFirstLoop", "()V"⟩, 6), (⟨"SweepBench$AndOrder", "needsItself", "(I)Z"⟩, 6), (⟨"SweepBench$AndOrder", "reachSides", "(I)V"⟩, 6), (⟨"SweepBench$AndOrder", "reach", "(I)V"⟩, 6), (⟨"SweepBench$AndOrder", "signalOf", "(I)I"⟩, 6), (⟨"SweepBench", "isInputWord", "(I)Z"⟩, 13), (⟨"SweepBench$Graph", "restart", "(I)V"⟩, 13), (⟨"SweepBench$Graph", "makeFalse", "()V"⟩, 13), (⟨"SweepBench$Graph", "addNode", "(II)V"⟩, 13), (⟨"SweepBench$Graph", "makeInput", "(I)V"⟩, 13), (⟨"SweepBench$Graph", "makeGate", "(LSweepBench$Circuit;I)V"⟩, 13), (⟨"SweepBench$Graph", "makeKind", "(IIII)I"⟩, 13)]
theorem lw_r2 : ∀ q ∈ lw_privs_2, lw_okq q := List.forall_mem_cons.mpr ⟨lw_p16, List.forall_mem_cons.mpr ⟨lw_p17, List.forall_mem_cons.mpr ⟨lw_p18, List.forall_mem_cons.mpr ⟨lw_p19, List.forall_mem_cons.mpr ⟨lw_p20, List.forall_mem_cons.mpr ⟨lw_p21, List.forall_mem_cons.mpr ⟨lw_p22, List.forall_mem_cons.mpr ⟨lw_p23, List.forall_mem_cons.mpr ⟨lw_p24, List.forall_mem_cons.mpr ⟨lw_p25, List.forall_mem_cons.mpr ⟨lw_p26, List.forall_mem_cons.mpr ⟨lw_p27, List.forall_mem_cons.mpr ⟨lw_p28, List.forall_mem_cons.mpr ⟨lw_p29, List.forall_mem_cons.mpr ⟨lw_p30, List.forall_mem_cons.mpr ⟨lw_p31, fun _ h => absurd h List.not_mem_nil⟩⟩⟩⟩⟩⟩⟩⟩⟩⟩⟩⟩⟩⟩⟩⟩
theorem lw_p32 : lw_okq (⟨"SweepBench$Graph", "makeAnd", "(II)I"⟩, 13) := ⟨⟨by decide +kernel, by decide +kernel⟩, List.mem_of_getElem? (i := 98) (by decide +kernel), List.mem_of_getElem? (i := 604) (by decide +kernel), List.mem_of_getElem? (i := 605) (by decide +kernel)⟩
theorem lw_p33 : lw_okq (⟨"SweepBench$Graph", "addAnd", "(II)I"⟩, 13) := ⟨⟨by decide +kernel, by decide +kernel⟩, List.mem_of_getElem? (i := 98) (by decide +kernel), List.mem_of_getElem? (i := 614) (by decide +kernel), List.mem_of_getElem? (i := 615) (by decide +kernel)⟩
theorem lw_p34 : lw_okq (⟨"SweepBench$Graph", "wordOf", "(II)J"⟩, 13) := ⟨⟨by decide +kernel, by decide +kernel⟩, List.mem_of_getElem? (i := 98) (by decide +kernel), List.mem_of_getElem? (i := 618) (by decide +kernel), List.mem_of_getElem? (i := 619) (by decide +kernel)⟩
theorem lw_p35 : lw_okq (⟨"SweepBench$Graph", "makeChoice", "(III)I"⟩, 13) := ⟨⟨by decide +kernel, by decide +kernel⟩, List.mem_of_getElem? (i := 98) (by decide +kernel), List.mem_of_getElem? (i := 622) (by decide +kernel), List.mem_of_getElem? (i := 623) (by decide +kernel)⟩
theorem lw_p36 : lw_okq (⟨"SweepBench$Graph", "makeMajority", "(III)I"⟩, 13) := ⟨⟨by decide +kernel, by decide +kernel⟩, List.mem_of_getElem? (i := 98) (by decide +kernel), List.mem_of_getElem? (i := 626) (by decide +kernel), List.mem_of_getElem? (i := 627) (by decide +kernel)⟩
theorem lw_p37 : lw_okq (⟨"SweepBench", "bringUpGroups", "()V"⟩, 13) := ⟨⟨by decide +kernel, by decide +kernel⟩, List.mem_of_getElem? (i := 15) (by decide +kernel), List.mem_of_getElem? (i := 660) (by decide +kernel), List.mem_of_getElem? (i := 661) (by decide +kernel)⟩
theorem lw_p38 : lw_okq (⟨"SweepBench$Groups", "leaderOf", "(ILSweepBench$Graph;LSweepBench$VectorSet;)I"⟩, 3) := ⟨⟨by decide +kernel, by decide +kernel⟩, List.mem_of_getElem? (i := 153) (by decide +kernel), List.mem_of_getElem? (i := 668) (by decide +kernel), List.mem_of_getElem? (i := 669) (by decide +kernel)⟩
theorem lw_p39 : lw_okq (⟨"SweepBench$Sweeper", "representativeOf", "(ILSweepBench$Graph;LSweepBench$VectorSet;)I"⟩, 6) := ⟨⟨by decide +kernel, by decide +kernel⟩, List.mem_of_getElem? (i := 171) (by decide +kernel), List.mem_of_getElem? (i := 696) (by decide +kernel), List.mem_of_getElem? (i := 697) (by decide +kernel)⟩
theorem lw_p40 : lw_okq (⟨"SweepBench$Sweeper", "askCandidate", "(IILSweepBench$Graph;LSweepBench$VectorSet;)I"⟩, 6) := ⟨⟨by decide +kernel, by decide +kernel⟩, List.mem_of_getElem? (i := 171) (by decide +kernel), List.mem_of_getElem? (i := 700) (by decide +kernel), List.mem_of_getElem? (i := 701) (by decide +kernel)⟩
theorem lw_p41 : lw_okq (⟨"SweepBench$Sweeper", "markOuts", "(LSweepBench$Circuit;)V"⟩, 6) := ⟨⟨by decide +kernel, by decide +kernel⟩, List.mem_of_getElem? (i := 171) (by decide +kernel), List.mem_of_getElem? (i := 720) (by decide +kernel), List.mem_of_getElem? (i := 721) (by decide +kernel)⟩
theorem lw_p42 : lw_okq (⟨"SweepBench$Sweeper", "mark", "(I)V"⟩, 6) := ⟨⟨by decide +kernel, by decide +kernel⟩, List.mem_of_getElem? (i := 171) (by decide +kernel), List.mem_of_getElem? (i := 725) (by decide +kernel), List.mem_of_getElem? (i := 726) (by decide +kernel)⟩
theorem lw_p43 : lw_okq (⟨"SweepBench", "bothHaveOut", "(I)Z"⟩, 13) := ⟨⟨by decide +kernel, by decide +kernel⟩, List.mem_of_getElem? (i := 15) (by decide +kernel), List.mem_of_getElem? (i := 741) (by decide +kernel), List.mem_of_getElem? (i := 742) (by decide +kernel)⟩
theorem lw_p44 : lw_okq (⟨"SweepBench", "firstWordApart", "(I)I"⟩, 13) := ⟨⟨by decide +kernel, by decide +kernel⟩, List.mem_of_getElem? (i := 15) (by decide +kernel), List.mem_of_getElem? (i := 745) (by decide +kernel), List.mem_of_getElem? (i := 746) (by decide +kernel)⟩
theorem lw_p45 : lw_okq (⟨"SweepBenchModel", "empty", "(I)V"⟩, 42) := ⟨⟨by decide +kernel, by decide +kernel⟩, List.mem_of_getElem? (i := 758) (by decide +kernel), List.mem_of_getElem? (i := 898) (by decide +kernel), List.mem_of_getElem? (i := 899) (by decide +kernel)⟩
theorem lw_p46 : lw_okq (⟨"SweepBenchModel", "changed", "()V"⟩, 42) := ⟨⟨by decide +kernel, by decide +kernel⟩, List.mem_of_getElem? (i := 758) (by decide +kernel), List.mem_of_getElem? (i := 902) (by decide +kernel), List.mem_of_getElem? (i := 903) (by decide +kernel)⟩
theorem lw_p47 : lw_okq (⟨"SweepBenchModel", "has", "(II)Z"⟩, 42) := ⟨⟨by decide +kernel, by decide +kernel⟩, List.mem_of_getElem? (i := 758) (by decide +kernel), List.mem_of_getElem? (i := 917) (by decide +kernel), List.mem_of_getElem? (i := 918) (by decide +kernel)⟩
def lw_privs_3 : List (MethodName × Nat) := [(⟨"SweepBench$Graph", "makeAnd", "(II)I"⟩, 13), (⟨"SweepBench$Graph", "addAnd", "(II)I"⟩, 13), (⟨"SweepBench$Graph", "wordOf", "(II)J"⟩, 13), (⟨"SweepBench$Graph", "makeChoice", "(III)I"⟩, 13), (⟨"SweepBench$Graph", "makeMajority", "(III)I"⟩, 13), (⟨"SweepBench", "bringUpGroups", "()V"⟩, 13), (⟨"SweepBench$Groups", "leaderOf", "(ILSweepBench$Graph;LSweepBench$VectorSet;)I"⟩, 3), (⟨"SweepBench$Sweeper", "representativeOf", "(ILSweepBench$Graph;LSweepBench$VectorSet;)I"⟩, 6), (⟨"SweepBench$Sweeper", "askCandidate", "(IILSweepBench$Graph;LSweepBench$VectorSet;)I"⟩, 6), (⟨"SweepBench$Sweeper", "markOuts", "(LSweepBench$Circuit;)V"⟩, 6), (⟨"SweepBench$Sweeper", "mark", "(I)V"⟩, 6), (⟨"SweepBench", "bothHaveOut", "(I)Z"⟩, 13), (⟨"SweepBench", "firstWordApart", "(I)I"⟩, 13), (⟨"SweepBenchModel", "empty", "(I)V"⟩, 42), (⟨"SweepBenchModel", "changed", "()V"⟩, 42), (⟨"SweepBenchModel", "has", "(II)Z"⟩, 42)]
theorem lw_r3 : ∀ q ∈ lw_privs_3, lw_okq q := List.forall_mem_cons.mpr ⟨lw_p32, List.forall_mem_cons.mpr ⟨lw_p33, List.forall_mem_cons.mpr ⟨lw_p34, List.forall_mem_cons.mpr ⟨lw_p35, List.forall_mem_cons.mpr ⟨lw_p36, List.forall_mem_cons.mpr ⟨lw_p37, List.forall_mem_cons.mpr ⟨lw_p38, List.forall_mem_cons.mpr ⟨lw_p39, List.forall_mem_cons.mpr ⟨lw_p40, List.forall_mem_cons.mpr ⟨lw_p41, List.forall_mem_cons.mpr ⟨lw_p42, List.forall_mem_cons.mpr ⟨lw_p43, List.forall_mem_cons.mpr ⟨lw_p44, List.forall_mem_cons.mpr ⟨lw_p45, List.forall_mem_cons.mpr ⟨lw_p46, List.forall_mem_cons.mpr ⟨lw_p47, fun _ h => absurd h List.not_mem_nil⟩⟩⟩⟩⟩⟩⟩⟩⟩⟩⟩⟩⟩⟩⟩⟩
theorem lw_p48 : lw_okq (⟨"SweepBenchModel", "put", "(I)V"⟩, 42) := ⟨⟨by decide +kernel, by decide +kernel⟩, List.mem_of_getElem? (i := 758) (by decide +kernel), List.mem_of_getElem? (i := 933) (by decide +kernel), List.mem_of_getElem? (i := 934) (by decide +kernel)⟩
theorem lw_p49 : lw_okq (⟨"SweepBenchModel", "firstLine", "()Z"⟩, 42) := ⟨⟨by decide +kernel, by decide +kernel⟩, List.mem_of_getElem? (i := 758) (by decide +kernel), List.mem_of_getElem? (i := 945) (by decide +kernel), List.mem_of_getElem? (i := 946) (by decide +kernel)⟩
theorem lw_p50 : lw_okq (⟨"SweepBenchModel", "is", "(I)Z"⟩, 42) := ⟨⟨by decide +kernel, by decide +kernel⟩, List.mem_of_getElem? (i := 758) (by decide +kernel), List.mem_of_getElem? (i := 949) (by decide +kernel), List.mem_of_getElem? (i := 950) (by decide +kernel)⟩
theorem lw_p51 : lw_okq (⟨"SweepBenchModel", "fails", "(II)Z"⟩, 42) := ⟨⟨by decide +kernel, by decide +kernel⟩, List.mem_of_getElem? (i := 758) (by decide +kernel), List.mem_of_getElem? (i := 953) (by decide +kernel), List.mem_of_getElem? (i := 954) (by decide +kernel)⟩
theorem lw_p52 : lw_okq (⟨"SweepBenchModel", "number", "()Z"⟩, 42) := ⟨⟨by decide +kernel, by decide +kernel⟩, List.mem_of_getElem? (i := 758) (by decide +kernel), List.mem_of_getElem? (i := 957) (by decide +kernel), List.mem_of_getElem? (i := 958) (by decide +kernel)⟩
theorem lw_p53 : lw_okq (⟨"SweepBenchModel", "lines", "()Z"⟩, 42) := ⟨⟨by decide +kernel, by decide +kernel⟩, List.mem_of_getElem? (i := 758) (by decide +kernel), List.mem_of_getElem? (i := 961) (by decide +kernel), List.mem_of_getElem? (i := 962) (by decide +kernel)⟩
theorem lw_p54 : lw_okq (⟨"SweepBenchModel", "defines", "(III)Z"⟩, 42) := ⟨⟨by decide +kernel, by decide +kernel⟩, List.mem_of_getElem? (i := 758) (by decide +kernel), List.mem_of_getElem? (i := 965) (by decide +kernel), List.mem_of_getElem? (i := 966) (by decide +kernel)⟩
theorem lw_p55 : lw_okq (⟨"SweepBenchModel", "uses", "(I)Z"⟩, 42) := ⟨⟨by decide +kernel, by decide +kernel⟩, List.mem_of_getElem? (i := 758) (by decide +kernel), List.mem_of_getElem? (i := 969) (by decide +kernel), List.mem_of_getElem? (i := 970) (by decide +kernel)⟩
theorem lw_p56 : lw_okq (⟨"SweepBenchModel", "at0", "(I)I"⟩, 42) := ⟨⟨by decide +kernel, by decide +kernel⟩, List.mem_of_getElem? (i := 758) (by decide +kernel), List.mem_of_getElem? (i := 973) (by decide +kernel), List.mem_of_getElem? (i := 974) (by decide +kernel)⟩
theorem lw_p57 : lw_okq (⟨"SweepBenchModel", "allDefined", "()Z"⟩, 42) := ⟨⟨by decide +kernel, by decide +kernel⟩, List.mem_of_getElem? (i := 758) (by decide +kernel), List.mem_of_getElem? (i := 977) (by decide +kernel), List.mem_of_getElem? (i := 978) (by decide +kernel)⟩
theorem lw_p58 : lw_okq (⟨"SweepBenchModel", "isDefined", "(I)Z"⟩, 42) := ⟨⟨by decide +kernel, by decide +kernel⟩, List.mem_of_getElem? (i := 758) (by decide +kernel), List.mem_of_getElem? (i := 981) (by decide +kernel), List.mem_of_getElem? (i := 982) (by decide +kernel)⟩
theorem lw_p59 : lw_okq (⟨"SweepBenchModel", "needsItself", "(I)Z"⟩, 42) := ⟨⟨by decide +kernel, by decide +kernel⟩, List.mem_of_getElem? (i := 758) (by decide +kernel), List.mem_of_getElem? (i := 985) (by decide +kernel), List.mem_of_getElem? (i := 986) (by decide +kernel)⟩
theorem lw_p60 : lw_okq (⟨"SweepBenchModel", "mark", "(I)Z"⟩, 42) := ⟨⟨by decide +kernel, by decide +kernel⟩, List.mem_of_getElem? (i := 758) (by decide +kernel), List.mem_of_getElem? (i := 989) (by decide +kernel), List.mem_of_getElem? (i := 990) (by decide +kernel)⟩
theorem lw_p61 : lw_okq (⟨"SweepBenchModel", "becomes", "(I)V"⟩, 42) := ⟨⟨by decide +kernel, by decide +kernel⟩, List.mem_of_getElem? (i := 758) (by decide +kernel), List.mem_of_getElem? (i := 993) (by decide +kernel), List.mem_of_getElem? (i := 994) (by decide +kernel)⟩
theorem lw_p62 : lw_okq (⟨"SweepBenchModel", "signalOf", "(I)I"⟩, 42) := ⟨⟨by decide +kernel, by decide +kernel⟩, List.mem_of_getElem? (i := 758) (by decide +kernel), List.mem_of_getElem? (i := 998) (by decide +kernel), List.mem_of_getElem? (i := 999) (by decide +kernel)⟩
theorem lw_p63 : lw_okq (⟨"SweepBenchModel", "words", "()I"⟩, 42) := ⟨⟨by decide +kernel, by decide +kernel⟩, List.mem_of_getElem? (i := 758) (by decide +kernel), List.mem_of_getElem? (i := 1011) (by decide +kernel), List.mem_of_getElem? (i := 1012) (by decide +kernel)⟩
def lw_privs_4 : List (MethodName × Nat) := [(⟨"SweepBenchModel", "put", "(I)V"⟩, 42), (⟨"SweepBenchModel", "firstLine", "()Z"⟩, 42), (⟨"SweepBenchModel", "is", "(I)Z"⟩, 42), (⟨"SweepBenchModel", "fails", "(II)Z"⟩, 42), (⟨"SweepBenchModel", "number", "()Z"⟩, 42), (⟨"SweepBenchModel", "lines", "()Z"⟩, 42), (⟨"SweepBenchModel", "defines", "(III)Z"⟩, 42), (⟨"SweepBenchModel", "uses", "(I)Z"⟩, 42), (⟨"SweepBenchModel", "at0", "(I)I"⟩, 42), (⟨"SweepBenchModel", "allDefined", "()Z"⟩, 42), (⟨"SweepBenchModel", "isDefined", "(I)Z"⟩, 42), (⟨"SweepBenchModel", "needsItself", "(I)Z"⟩, 42), (⟨"SweepBenchModel", "mark", "(I)Z"⟩, 42), (⟨"SweepBenchModel", "becomes", "(I)V"⟩, 42), (⟨"SweepBenchModel", "signalOf", "(I)I"⟩, 42), (⟨"SweepBenchModel", "words", "()I"⟩, 42)]
theorem lw_r4 : ∀ q ∈ lw_privs_4, lw_okq q := List.forall_mem_cons.mpr ⟨lw_p48, List.forall_mem_cons.mpr ⟨lw_p49, List.forall_mem_cons.mpr ⟨lw_p50, List.forall_mem_cons.mpr ⟨lw_p51, List.forall_mem_cons.mpr ⟨lw_p52, List.forall_mem_cons.mpr ⟨lw_p53, List.forall_mem_cons.mpr ⟨lw_p54, List.forall_mem_cons.mpr ⟨lw_p55, List.forall_mem_cons.mpr ⟨lw_p56, List.forall_mem_cons.mpr ⟨lw_p57, List.forall_mem_cons.mpr ⟨lw_p58, List.forall_mem_cons.mpr ⟨lw_p59, List.forall_mem_cons.mpr ⟨lw_p60, List.forall_mem_cons.mpr ⟨lw_p61, List.forall_mem_cons.mpr ⟨lw_p62, List.forall_mem_cons.mpr ⟨lw_p63, fun _ h => absurd h List.not_mem_nil⟩⟩⟩⟩⟩⟩⟩⟩⟩⟩⟩⟩⟩⟩⟩⟩
theorem lw_p64 : lw_okq (⟨"SweepBenchModel", "graph", "()V"⟩, 42) := ⟨⟨by decide +kernel, by decide +kernel⟩, List.mem_of_getElem? (i := 758) (by decide +kernel), List.mem_of_getElem? (i := 1015) (by decide +kernel), List.mem_of_getElem? (i := 1016) (by decide +kernel)⟩
theorem lw_p65 : lw_okq (⟨"SweepBenchModel", "newNode", "(II)I"⟩, 42) := ⟨⟨by decide +kernel, by decide +kernel⟩, List.mem_of_getElem? (i := 758) (by decide +kernel), List.mem_of_getElem? (i := 1019) (by decide +kernel), List.mem_of_getElem? (i := 1020) (by decide +kernel)⟩
theorem lw_p66 : lw_okq (⟨"SweepBenchModel", "gateOf", "(II)I"⟩, 42) := ⟨⟨by decide +kernel, by decide +kernel⟩, List.mem_of_getElem? (i := 758) (by decide +kernel), List.mem_of_getElem? (i := 1023) (by decide +kernel), List.mem_of_getElem? (i := 1024) (by decide +kernel)⟩
theorem lw_p67 : lw_okq (⟨"SweepBenchModel", "side", "(II)I"⟩, 42) := ⟨⟨by decide +kernel, by decide +kernel⟩, List.mem_of_getElem? (i := 758) (by decide +kernel), List.mem_of_getElem? (i := 1027) (by decide +kernel), List.mem_of_getElem? (i := 1028) (by decide +kernel)⟩
theorem lw_p68 : lw_okq (⟨"SweepBenchModel", "and", "(II)I"⟩, 42) := ⟨⟨by decide +kernel, by decide +kernel⟩, List.mem_of_getElem? (i := 758) (by decide +kernel), List.mem_of_getElem? (i := 1031) (by decide +kernel), List.mem_of_getElem? (i := 1032) (by decide +kernel)⟩
theorem lw_p69 : lw_okq (⟨"SweepBenchModel", "bits", "(II)J"⟩, 42) := ⟨⟨by decide +kernel, by decide +kernel⟩, List.mem_of_getElem? (i := 758) (by decide +kernel), List.mem_of_getElem? (i := 1035) (by decide +kernel), List.mem_of_getElem? (i := 1036) (by decide +kernel)⟩
theorem lw_p70 : lw_okq (⟨"SweepBenchModel", "bit", "(II)Z"⟩, 42) := ⟨⟨by decide +kernel, by decide +kernel⟩, List.mem_of_getElem? (i := 758) (by decide +kernel), List.mem_of_getElem? (i := 1040) (by decide +kernel), List.mem_of_getElem? (i := 1041) (by decide +kernel)⟩
theorem lw_p71 : lw_okq (⟨"SweepBenchModel", "isGiven", "(I)Z"⟩, 42) := ⟨⟨by decide +kernel, by decide +kernel⟩, List.mem_of_getElem? (i := 758) (by decide +kernel), List.mem_of_getElem? (i := 1048) (by decide +kernel), List.mem_of_getElem? (i := 1049) (by decide +kernel)⟩
theorem lw_p72 : lw_okq (⟨"SweepBenchModel", "give", "(I)V"⟩, 42) := ⟨⟨by decide +kernel, by decide +kernel⟩, List.mem_of_getElem? (i := 758) (by decide +kernel), List.mem_of_getElem? (i := 1052) (by decide +kernel), List.mem_of_getElem? (i := 1053) (by decide +kernel)⟩
theorem lw_p73 : lw_okq (⟨"SweepBenchModel", "leastLike", "(I)I"⟩, 42) := ⟨⟨by decide +kernel, by decide +kernel⟩, List.mem_of_getElem? (i := 758) (by decide +kernel), List.mem_of_getElem? (i := 1065) (by decide +kernel), List.mem_of_getElem? (i := 1066) (by decide +kernel)⟩
theorem lw_p74 : lw_okq (⟨"SweepBenchModel", "like", "(II)I"⟩, 42) := ⟨⟨by decide +kernel, by decide +kernel⟩, List.mem_of_getElem? (i := 758) (by decide +kernel), List.mem_of_getElem? (i := 1069) (by decide +kernel), List.mem_of_getElem? (i := 1070) (by decide +kernel)⟩
theorem lw_p75 : lw_okq (⟨"SweepBenchModel", "candidate", "(I)I"⟩, 42) := ⟨⟨by decide +kernel, by decide +kernel⟩, List.mem_of_getElem? (i := 758) (by decide +kernel), List.mem_of_getElem? (i := 1085) (by decide +kernel), List.mem_of_getElem? (i := 1086) (by decide +kernel)⟩
theorem lw_p76 : lw_okq (⟨"SweepBenchModel", "unlike", "(II)I"⟩, 42) := ⟨⟨by decide +kernel, by decide +kernel⟩, List.mem_of_getElem? (i := 758) (by decide +kernel), List.mem_of_getElem? (i := 1089) (by decide +kernel), List.mem_of_getElem? (i := 1090) (by decide +kernel)⟩
theorem lw_p77 : lw_okq (⟨"SweepBenchModel", "need", "()V"⟩, 42) := ⟨⟨by decide +kernel, by decide +kernel⟩, List.mem_of_getElem? (i := 758) (by decide +kernel), List.mem_of_getElem? (i := 1093) (by decide +kernel), List.mem_of_getElem? (i := 1094) (by decide +kernel)⟩
theorem lw_p78 : lw_okq (⟨"SweepBenchModel", "both", "(I)Z"⟩, 42) := ⟨⟨by decide +kernel, by decide +kernel⟩, List.mem_of_getElem? (i := 758) (by decide +kernel), List.mem_of_getElem? (i := 1109) (by decide +kernel), List.mem_of_getElem? (i := 1110) (by decide +kernel)⟩
def lw_privs_5 : List (MethodName × Nat) := [(⟨"SweepBenchModel", "graph", "()V"⟩, 42), (⟨"SweepBenchModel", "newNode", "(II)I"⟩, 42), (⟨"SweepBenchModel", "gateOf", "(II)I"⟩, 42), (⟨"SweepBenchModel", "side", "(II)I"⟩, 42), (⟨"SweepBenchModel", "and", "(II)I"⟩, 42), (⟨"SweepBenchModel", "bits", "(II)J"⟩, 42), (⟨"SweepBenchModel", "bit", "(II)Z"⟩, 42), (⟨"SweepBenchModel", "isGiven", "(I)Z"⟩, 42), (⟨"SweepBenchModel", "give", "(I)V"⟩, 42), (⟨"SweepBenchModel", "leastLike", "(I)I"⟩, 42), (⟨"SweepBenchModel", "like", "(II)I"⟩, 42), (⟨"SweepBenchModel", "candidate", "(I)I"⟩, 42), (⟨"SweepBenchModel", "unlike", "(II)I"⟩, 42), (⟨"SweepBenchModel", "need", "()V"⟩, 42), (⟨"SweepBenchModel", "both", "(I)Z"⟩, 42)]
theorem lw_r5 : ∀ q ∈ lw_privs_5, lw_okq q := List.forall_mem_cons.mpr ⟨lw_p64, List.forall_mem_cons.mpr ⟨lw_p65, List.forall_mem_cons.mpr ⟨lw_p66, List.forall_mem_cons.mpr ⟨lw_p67, List.forall_mem_cons.mpr ⟨lw_p68, List.forall_mem_cons.mpr ⟨lw_p69, List.forall_mem_cons.mpr ⟨lw_p70, List.forall_mem_cons.mpr ⟨lw_p71, List.forall_mem_cons.mpr ⟨lw_p72, List.forall_mem_cons.mpr ⟨lw_p73, List.forall_mem_cons.mpr ⟨lw_p74, List.forall_mem_cons.mpr ⟨lw_p75, List.forall_mem_cons.mpr ⟨lw_p76, List.forall_mem_cons.mpr ⟨lw_p77, List.forall_mem_cons.mpr ⟨lw_p78, fun _ h => absurd h List.not_mem_nil⟩⟩⟩⟩⟩⟩⟩⟩⟩⟩⟩⟩⟩⟩⟩
def lw_privs : List (MethodName × Nat) := lw_privs_1 ++ (lw_privs_2 ++ (lw_privs_3 ++ (lw_privs_4 ++ (lw_privs_5))))
def lw_tbl : List Cond := k2_sels lw_privs ++ tables_1
theorem lw_privs_ok : ∀ q ∈ lw_privs, lw_okq q := by
  show ∀ q ∈ lw_privs_1 ++ (lw_privs_2 ++ (lw_privs_3 ++ (lw_privs_4 ++ (lw_privs_5)))), lw_okq q
  exact List.forall_mem_append.mpr ⟨lw_r1, List.forall_mem_append.mpr ⟨lw_r2, List.forall_mem_append.mpr ⟨lw_r3, List.forall_mem_append.mpr ⟨lw_r4, lw_r5⟩⟩⟩⟩
end
section
/-! ===== BEGIN words of one list among another's, by their places ===== -/
theorem goodIn_r {big : List Cond} (ws : List Cond) (ps : List Nat) (hp : ws = ps.filterMap (fun i => big[i]?)) (h : ws.all goodWord = true) : GoodIn big ws := by
  intro w hw
  have h1 := List.all_eq_true.mp h w hw
  rw [hp] at hw
  obtain ⟨i, -, hi⟩ := List.mem_filterMap.mp hw
  have hm : w ∈ big := by first | exact List.mem_of_getElem? hi | exact List.getElem?_mem hi
  exact ⟨hm, good_of_word h1⟩
theorem goodIn_app {big a b : List Cond} (ha : GoodIn big a) (hb : GoodIn big b) : GoodIn big (a ++ b) := fun w h => (List.mem_append.mp h).elim (ha w) (hb w)
theorem goodIn_ca {big a b : List Cond} {c : Cond} (ha : GoodIn big (c :: a)) (hb : GoodIn big b) : GoodIn big (c :: (a ++ b)) := fun w h => (List.mem_cons.mp h).elim (fun e => ha w (List.mem_cons.mpr (Or.inl e))) (fun h => (List.mem_append.mp h).elim (fun h => ha w (List.mem_cons.mpr (Or.inr h))) (hb w))
theorem goodIn_sub {big ws : List Cond} (hm : ∀ w ∈ ws, w ∈ big) (h : ws.all goodWord = true) : GoodIn big ws := fun w hw => ⟨hm w hw, good_of_word (List.all_eq_true.mp h w hw)⟩
/-! ===== END ===== -/

def RX0 : String := "SweepBench$AigerText"
def TX0 : u_T := fun k => match k with
  | 0 => ("SweepBench$AigerText", "tape", "LSweepBench$Tape;", true)
  | 1 => ("SweepBench$AigerText", "head", "[I", true)
  | 2 => ("SweepBench$AigerText", "headPlaces", "[I", true)
  | 3 => ("SweepBench$AigerText", "definers", "[I", true)
  | 4 => ("SweepBench$AigerText", "uses", "[I", true)
  | 5 => ("SweepBench$AigerText", "usePlaces", "[I", true)
  | 6 => ("SweepBench$AigerText", "andPlaces", "[I", true)
  | 7 => ("SweepBench$AigerText", "headCount", "I", false)
  | 8 => ("SweepBench$AigerText", "inputCount", "I", false)
  | 9 => ("SweepBench$AigerText", "outCount", "I", false)
  | 10 => ("SweepBench$AigerText", "andCount", "I", false)
  | 11 => ("SweepBench$AigerText", "useCount", "I", false)
  | 12 => ("SweepBench$AigerText", "highestLiteral", "I", false)
  | 13 => ("SweepBench$AigerText", "usesConstant", "Z", false)
  | 14 => ("SweepBench$AigerText", "fault", "I", false)
  | 15 => ("SweepBench$AigerText", "faultAt", "I", false)
  | 16 => ("SweepBench$AigerText", "at", "I", false)
  | _ => ("SweepBench$AigerText", "numberAt", "I", false)
def tyX0 : Nat → FieldType := fun k => match k with
  | 0 => .object "SweepBench$Tape"
  | 1 => .array .int
  | 2 => .array .int
  | 3 => .array .int
  | 4 => .array .int
  | 5 => .array .int
  | 6 => .array .int
  | 7 => .int
  | 8 => .int
  | 9 => .int
  | 10 => .int
  | 11 => .int
  | 12 => .int
  | 13 => .boolean
  | 14 => .int
  | 15 => .int
  | 16 => .int
  | _ => .int
abbrev wsX00 : List Cond := u_ws RX0 TX0 18
theorem nmX0 : ∀ a, a < 18 → ∀ b, b < 18 → a ≠ b → (TX0 a).2.1 ≠ (TX0 b).2.1 := by decide +kernel
theorem tyX0_ok : ∀ k, k < 18 → parseFieldDescriptor (TX0 k).2.2.1 = some (tyX0 k) := by decide +kernel
abbrev cX0_init : ByteArray := prog_2_method_1_code
def yX0_init : MethodName := ⟨RX0, "<init>", "(LSweepBench$Tape;)V"⟩
abbrev cX0_parse : ByteArray := prog_2_method_2_code
def yX0_parse : MethodName := ⟨RX0, "parse", "(I)V"⟩
abbrev cX0_fail : ByteArray := prog_2_method_3_code
def yX0_fail : MethodName := ⟨RX0, "fail", "(II)V"⟩
abbrev cX0_andOf : ByteArray := prog_2_method_4_code
def yX0_andOf : MethodName := ⟨RX0, "andOf", "(I)I"⟩
abbrev cX0_sideOf : ByteArray := prog_2_method_5_code
def yX0_sideOf : MethodName := ⟨RX0, "sideOf", "(II)I"⟩
abbrev cX0_startAnew : ByteArray := prog_2_method_6_code
def yX0_startAnew : MethodName := ⟨RX0, "startAnew", "(I)V"⟩
abbrev cX0_parseHead : ByteArray := prog_2_method_7_code
def yX0_parseHead : MethodName := ⟨RX0, "parseHead", "()V"⟩
abbrev cX0_parseHeadNumber : ByteArray := prog_2_method_8_code
def yX0_parseHeadNumber : MethodName := ⟨RX0, "parseHeadNumber", "()V"⟩
abbrev cX0_askHeadNumbers : ByteArray := prog_2_method_9_code
def yX0_askHeadNumbers : MethodName := ⟨RX0, "askHeadNumbers", "()V"⟩
abbrev cX0_isBadHeadNumber : ByteArray := prog_2_method_10_code
def yX0_isBadHeadNumber : MethodName := ⟨RX0, "isBadHeadNumber", "(I)Z"⟩
abbrev cX0_hasTooFewVariables : ByteArray := prog_2_method_11_code
def yX0_hasTooFewVariables : MethodName := ⟨RX0, "hasTooFewVariables", "()Z"⟩
abbrev cX0_parseInputLines : ByteArray := prog_2_method_12_code
def yX0_parseInputLines : MethodName := ⟨RX0, "parseInputLines", "()V"⟩
abbrev cX0_parseOutLines : ByteArray := prog_2_method_13_code
def yX0_parseOutLines : MethodName := ⟨RX0, "parseOutLines", "()V"⟩
abbrev cX0_parseAndLines : ByteArray := prog_2_method_14_code
def yX0_parseAndLines : MethodName := ⟨RX0, "parseAndLines", "()V"⟩
abbrev cX0_parseDefinition : ByteArray := prog_2_method_15_code
def yX0_parseDefinition : MethodName := ⟨RX0, "parseDefinition", "(I)V"⟩
abbrev cX0_parseUse : ByteArray := prog_2_method_16_code
def yX0_parseUse : MethodName := ⟨RX0, "parseUse", "()V"⟩
abbrev cX0_parseNumber : ByteArray := prog_2_method_17_code
def yX0_parseNumber : MethodName := ⟨RX0, "parseNumber", "()I"⟩
abbrev cX0_expect : ByteArray := prog_2_method_18_code
def yX0_expect : MethodName := ⟨RX0, "expect", "(I)V"⟩
abbrev cX0_failIf : ByteArray := prog_2_method_19_code
def yX0_failIf : MethodName := ⟨RX0, "failIf", "(ZII)V"⟩
abbrev cX0_findNotDefined : ByteArray := prog_2_method_20_code
def yX0_findNotDefined : MethodName := ⟨RX0, "findNotDefined", "()V"⟩
def RX1 : String := "SweepBench$AndOrder"
def TX1 : u_T := fun k => match k with
  | 0 => ("SweepBench$AndOrder", "text", "LSweepBench$AigerText;", true)
  | 1 => ("SweepBench$AndOrder", "order", "[I", true)
  | 2 => ("SweepBench$AndOrder", "ranks", "[I", true)
  | 3 => ("SweepBench$AndOrder", "queue", "[I", true)
  | 4 => ("SweepBench$AndOrder", "reached", "[Z", true)
  | _ => ("SweepBench$AndOrder", "queued", "I", false)
def tyX1 : Nat → FieldType := fun k => match k with
  | 0 => .object "SweepBench$AigerText"
  | 1 => .array .int
  | 2 => .array .int
  | 3 => .array .int
  | 4 => .array .boolean
  | _ => .int
abbrev wsX10 : List Cond := u_ws RX1 TX1 6
theorem nmX1 : ∀ a, a < 6 → ∀ b, b < 6 → a ≠ b → (TX1 a).2.1 ≠ (TX1 b).2.1 := by decide +kernel
theorem tyX1_ok : ∀ k, k < 6 → parseFieldDescriptor (TX1 k).2.2.1 = some (tyX1 k) := by decide +kernel
abbrev cX1_init : ByteArray := prog_3_method_1_code
def yX1_init : MethodName := ⟨RX1, "<init>", "(LSweepBench$AigerText;)V"⟩
abbrev cX1_arrange : ByteArray := prog_3_method_2_code
def yX1_arrange : MethodName := ⟨RX1, "arrange", "()V"⟩
abbrev cX1_fill : ByteArray := prog_3_method_3_code
def yX1_fill : MethodName := ⟨RX1, "fill", "(LSweepBench$Circuit;)V"⟩
abbrev cX1_signalOf : ByteArray := prog_3_method_4_code
def yX1_signalOf : MethodName := ⟨RX1, "signalOf", "(I)I"⟩
abbrev cX1_firstReady : ByteArray := prog_3_method_5_code
def yX1_firstReady : MethodName := ⟨RX1, "firstReady", "()I"⟩
abbrev cX1_isThere : ByteArray := prog_3_method_6_code
def yX1_isThere : MethodName := ⟨RX1, "isThere", "(I)Z"⟩
abbrev cX1_failAtFirstLoop : ByteArray := prog_3_method_7_code
def yX1_failAtFirstLoop : MethodName := ⟨RX1, "failAtFirstLoop", "()V"⟩
abbrev cX1_needsItself : ByteArray := prog_3_method_8_code
def yX1_needsItself : MethodName := ⟨RX1, "needsItself", "(I)Z"⟩
abbrev cX1_reachSides : ByteArray := prog_3_method_9_code
def yX1_reachSides : MethodName := ⟨RX1, "reachSides", "(I)V"⟩
abbrev cX1_reach : ByteArray := prog_3_method_10_code
def yX1_reach : MethodName := ⟨RX1, "reach", "(I)V"⟩
def RX2 : String := "SweepBench$Circuit"
def TX2 : u_T := fun k => match k with
  | 0 => ("SweepBench$Circuit", "kinds", "[I", true)
  | 1 => ("SweepBench$Circuit", "firsts", "[I", true)
  | 2 => ("SweepBench$Circuit", "seconds", "[I", true)
  | 3 => ("SweepBench$Circuit", "thirds", "[I", true)
  | 4 => ("SweepBench$Circuit", "outs", "[I", true)
  | 5 => ("SweepBench$Circuit", "literals", "[I", true)
  | 6 => ("SweepBench$Circuit", "inputCount", "I", false)
  | 7 => ("SweepBench$Circuit", "gateCount", "I", false)
  | _ => ("SweepBench$Circuit", "outCount", "I", false)
def tyX2 : Nat → FieldType := fun k => match k with
  | 0 => .array .int
  | 1 => .array .int
  | 2 => .array .int
  | 3 => .array .int
  | 4 => .array .int
  | 5 => .array .int
  | 6 => .int
  | 7 => .int
  | _ => .int
abbrev wsX20 : List Cond := u_ws RX2 TX2 9
theorem nmX2 : ∀ a, a < 9 → ∀ b, b < 9 → a ≠ b → (TX2 a).2.1 ≠ (TX2 b).2.1 := by decide +kernel
theorem tyX2_ok : ∀ k, k < 9 → parseFieldDescriptor (TX2 k).2.2.1 = some (tyX2 k) := by decide +kernel
abbrev cX2_init : ByteArray := prog_4_method_1_code
def yX2_init : MethodName := ⟨RX2, "<init>", "(I)V"⟩
abbrev cX2_reset : ByteArray := prog_4_method_2_code
def yX2_reset : MethodName := ⟨RX2, "reset", "(I)V"⟩
abbrev cX2_hasSignal : ByteArray := prog_4_method_3_code
def yX2_hasSignal : MethodName := ⟨RX2, "hasSignal", "(I)Z"⟩
abbrev cX2_canTake : ByteArray := prog_4_method_4_code
def yX2_canTake : MethodName := ⟨RX2, "canTake", "(IIII)Z"⟩
abbrev cX2_addGate : ByteArray := prog_4_method_5_code
def yX2_addGate : MethodName := ⟨RX2, "addGate", "(IIII)I"⟩
abbrev cX2_addOut : ByteArray := prog_4_method_6_code
def yX2_addOut : MethodName := ⟨RX2, "addOut", "(I)I"⟩
abbrev cX2_literalOf : ByteArray := prog_4_method_7_code
def yX2_literalOf : MethodName := ⟨RX2, "literalOf", "(I)I"⟩
abbrev cX2_plain : ByteArray := prog_4_method_8_code
def yX2_plain : MethodName := ⟨RX2, "plain", "(I)I"⟩
def RX3 : String := "SweepBench$Graph"
def TX3 : u_T := fun k => match k with
  | 0 => ("SweepBench$Graph", "first", "LSweepBench$Circuit;", true)
  | 1 => ("SweepBench$Graph", "second", "LSweepBench$Circuit;", true)
  | 2 => ("SweepBench$Graph", "lefts", "[I", true)
  | 3 => ("SweepBench$Graph", "rights", "[I", true)
  | 4 => ("SweepBench$Graph", "chains", "[I", true)
  | 5 => ("SweepBench$Graph", "nexts", "[I", true)
  | 6 => ("SweepBench$Graph", "rows", "[J", false)
  | 7 => ("SweepBench$Graph", "rowWords", "I", false)
  | 8 => ("SweepBench$Graph", "inputCount", "I", false)
  | 9 => ("SweepBench$Graph", "nodeCount", "I", false)
  | 10 => ("SweepBench$Graph", "firstMade", "I", false)
  | 11 => ("SweepBench$Graph", "secondMade", "I", false)
  | _ => ("SweepBench$Graph", "isStale", "Z", false)
def tyX3 : Nat → FieldType := fun k => match k with
  | 0 => .object "SweepBench$Circuit"
  | 1 => .object "SweepBench$Circuit"
  | 2 => .array .int
  | 3 => .array .int
  | 4 => .array .int
  | 5 => .array .int
  | 6 => .array .long
  | 7 => .int
  | 8 => .int
  | 9 => .int
  | 10 => .int
  | 11 => .int
  | _ => .boolean
abbrev wsX30 : List Cond := u_ws RX3 TX3 13
theorem nmX3 : ∀ a, a < 13 → ∀ b, b < 13 → a ≠ b → (TX3 a).2.1 ≠ (TX3 b).2.1 := by decide +kernel
theorem tyX3_ok : ∀ k, k < 13 → parseFieldDescriptor (TX3 k).2.2.1 = some (tyX3 k) := by decide +kernel
abbrev cX3_init : ByteArray := prog_5_method_1_code
def yX3_init : MethodName := ⟨RX3, "<init>", "(LSweepBench$Circuit;LSweepBench$Circuit;)V"⟩
abbrev cX3_bringUp : ByteArray := prog_5_method_2_code
def yX3_bringUp : MethodName := ⟨RX3, "bringUp", "()V"⟩
abbrev cX3_isAnd : ByteArray := prog_5_method_3_code
def yX3_isAnd : MethodName := ⟨RX3, "isAnd", "(I)Z"⟩
abbrev cX3_bitOf : ByteArray := prog_5_method_4_code
def yX3_bitOf : MethodName := ⟨RX3, "bitOf", "(II)I"⟩
abbrev cX3_firstWordApart : ByteArray := prog_5_method_5_code
def yX3_firstWordApart : MethodName := ⟨RX3, "firstWordApart", "(II)I"⟩
abbrev cX3_likeness : ByteArray := prog_5_method_6_code
def yX3_likeness : MethodName := ⟨RX3, "likeness", "(IILSweepBench$VectorSet;)I"⟩
abbrev cX3_restart : ByteArray := prog_5_method_7_code
def yX3_restart : MethodName := ⟨RX3, "restart", "(I)V"⟩
abbrev cX3_makeFalse : ByteArray := prog_5_method_8_code
def yX3_makeFalse : MethodName := ⟨RX3, "makeFalse", "()V"⟩
abbrev cX3_makeInput : ByteArray := prog_5_method_9_code
def yX3_makeInput : MethodName := ⟨RX3, "makeInput", "(I)V"⟩
abbrev cX3_makeGate : ByteArray := prog_5_method_10_code
def yX3_makeGate : MethodName := ⟨RX3, "makeGate", "(LSweepBench$Circuit;I)V"⟩
abbrev cX3_makeKind : ByteArray := prog_5_method_11_code
def yX3_makeKind : MethodName := ⟨RX3, "makeKind", "(IIII)I"⟩
abbrev cX3_makeChoice : ByteArray := prog_5_method_12_code
def yX3_makeChoice : MethodName := ⟨RX3, "makeChoice", "(III)I"⟩
abbrev cX3_makeMajority : ByteArray := prog_5_method_13_code
def yX3_makeMajority : MethodName := ⟨RX3, "makeMajority", "(III)I"⟩
abbrev cX3_makeAnd : ByteArray := prog_5_method_14_code
def yX3_makeAnd : MethodName := ⟨RX3, "makeAnd", "(II)I"⟩
abbrev cX3_addAnd : ByteArray := prog_5_method_15_code
def yX3_addAnd : MethodName := ⟨RX3, "addAnd", "(II)I"⟩
abbrev cX3_addNode : ByteArray := prog_5_method_16_code
def yX3_addNode : MethodName := ⟨RX3, "addNode", "(II)V"⟩
abbrev cX3_wordOf : ByteArray := prog_5_method_17_code
def yX3_wordOf : MethodName := ⟨RX3, "wordOf", "(II)J"⟩
def RX4 : String := "SweepBench$Groups"
def TX4 : u_T := fun k => match k with
  | 0 => ("SweepBench$Groups", "least", "[I", true)
  | 1 => ("SweepBench$Groups", "leaders", "[I", true)
  | _ => ("SweepBench$Groups", "leaderCount", "I", false)
def tyX4 : Nat → FieldType := fun k => match k with
  | 0 => .array .int
  | 1 => .array .int
  | _ => .int
abbrev wsX40 : List Cond := u_ws RX4 TX4 3
theorem nmX4 : ∀ a, a < 3 → ∀ b, b < 3 → a ≠ b → (TX4 a).2.1 ≠ (TX4 b).2.1 := by decide +kernel
theorem tyX4_ok : ∀ k, k < 3 → parseFieldDescriptor (TX4 k).2.2.1 = some (tyX4 k) := by decide +kernel
abbrev cX4_init : ByteArray := prog_6_method_1_code
def yX4_init : MethodName := ⟨RX4, "<init>", "()V"⟩
abbrev cX4_find : ByteArray := prog_6_method_2_code
def yX4_find : MethodName := ⟨RX4, "find", "(LSweepBench$Graph;LSweepBench$VectorSet;)V"⟩
abbrev cX4_leaderOf : ByteArray := prog_6_method_3_code
def yX4_leaderOf : MethodName := ⟨RX4, "leaderOf", "(ILSweepBench$Graph;LSweepBench$VectorSet;)I"⟩
def RX5 : String := "SweepBench$Sweeper"
def TX5 : u_T := fun k => match k with
  | 0 => ("SweepBench$Sweeper", "literals", "[I", true)
  | 1 => ("SweepBench$Sweeper", "needed", "[Z", true)
  | 2 => ("SweepBench$Sweeper", "foundCount", "I", false)
  | 3 => ("SweepBench$Sweeper", "askedCount", "I", false)
  | 4 => ("SweepBench$Sweeper", "mergedCount", "I", false)
  | _ => ("SweepBench$Sweeper", "neededAnds", "I", false)
def tyX5 : Nat → FieldType := fun k => match k with
  | 0 => .array .int
  | 1 => .array .boolean
  | 2 => .int
  | 3 => .int
  | 4 => .int
  | _ => .int
abbrev wsX50 : List Cond := u_ws RX5 TX5 6
theorem nmX5 : ∀ a, a < 6 → ∀ b, b < 6 → a ≠ b → (TX5 a).2.1 ≠ (TX5 b).2.1 := by decide +kernel
theorem tyX5_ok : ∀ k, k < 6 → parseFieldDescriptor (TX5 k).2.2.1 = some (tyX5 k) := by decide +kernel
abbrev cX5_init : ByteArray := prog_7_method_1_code
def yX5_init : MethodName := ⟨RX5, "<init>", "()V"⟩
abbrev cX5_run : ByteArray := prog_7_method_2_code
def yX5_run : MethodName := ⟨RX5, "run", "(LSweepBench$Graph;LSweepBench$VectorSet;)V"⟩
abbrev cX5_representativeOf : ByteArray := prog_7_method_3_code
def yX5_representativeOf : MethodName := ⟨RX5, "representativeOf", "(ILSweepBench$Graph;LSweepBench$VectorSet;)I"⟩
abbrev cX5_askCandidate : ByteArray := prog_7_method_4_code
def yX5_askCandidate : MethodName := ⟨RX5, "askCandidate", "(IILSweepBench$Graph;LSweepBench$VectorSet;)I"⟩
abbrev cX5_findNeeded : ByteArray := prog_7_method_5_code
def yX5_findNeeded : MethodName := ⟨RX5, "findNeeded", "(LSweepBench$Graph;LSweepBench$Circuit;LSweepBench$Circuit;)V"⟩
abbrev cX5_markOuts : ByteArray := prog_7_method_6_code
def yX5_markOuts : MethodName := ⟨RX5, "markOuts", "(LSweepBench$Circuit;)V"⟩
abbrev cX5_mark : ByteArray := prog_7_method_7_code
def yX5_mark : MethodName := ⟨RX5, "mark", "(I)V"⟩
def RX6 : String := "SweepBench$Tape"
def TX6 : u_T := fun k => match k with
  | 0 => ("SweepBench$Tape", "bytes", "[B", true)
  | _ => ("SweepBench$Tape", "size", "I", false)
def tyX6 : Nat → FieldType := fun k => match k with
  | 0 => .array .byte
  | _ => .int
abbrev wsX60 : List Cond := u_ws RX6 TX6 2
theorem nmX6 : ∀ a, a < 2 → ∀ b, b < 2 → a ≠ b → (TX6 a).2.1 ≠ (TX6 b).2.1 := by decide +kernel
theorem tyX6_ok : ∀ k, k < 2 → parseFieldDescriptor (TX6 k).2.2.1 = some (tyX6 k) := by decide +kernel
abbrev cX6_init : ByteArray := prog_8_method_1_code
def yX6_init : MethodName := ⟨RX6, "<init>", "()V"⟩
abbrev cX6_append : ByteArray := prog_8_method_2_code
def yX6_append : MethodName := ⟨RX6, "append", "(I)V"⟩
abbrev cX6_byteAt : ByteArray := prog_8_method_3_code
def yX6_byteAt : MethodName := ⟨RX6, "byteAt", "(I)I"⟩
abbrev cX6_hasDigitAt : ByteArray := prog_8_method_4_code
def yX6_hasDigitAt : MethodName := ⟨RX6, "hasDigitAt", "(I)Z"⟩
def RX7 : String := "SweepBench$VectorSet"
def TX7 : u_T := fun k => match k with
  | 0 => ("SweepBench$VectorSet", "words", "[I", true)
  | 1 => ("SweepBench$VectorSet", "bits", "[J", true)
  | 2 => ("SweepBench$VectorSet", "usedWords", "[I", true)
  | 3 => ("SweepBench$VectorSet", "usedCount", "I", false)
  | _ => ("SweepBench$VectorSet", "size", "I", false)
def tyX7 : Nat → FieldType := fun k => match k with
  | 0 => .array .int
  | 1 => .array .long
  | 2 => .array .int
  | 3 => .int
  | _ => .int
abbrev wsX70 : List Cond := u_ws RX7 TX7 5
theorem nmX7 : ∀ a, a < 5 → ∀ b, b < 5 → a ≠ b → (TX7 a).2.1 ≠ (TX7 b).2.1 := by decide +kernel
theorem tyX7_ok : ∀ k, k < 5 → parseFieldDescriptor (TX7 k).2.2.1 = some (tyX7 k) := by decide +kernel
abbrev cX7_init : ByteArray := prog_9_method_1_code
def yX7_init : MethodName := ⟨RX7, "<init>", "()V"⟩
abbrev cX7_empty : ByteArray := prog_9_method_2_code
def yX7_empty : MethodName := ⟨RX7, "empty", "()V"⟩
abbrev cX7_has : ByteArray := prog_9_method_3_code
def yX7_has : MethodName := ⟨RX7, "has", "(I)Z"⟩
abbrev cX7_add : ByteArray := prog_9_method_4_code
def yX7_add : MethodName := ⟨RX7, "add", "(I)V"⟩
def RX8 : String := "SweepBench"
def TX8 : u_T := fun k => match k with
  | 0 => ("SweepBench", "firstCircuit", "LSweepBench$Circuit;", true)
  | 1 => ("SweepBench", "secondCircuit", "LSweepBench$Circuit;", true)
  | 2 => ("SweepBench", "vectors", "LSweepBench$VectorSet;", true)
  | 3 => ("SweepBench", "graph", "LSweepBench$Graph;", true)
  | 4 => ("SweepBench", "groups", "LSweepBench$Groups;", true)
  | 5 => ("SweepBench", "sweeper", "LSweepBench$Sweeper;", true)
  | 6 => ("SweepBench", "tape", "LSweepBench$Tape;", true)
  | 7 => ("SweepBench", "text", "LSweepBench$AigerText;", true)
  | 8 => ("SweepBench", "order", "LSweepBench$AndOrder;", true)
  | 9 => ("SweepBench", "inputCount", "I", false)
  | 10 => ("SweepBench", "faultPlace", "I", false)
  | 11 => ("SweepBench", "groupsStand", "Z", false)
  | _ => ("SweepBench", "sweepStands", "Z", false)
def tyX8 : Nat → FieldType := fun k => match k with
  | 0 => .object "SweepBench$Circuit"
  | 1 => .object "SweepBench$Circuit"
  | 2 => .object "SweepBench$VectorSet"
  | 3 => .object "SweepBench$Graph"
  | 4 => .object "SweepBench$Groups"
  | 5 => .object "SweepBench$Sweeper"
  | 6 => .object "SweepBench$Tape"
  | 7 => .object "SweepBench$AigerText"
  | 8 => .object "SweepBench$AndOrder"
  | 9 => .int
  | 10 => .int
  | 11 => .boolean
  | _ => .boolean
abbrev wsX80 : List Cond := u_ws RX8 TX8 13
theorem nmX8 : ∀ a, a < 13 → ∀ b, b < 13 → a ≠ b → (TX8 a).2.1 ≠ (TX8 b).2.1 := by decide +kernel
theorem tyX8_ok : ∀ k, k < 13 → parseFieldDescriptor (TX8 k).2.2.1 = some (tyX8 k) := by decide +kernel
abbrev cX8_init : ByteArray := prog_1_method_1_code
def yX8_init : MethodName := ⟨RX8, "<init>", "()V"⟩
abbrev cX8_inputs : ByteArray := prog_1_method_2_code
def yX8_inputs : MethodName := ⟨RX8, "inputs", "(I)Z"⟩
abbrev cX8_gate : ByteArray := prog_1_method_3_code
def yX8_gate : MethodName := ⟨RX8, "gate", "(IIIII)I"⟩
abbrev cX8_output : ByteArray := prog_1_method_4_code
def yX8_output : MethodName := ⟨RX8, "output", "(II)I"⟩
abbrev cX8_clear : ByteArray := prog_1_method_5_code
def yX8_clear : MethodName := ⟨RX8, "clear", "(I)I"⟩
abbrev cX8_feed : ByteArray := prog_1_method_6_code
def yX8_feed : MethodName := ⟨RX8, "feed", "(IIIII)I"⟩
abbrev cX8_end : ByteArray := prog_1_method_7_code
def yX8_end : MethodName := ⟨RX8, "end", "(I)I"⟩
abbrev cX8_read : ByteArray := prog_1_method_8_code
def yX8_read : MethodName := ⟨RX8, "read", "(I)I"⟩
abbrev cX8_place : ByteArray := prog_1_method_9_code
def yX8_place : MethodName := ⟨RX8, "place", "()I"⟩
abbrev cX8_value : ByteArray := prog_1_method_10_code
def yX8_value : MethodName := ⟨RX8, "value", "(III)I"⟩
abbrev cX8_vector : ByteArray := prog_1_method_11_code
def yX8_vector : MethodName := ⟨RX8, "vector", "(I)I"⟩
abbrev cX8_forget : ByteArray := prog_1_method_12_code
def yX8_forget : MethodName := ⟨RX8, "forget", "()I"⟩
abbrev cX8_given : ByteArray := prog_1_method_13_code
def yX8_given : MethodName := ⟨RX8, "given", "(I)I"⟩
abbrev cX8_count : ByteArray := prog_1_method_14_code
def yX8_count : MethodName := ⟨RX8, "count", "(I)I"⟩
abbrev cX8_node : ByteArray := prog_1_method_15_code
def yX8_node : MethodName := ⟨RX8, "node", "(II)I"⟩
abbrev cX8_literal : ByteArray := prog_1_method_16_code
def yX8_literal : MethodName := ⟨RX8, "literal", "(II)I"⟩
abbrev cX8_sweep : ByteArray := prog_1_method_17_code
def yX8_sweep : MethodName := ⟨RX8, "sweep", "()I"⟩
abbrev cX8_swept : ByteArray := prog_1_method_18_code
def yX8_swept : MethodName := ⟨RX8, "swept", "(I)I"⟩
abbrev cX8_told : ByteArray := prog_1_method_19_code
def yX8_told : MethodName := ⟨RX8, "told", "(I)I"⟩
abbrev cX8_same : ByteArray := prog_1_method_20_code
def yX8_same : MethodName := ⟨RX8, "same", "(I)I"⟩
abbrev cX8_differs : ByteArray := prog_1_method_21_code
def yX8_differs : MethodName := ⟨RX8, "differs", "(I)I"⟩
abbrev cX8_verdict : ByteArray := prog_1_method_22_code
def yX8_verdict : MethodName := ⟨RX8, "verdict", "()I"⟩
abbrev cX8_circuitAt : ByteArray := prog_1_method_23_code
def yX8_circuitAt : MethodName := ⟨RX8, "circuitAt", "(I)LSweepBench$Circuit;"⟩
abbrev cX8_isInputWord : ByteArray := prog_1_method_24_code
def yX8_isInputWord : MethodName := ⟨RX8, "isInputWord", "(I)Z"⟩
abbrev cX8_noteMoreOfACircuit : ByteArray := prog_1_method_25_code
def yX8_noteMoreOfACircuit : MethodName := ⟨RX8, "noteMoreOfACircuit", "()V"⟩
abbrev cX8_noteNewCircuit : ByteArray := prog_1_method_26_code
def yX8_noteNewCircuit : MethodName := ⟨RX8, "noteNewCircuit", "()V"⟩
abbrev cX8_bringUpGroups : ByteArray := prog_1_method_27_code
def yX8_bringUpGroups : MethodName := ⟨RX8, "bringUpGroups", "()V"⟩
abbrev cX8_bothHaveOut : ByteArray := prog_1_method_28_code
def yX8_bothHaveOut : MethodName := ⟨RX8, "bothHaveOut", "(I)Z"⟩
abbrev cX8_firstWordApart : ByteArray := prog_1_method_29_code
def yX8_firstWordApart : MethodName := ⟨RX8, "firstWordApart", "(I)I"⟩
def RX9 : String := "SweepBenchModel"
def TX9 : u_T := fun k => match k with
  | 0 => ("SweepBenchModel", "thrown", "I", false)
  | 1 => ("SweepBenchModel", "n", "I", false)
  | 2 => ("SweepBenchModel", "gates", "[I", true)
  | 3 => ("SweepBenchModel", "outs", "[I", true)
  | 4 => ("SweepBenchModel", "kind", "[[I", true)
  | 5 => ("SweepBenchModel", "first", "[[I", true)
  | 6 => ("SweepBenchModel", "second", "[[I", true)
  | 7 => ("SweepBenchModel", "third", "[[I", true)
  | 8 => ("SweepBenchModel", "out", "[[I", true)
  | 9 => ("SweepBenchModel", "lit", "[[I", true)
  | 10 => ("SweepBenchModel", "made", "Z", false)
  | 11 => ("SweepBenchModel", "nodes", "I", false)
  | 12 => ("SweepBenchModel", "left", "[I", true)
  | 13 => ("SweepBenchModel", "right", "[I", true)
  | 14 => ("SweepBenchModel", "table", "[[J", true)
  | 15 => ("SweepBenchModel", "vectors", "[J", true)
  | 16 => ("SweepBenchModel", "given", "[I", true)
  | 17 => ("SweepBenchModel", "many", "I", false)
  | 18 => ("SweepBenchModel", "isSwept", "Z", false)
  | 19 => ("SweepBenchModel", "rep", "[I", true)
  | 20 => ("SweepBenchModel", "foundOnes", "I", false)
  | 21 => ("SweepBenchModel", "questions", "I", false)
  | 22 => ("SweepBenchModel", "needed", "I", false)
  | 23 => ("SweepBenchModel", "own", "I", false)
  | 24 => ("SweepBenchModel", "tape", "[B", true)
  | 25 => ("SweepBenchModel", "taped", "I", false)
  | 26 => ("SweepBenchModel", "place", "I", false)
  | 27 => ("SweepBenchModel", "at", "I", false)
  | 28 => ("SweepBenchModel", "fault", "I", false)
  | 29 => ("SweepBenchModel", "value", "I", false)
  | 30 => ("SweepBenchModel", "head", "[I", true)
  | 31 => ("SweepBenchModel", "headAt", "[I", true)
  | 32 => ("SweepBenchModel", "defined", "[I", true)
  | 33 => ("SweepBenchModel", "which", "[I", true)
  | 34 => ("SweepBenchModel", "and", "[[I", true)
  | 35 => ("SweepBenchModel", "andAt", "[[I", true)
  | 36 => ("SweepBenchModel", "outLit", "[I", true)
  | 37 => ("SweepBenchModel", "outAt", "[I", true)
  | 38 => ("SweepBenchModel", "reach", "[Z", true)
  | 39 => ("SweepBenchModel", "signal", "[I", true)
  | 40 => ("SweepBenchModel", "there", "[Z", true)
  | _ => ("SweepBenchModel", "isNeeded", "[Z", true)
def tyX9 : Nat → FieldType := fun k => match k with
  | 0 => .int
  | 1 => .int
  | 2 => .array .int
  | 3 => .array .int
  | 4 => .array (.array .int)
  | 5 => .array (.array .int)
  | 6 => .array (.array .int)
  | 7 => .array (.array .int)
  | 8 => .array (.array .int)
  | 9 => .array (.array .int)
  | 10 => .boolean
  | 11 => .int
  | 12 => .array .int
  | 13 => .array .int
  | 14 => .array (.array .long)
  | 15 => .array .long
  | 16 => .array .int
  | 17 => .int
  | 18 => .boolean
  | 19 => .array .int
  | 20 => .int
  | 21 => .int
  | 22 => .int
  | 23 => .int
  | 24 => .array .byte
  | 25 => .int
  | 26 => .int
  | 27 => .int
  | 28 => .int
  | 29 => .int
  | 30 => .array .int
  | 31 => .array .int
  | 32 => .array .int
  | 33 => .array .int
  | 34 => .array (.array .int)
  | 35 => .array (.array .int)
  | 36 => .array .int
  | 37 => .array .int
  | 38 => .array .boolean
  | 39 => .array .int
  | 40 => .array .boolean
  | _ => .array .boolean
abbrev wsX90 : List Cond := u_ws RX9 TX9 42
theorem nmX9 : ∀ a, a < 42 → ∀ b, b < 42 → a ≠ b → (TX9 a).2.1 ≠ (TX9 b).2.1 := by decide +kernel
theorem tyX9_ok : ∀ k, k < 42 → parseFieldDescriptor (TX9 k).2.2.1 = some (tyX9 k) := by decide +kernel
abbrev cX9_init : ByteArray := prog_11_method_1_code
def yX9_init : MethodName := ⟨RX9, "<init>", "()V"⟩
abbrev cX9_words : ByteArray := prog_11_method_3_code
def yX9_words : MethodName := ⟨RX9, "words", "()I"⟩
abbrev cX9_isCircuit : ByteArray := prog_11_method_4_code
def yX9_isCircuit : MethodName := ⟨RX9, "isCircuit", "(I)Z"⟩
abbrev cX9_changed : ByteArray := prog_11_method_5_code
def yX9_changed : MethodName := ⟨RX9, "changed", "()V"⟩
abbrev cX9_empty : ByteArray := prog_11_method_6_code
def yX9_empty : MethodName := ⟨RX9, "empty", "(I)V"⟩
abbrev cX9_inputs : ByteArray := prog_11_method_7_code
def yX9_inputs : MethodName := ⟨RX9, "inputs", "(I)Z"⟩
abbrev cX9_has : ByteArray := prog_11_method_8_code
def yX9_has : MethodName := ⟨RX9, "has", "(II)Z"⟩
abbrev cX9_gate : ByteArray := prog_11_method_9_code
def yX9_gate : MethodName := ⟨RX9, "gate", "(IIIII)I"⟩
abbrev cX9_output : ByteArray := prog_11_method_10_code
def yX9_output : MethodName := ⟨RX9, "output", "(II)I"⟩
abbrev cX9_clear : ByteArray := prog_11_method_11_code
def yX9_clear : MethodName := ⟨RX9, "clear", "(I)I"⟩
abbrev cX9_feed : ByteArray := prog_11_method_12_code
def yX9_feed : MethodName := ⟨RX9, "feed", "(IIIII)I"⟩
abbrev cX9_put : ByteArray := prog_11_method_13_code
def yX9_put : MethodName := ⟨RX9, "put", "(I)V"⟩
abbrev cX9_end : ByteArray := prog_11_method_14_code
def yX9_end : MethodName := ⟨RX9, "end", "(I)I"⟩
abbrev cX9_fails : ByteArray := prog_11_method_15_code
def yX9_fails : MethodName := ⟨RX9, "fails", "(II)Z"⟩
abbrev cX9_is : ByteArray := prog_11_method_16_code
def yX9_is : MethodName := ⟨RX9, "is", "(I)Z"⟩
abbrev cX9_number : ByteArray := prog_11_method_17_code
def yX9_number : MethodName := ⟨RX9, "number", "()Z"⟩
abbrev cX9_firstLine : ByteArray := prog_11_method_18_code
def yX9_firstLine : MethodName := ⟨RX9, "firstLine", "()Z"⟩
abbrev cX9_defines : ByteArray := prog_11_method_19_code
def yX9_defines : MethodName := ⟨RX9, "defines", "(III)Z"⟩
abbrev cX9_uses : ByteArray := prog_11_method_20_code
def yX9_uses : MethodName := ⟨RX9, "uses", "(I)Z"⟩
abbrev cX9_lines : ByteArray := prog_11_method_21_code
def yX9_lines : MethodName := ⟨RX9, "lines", "()Z"⟩
abbrev cX9_at0 : ByteArray := prog_11_method_22_code
def yX9_at0 : MethodName := ⟨RX9, "at0", "(I)I"⟩
abbrev cX9_isDefined : ByteArray := prog_11_method_23_code
def yX9_isDefined : MethodName := ⟨RX9, "isDefined", "(I)Z"⟩
abbrev cX9_allDefined : ByteArray := prog_11_method_24_code
def yX9_allDefined : MethodName := ⟨RX9, "allDefined", "()Z"⟩
abbrev cX9_needsItself : ByteArray := prog_11_method_25_code
def yX9_needsItself : MethodName := ⟨RX9, "needsItself", "(I)Z"⟩
abbrev cX9_mark : ByteArray := prog_11_method_26_code
def yX9_mark : MethodName := ⟨RX9, "mark", "(I)Z"⟩
abbrev cX9_signalOf : ByteArray := prog_11_method_27_code
def yX9_signalOf : MethodName := ⟨RX9, "signalOf", "(I)I"⟩
abbrev cX9_becomes : ByteArray := prog_11_method_28_code
def yX9_becomes : MethodName := ⟨RX9, "becomes", "(I)V"⟩
abbrev cX9_read : ByteArray := prog_11_method_29_code
def yX9_read : MethodName := ⟨RX9, "read", "(I)I"⟩
abbrev cX9_place : ByteArray := prog_11_method_30_code
def yX9_place : MethodName := ⟨RX9, "place", "()I"⟩
abbrev cX9_newNode : ByteArray := prog_11_method_31_code
def yX9_newNode : MethodName := ⟨RX9, "newNode", "(II)I"⟩
abbrev cX9_bits : ByteArray := prog_11_method_32_code
def yX9_bits : MethodName := ⟨RX9, "bits", "(II)J"⟩
abbrev cX9_and : ByteArray := prog_11_method_33_code
def yX9_and : MethodName := ⟨RX9, "and", "(II)I"⟩
abbrev cX9_side : ByteArray := prog_11_method_34_code
def yX9_side : MethodName := ⟨RX9, "side", "(II)I"⟩
abbrev cX9_gateOf : ByteArray := prog_11_method_35_code
def yX9_gateOf : MethodName := ⟨RX9, "gateOf", "(II)I"⟩
abbrev cX9_graph : ByteArray := prog_11_method_36_code
def yX9_graph : MethodName := ⟨RX9, "graph", "()V"⟩
abbrev cX9_bit : ByteArray := prog_11_method_37_code
def yX9_bit : MethodName := ⟨RX9, "bit", "(II)Z"⟩
abbrev cX9_unlike : ByteArray := prog_11_method_38_code
def yX9_unlike : MethodName := ⟨RX9, "unlike", "(II)I"⟩
abbrev cX9_value : ByteArray := prog_11_method_39_code
def yX9_value : MethodName := ⟨RX9, "value", "(III)I"⟩
abbrev cX9_isGiven : ByteArray := prog_11_method_40_code
def yX9_isGiven : MethodName := ⟨RX9, "isGiven", "(I)Z"⟩
abbrev cX9_give : ByteArray := prog_11_method_41_code
def yX9_give : MethodName := ⟨RX9, "give", "(I)V"⟩
abbrev cX9_vector : ByteArray := prog_11_method_42_code
def yX9_vector : MethodName := ⟨RX9, "vector", "(I)I"⟩
abbrev cX9_forget : ByteArray := prog_11_method_43_code
def yX9_forget : MethodName := ⟨RX9, "forget", "()I"⟩
abbrev cX9_given : ByteArray := prog_11_method_44_code
def yX9_given : MethodName := ⟨RX9, "given", "(I)I"⟩
abbrev cX9_like : ByteArray := prog_11_method_45_code
def yX9_like : MethodName := ⟨RX9, "like", "(II)I"⟩
abbrev cX9_leastLike : ByteArray := prog_11_method_46_code
def yX9_leastLike : MethodName := ⟨RX9, "leastLike", "(I)I"⟩
abbrev cX9_count : ByteArray := prog_11_method_47_code
def yX9_count : MethodName := ⟨RX9, "count", "(I)I"⟩
abbrev cX9_node : ByteArray := prog_11_method_48_code
def yX9_node : MethodName := ⟨RX9, "node", "(II)I"⟩
abbrev cX9_literal : ByteArray := prog_11_method_49_code
def yX9_literal : MethodName := ⟨RX9, "literal", "(II)I"⟩
abbrev cX9_candidate : ByteArray := prog_11_method_50_code
def yX9_candidate : MethodName := ⟨RX9, "candidate", "(I)I"⟩
abbrev cX9_sweep : ByteArray := prog_11_method_51_code
def yX9_sweep : MethodName := ⟨RX9, "sweep", "()I"⟩
abbrev cX9_need : ByteArray := prog_11_method_52_code
def yX9_need : MethodName := ⟨RX9, "need", "()V"⟩
abbrev cX9_swept : ByteArray := prog_11_method_53_code
def yX9_swept : MethodName := ⟨RX9, "swept", "(I)I"⟩
abbrev cX9_told : ByteArray := prog_11_method_54_code
def yX9_told : MethodName := ⟨RX9, "told", "(I)I"⟩
abbrev cX9_both : ByteArray := prog_11_method_55_code
def yX9_both : MethodName := ⟨RX9, "both", "(I)Z"⟩
abbrev cX9_differs : ByteArray := prog_11_method_56_code
def yX9_differs : MethodName := ⟨RX9, "differs", "(I)I"⟩
abbrev cX9_same : ByteArray := prog_11_method_57_code
def yX9_same : MethodName := ⟨RX9, "same", "(I)I"⟩
abbrev cX9_verdict : ByteArray := prog_11_method_58_code
def yX9_verdict : MethodName := ⟨RX9, "verdict", "()I"⟩
def RJ13 : String := "java/lang/Long"
def TJ13 : u_T := fun k => match k with
  | _ => ("", "", "", false)
def tyJ13 : Nat → FieldType := fun k => match k with
  | _ => .int
abbrev wsJ130 : List Cond := u_ws RJ13 TJ13 0
theorem nmJ13 : ∀ a, a < 0 → ∀ b, b < 0 → a ≠ b → (TJ13 a).2.1 ≠ (TJ13 b).2.1 := by decide +kernel
theorem tyJ13_ok : ∀ k, k < 0 → parseFieldDescriptor (TJ13 k).2.2.1 = some (tyJ13 k) := by decide +kernel
abbrev cJ13_bitCount_95d88 : ByteArray := prog_12_method_50_code
def yJ13_bitCount_95d88 : MethodName := ⟨RJ13, "bitCount", "(J)I"⟩
def RJ9 : String := "java/lang/Math"
def TJ9 : u_T := fun k => match k with
  | _ => ("", "", "", false)
def tyJ9 : Nat → FieldType := fun k => match k with
  | _ => .int
abbrev wsJ90 : List Cond := u_ws RJ9 TJ9 0
theorem nmJ9 : ∀ a, a < 0 → ∀ b, b < 0 → a ≠ b → (TJ9 a).2.1 ≠ (TJ9 b).2.1 := by decide +kernel
theorem tyJ9_ok : ∀ k, k < 0 → parseFieldDescriptor (TJ9 k).2.2.1 = some (tyJ9 k) := by decide +kernel
abbrev cJ9_max_7cf53 : ByteArray := prog_13_method_65_code
def yJ9_max_7cf53 : MethodName := ⟨RJ9, "max", "(II)I"⟩
abbrev cJ9_min_7cf53 : ByteArray := prog_13_method_69_code
def yJ9_min_7cf53 : MethodName := ⟨RJ9, "min", "(II)I"⟩
def RJ7 : String := "java/util/Arrays"
def TJ7 : u_T := fun k => match k with
  | _ => ("", "", "", false)
def tyJ7 : Nat → FieldType := fun k => match k with
  | _ => .int
abbrev wsJ70 : List Cond := u_ws RJ7 TJ7 0
theorem nmJ7 : ∀ a, a < 0 → ∀ b, b < 0 → a ≠ b → (TJ7 a).2.1 ≠ (TJ7 b).2.1 := by decide +kernel
theorem tyJ7_ok : ∀ k, k < 0 → parseFieldDescriptor (TJ7 k).2.2.1 = some (tyJ7 k) := by decide +kernel
abbrev cJ7_fill_d0a16 : ByteArray := prog_14_method_101_code
def yJ7_fill_d0a16 : MethodName := ⟨RJ7, "fill", "([JJ)V"⟩
abbrev cJ7_fill_53178 : ByteArray := prog_14_method_103_code
def yJ7_fill_53178 : MethodName := ⟨RJ7, "fill", "([II)V"⟩
def RL : String := "SweepBenchLaw"
abbrev cL_law : ByteArray := code
def yL_law : MethodName := ⟨RL, "law", "([I)Z"⟩
end
section
def pL_law : List (Nat × Instr × Nat) := [(0, .new 7, 3), (3, .dup, 1), (4, .invokespecial 9, 3), (7, .astore_n 1, 1), (8, .new 10, 3), (11, .dup, 1), (12, .invokespecial 12, 3), (15, .astore_n 2, 1), (16, .iconst 0, 1), (17, .istore_n 3, 1), (18, .iload_n 3, 1), (19, .aload_n 0, 1), (20, .arraylength, 1), (21, .bipush 6, 2), (23, .isub, 1), (24, .if_icmp .gt 687, 3), (27, .aload_n 0, 1), (28, .iload_n 3, 1), (29, .iaload, 1), (30, .bipush 31, 2), (32, .iand, 1), (33, .tableswitch 672 0 20 #[99, 122, 185, 218, 241, 304, 327, 350, 363, 406, 429, 442, 465, 488, 521, 554, 567, 590, 613, 636, 659], 99), (132, .aload_n 1, 1), (133, .aload_n 0, 1), (134, .iload_n 3, 1), (135, .iconst 1, 1), (136, .iadd, 1), (137, .iaload, 1), (138, .invokevirtual 13, 3), (141, .aload_n 2, 1), (142, .aload_n 0, 1), (143, .iload_n 3, 1), (144, .iconst 1, 1), (145, .iadd, 1), (146, .iaload, 1), (147, .invokevirtual 17, 3), (150, .if_icmp .eq 555, 3), (153, .iconst 0, 1), (154, .ireturn, 1), (155, .aload_n 1, 1), (156, .aload_n 0, 1), (157, .iload_n 3, 1), (158, .iconst 1, 1), (159, .iadd, 1), (160, .iaload, 1), (161, .aload_n 0, 1), (162, .iload_n 3, 1), (163, .iconst 2, 1), (164, .iadd, 1), (165, .iaload, 1), (166, .aload_n 0, 1), (167, .iload_n 3, 1), (168, .iconst 3, 1), (169, .iadd, 1), (170, .iaload, 1), (171, .aload_n 0, 1), (172, .iload_n 3, 1), (173, .iconst 4, 1), (174, .iadd, 1), (175, .iaload, 1), (176, .aload_n 0, 1), (177, .iload_n 3, 1), (178, .iconst 5, 1), (179, .iadd, 1), (180, .iaload, 1), (181, .invokevirtual 18, 3), (184, .aload_n 2, 1), (185, .aload_n 0, 1), (186, .iload_n 3, 1), (187, .iconst 1, 1), (188, .iadd, 1), (189, .iaload, 1), (190, .aload_n 0, 1), (191, .iload_n 3, 1), (192, .iconst 2, 1), (193, .iadd, 1), (194, .iaload, 1), (195, .aload_n 0, 1), (196, .iload_n 3, 1), (197, .iconst 3, 1), (198, .iadd, 1), (199, .iaload, 1), (200, .aload_n 0, 1), (201, .iload_n 3, 1), (202, .iconst 4, 1), (203, .iadd, 1), (204, .iaload, 1), (205, .aload_n 0, 1), (206, .iload_n 3, 1), (207, .iconst 5, 1), (208, .iadd, 1), (209, .iaload, 1), (210, .invokevirtual 22, 3), (213, .if_icmp .eq 492, 3), (216, .iconst 0, 1), (217, .ireturn, 1), (218, .aload_n 1, 1), (219, .aload_n 0, 1), (220, .iload_n 3, 1), (221, .iconst 1, 1), (222, .iadd, 1), (223, .iaload, 1), (224, .aload_n 0, 1), (225, .iload_n 3, 1), (226, .iconst 2, 1), (227, .iadd, 1), (228, .iaload, 1), (229, .invokevirtual 23, 3), (232, .aload_n 2, 1), (233, .aload_n 0, 1), (234, .iload_n 3, 1), (235, .iconst 1, 1), (236, .iadd, 1), (237, .iaload, 1), (238, .aload_n 0, 1), (239, .iload_n 3, 1), (240, .iconst 2, 1), (241, .iadd, 1), (242, .iaload, 1), (243, .invokevirtual 27, 3), (246, .if_icmp .eq 459, 3), (249, .iconst 0, 1), (250, .ireturn, 1), (251, .aload_n 1, 1), (252, .aload_n 0, 1), (253, .iload_n 3, 1), (254, .iconst 1, 1), (255, .iadd, 1), (256, .iaload, 1), (257, .invokevirtual 28, 3), (260, .aload_n 2, 1), (261, .aload_n 0, 1), (262, .iload_n 3, 1), (263, .iconst 1, 1), (264, .iadd, 1), (265, .iaload, 1), (266, .invokevirtual 32, 3), (269, .if_icmp .eq 436, 3), (272, .iconst 0, 1), (273, .ireturn, 1), (274, .aload_n 1, 1), (275, .aload_n 0, 1), (276, .iload_n 3, 1), (277, .iconst 1, 1), (278, .iadd, 1), (279, .iaload, 1), (280, .aload_n 0, 1), (281, .iload_n 3, 1), (282, .iconst 2, 1), (283, .iadd, 1), (284, .iaload, 1), (285, .aload_n 0, 1), (286, .iload_n 3, 1), (287, .iconst 3, 1), (288, .iadd, 1), (289, .iaload, 1), (290, .aload_n 0, 1), (291, .iload_n 3, 1), (292, .iconst 4, 1), (293, .iadd, 1), (294, .iaload, 1), (295, .aload_n 0, 1), (296, .iload_n 3, 1), (297, .iconst 5, 1), (298, .iadd, 1), (299, .iaload, 1), (300, .invokevirtual 33, 3), (303, .aload_n 2, 1), (304, .aload_n 0, 1), (305, .iload_n 3, 1), (306, .iconst 1, 1), (307, .iadd, 1), (308, .iaload, 1), (309, .aload_n 0, 1), (310, .iload_n 3, 1), (311, .iconst 2, 1), (312, .iadd, 1), (313, .iaload, 1), (314, .aload_n 0, 1), (315, .iload_n 3, 1), (316, .iconst 3, 1), (317, .iadd, 1), (318, .iaload, 1), (319, .aload_n 0, 1), (320, .iload_n 3, 1), (321, .iconst 4, 1), (322, .iadd, 1), (323, .iaload, 1), (324, .aload_n 0, 1), (325, .iload_n 3, 1), (326, .iconst 5, 1), (327, .iadd, 1), (328, .iaload, 1), (329, .invokevirtual 36, 3), (332, .if_icmp .eq 373, 3), (335, .iconst 0, 1), (336, .ireturn, 1), (337, .aload_n 1, 1), (338, .aload_n 0, 1), (339, .iload_n 3, 1), (340, .iconst 1, 1), (341, .iadd, 1), (342, .iaload, 1), (343, .invokevirtual 37, 3), (346, .aload_n 2, 1), (347, .aload_n 0, 1), (348, .iload_n 3, 1), (349, .iconst 1, 1), (350, .iadd, 1), (351, .iaload, 1), (352, .invokevirtual 40, 3), (355, .if_icmp .eq 350, 3), (358, .iconst 0, 1), (359, .ireturn, 1), (360, .aload_n 1, 1), (361, .aload_n 0, 1), (362, .iload_n 3, 1), (363, .iconst 1, 1), (364, .iadd, 1), (365, .iaload, 1), (366, .invokevirtual 41, 3), (369, .aload_n 2, 1), (370, .aload_n 0, 1), (371, .iload_n 3, 1), (372, .iconst 1, 1), (373, .iadd, 1), (374, .iaload, 1), (375, .invokevirtual 44, 3), (378, .if_icmp .eq 327, 3), (381, .iconst 0, 1), (382, .ireturn, 1), (383, .aload_n 1, 1), (384, .invokevirtual 45, 3), (387, .aload_n 2, 1), (388, .invokevirtual 49, 3), (391, .if_icmp .eq 314, 3), (394, .iconst 0, 1), (395, .ireturn, 1), (396, .aload_n 1, 1), (397, .aload_n 0, 1), (398, .iload_n 3, 1), (399, .iconst 1, 1), (400, .iadd, 1), (401, .iaload, 1), (402, .aload_n 0, 1), (403, .iload_n 3, 1), (404, .iconst 2, 1), (405, .iadd, 1), (406, .iaload, 1), (407, .aload_n 0, 1), (408, .iload_n 3, 1), (409, .iconst 3, 1), (410, .iadd, 1), (411, .iaload, 1), (412, .invokevirtual 50, 3), (415, .aload_n 2, 1), (416, .aload_n 0, 1), (417, .iload_n 3, 1), (418, .iconst 1, 1), (419, .iadd, 1), (420, .iaload, 1), (421, .aload_n 0, 1), (422, .iload_n 3, 1), (423, .iconst 2, 1), (424, .iadd, 1), (425, .iaload, 1), (426, .aload_n 0, 1), (427, .iload_n 3, 1), (428, .iconst 3, 1), (429, .iadd, 1), (430, .iaload, 1), (431, .invokevirtual 54, 3), (434, .if_icmp .eq 271, 3), (437, .iconst 0, 1), (438, .ireturn, 1), (439, .aload_n 1, 1), (440, .aload_n 0, 1), (441, .iload_n 3, 1), (442, .iconst 1, 1), (443, .iadd, 1), (444, .iaload, 1), (445, .invokevirtual 55, 3), (448, .aload_n 2, 1), (449, .aload_n 0, 1), (450, .iload_n 3, 1), (451, .iconst 1, 1), (452, .iadd, 1), (453, .iaload, 1), (454, .invokevirtual 58, 3), (457, .if_icmp .eq 248, 3), (460, .iconst 0, 1), (461, .ireturn, 1), (462, .aload_n 1, 1), (463, .invokevirtual 59, 3), (466, .aload_n 2, 1), (467, .invokevirtual 62, 3), (470, .if_icmp .eq 235, 3), (473, .iconst 0, 1), (474, .ireturn, 1), (475, .aload_n 1, 1), (476, .aload_n 0, 1), (477, .iload_n 3, 1), (478, .iconst 1, 1), (479, .iadd, 1), (480, .iaload, 1), (481, .invokevirtual 63, 3), (484, .aload_n 2, 1), (485, .aload_n 0, 1), (486, .iload_n 3, 1), (487, .iconst 1, 1), (488, .iadd, 1), (489, .iaload, 1), (490, .invokevirtual 66, 3), (493, .if_icmp .eq 212, 3), (496, .iconst 0, 1), (497, .ireturn, 1), (498, .aload_n 1, 1), (499, .aload_n 0, 1), (500, .iload_n 3, 1), (501, .iconst 1, 1), (502, .iadd, 1), (503, .iaload, 1), (504, .invokevirtual 67, 3), (507, .aload_n 2, 1), (508, .aload_n 0, 1), (509, .iload_n 3, 1), (510, .iconst 1, 1), (511, .iadd, 1), (512, .iaload, 1), (513, .invokevirtual 70, 3), (516, .if_icmp .eq 189, 3), (519, .iconst 0, 1), (520, .ireturn, 1), (521, .aload_n 1, 1), (522, .aload_n 0, 1), (523, .iload_n 3, 1), (524, .iconst 1, 1), (525, .iadd, 1), (526, .iaload, 1), (527, .aload_n 0, 1), (528, .iload_n 3, 1), (529, .iconst 2, 1), (530, .iadd, 1), (531, .iaload, 1), (532, .invokevirtual 71, 3), (535, .aload_n 2, 1), (536, .aload_n 0, 1), (537, .iload_n 3, 1), (538, .iconst 1, 1), (539, .iadd, 1), (540, .iaload, 1), (541, .aload_n 0, 1), (542, .iload_n 3, 1), (543, .iconst 2, 1), (544, .iadd, 1), (545, .iaload, 1), (546, .invokevirtual 74, 3), (549, .if_icmp .eq 156, 3), (552, .iconst 0, 1), (553, .ireturn, 1), (554, .aload_n 1, 1), (555, .aload_n 0, 1), (556, .iload_n 3, 1), (557, .iconst 1, 1), (558, .iadd, 1), (559, .iaload, 1), (560, .aload_n 0, 1), (561, .iload_n 3, 1), (562, .iconst 2, 1), (563, .iadd, 1), (564, .iaload, 1), (565, .invokevirtual 75, 3), (568, .aload_n 2, 1), (569, .aload_n 0, 1), (570, .iload_n 3, 1), (571, .iconst 1, 1), (572, .iadd, 1), (573, .iaload, 1), (574, .aload_n 0, 1), (575, .iload_n 3, 1), (576, .iconst 2, 1), (577, .iadd, 1), (578, .iaload, 1), (579, .invokevirtual 78, 3), (582, .if_icmp .eq 123, 3), (585, .iconst 0, 1), (586, .ireturn, 1), (587, .aload_n 1, 1), (588, .invokevirtual 79, 3), (591, .aload_n 2, 1), (592, .invokevirtual 82, 3), (595, .if_icmp .eq 110, 3), (598, .iconst 0, 1), (599, .ireturn, 1), (600, .aload_n 1, 1), (601, .aload_n 0, 1), (602, .iload_n 3, 1), (603, .iconst 1, 1), (604, .iadd, 1), (605, .iaload, 1), (606, .invokevirtual 83, 3), (609, .aload_n 2, 1), (610, .aload_n 0, 1), (611, .iload_n 3, 1), (612, .iconst 1, 1), (613, .iadd, 1), (614, .iaload, 1), (615, .invokevirtual 86, 3), (618, .if_icmp .eq 87, 3), (621, .iconst 0, 1), (622, .ireturn, 1), (623, .aload_n 1, 1), (624, .aload_n 0, 1), (625, .iload_n 3, 1), (626, .iconst 1, 1), (627, .iadd, 1), (628, .iaload, 1), (629, .invokevirtual 87, 3), (632, .aload_n 2, 1), (633, .aload_n 0, 1), (634, .iload_n 3, 1), (635, .iconst 1, 1), (636, .iadd, 1), (637, .iaload, 1), (638, .invokevirtual 90, 3), (641, .if_icmp .eq 64, 3), (644, .iconst 0, 1), (645, .ireturn, 1), (646, .aload_n 1, 1), (647, .aload_n 0, 1), (648, .iload_n 3, 1), (649, .iconst 1, 1), (650, .iadd, 1), (651, .iaload, 1), (652, .invokevirtual 91, 3), (655, .aload_n 2, 1), (656, .aload_n 0, 1), (657, .iload_n 3, 1), (658, .iconst 1, 1), (659, .iadd, 1), (660, .iaload, 1), (661, .invokevirtual 94, 3), (664, .if_icmp .eq 41, 3), (667, .iconst 0, 1), (668, .ireturn, 1), (669, .aload_n 1, 1), (670, .aload_n 0, 1), (671, .iload_n 3, 1), (672, .iconst 1, 1), (673, .iadd, 1), (674, .iaload, 1), (675, .invokevirtual 95, 3), (678, .aload_n 2, 1), (679, .aload_n 0, 1), (680, .iload_n 3, 1), (681, .iconst 1, 1), (682, .iadd, 1), (683, .iaload, 1), (684, .invokevirtual 98, 3), (687, .if_icmp .eq 18, 3), (690, .iconst 0, 1), (691, .ireturn, 1), (692, .aload_n 1, 1), (693, .invokevirtual 99, 3), (696, .aload_n 2, 1), (697, .invokevirtual 102, 3), (700, .if_icmp .eq 5, 3), (703, .iconst 0, 1), (704, .ireturn, 1), (705, .iinc 3 6, 3), (708, .goto (-690), 3), (711, .iconst 1, 1), (712, .ireturn, 1)]
set_option maxRecDepth 100000 in
theorem okL_law : ∀ q ∈ pL_law, decode cL_law q.1 = .ok q.2 := by decide +kernel
end
section
def pX0_init : List (Nat × Instr × Nat) := [(0, .aload_n 0, 1), (1, .invokespecial 3, 3), (4, .aload_n 0, 1), (5, .iconst 5, 1), (6, .newarray .int, 2), (8, .putfield 9, 3), (11, .aload_n 0, 1), (12, .iconst 5, 1), (13, .newarray .int, 2), (15, .putfield 15, 3), (18, .aload_n 0, 1), (19, .sipush 1001, 3), (22, .newarray .int, 2), (24, .putfield 18, 3), (27, .aload_n 0, 1), (28, .sipush 248, 3), (31, .newarray .int, 2), (33, .putfield 21, 3), (36, .aload_n 0, 1), (37, .sipush 248, 3), (40, .newarray .int, 2), (42, .putfield 24, 3), (45, .aload_n 0, 1), (46, .bipush 119, 2), (48, .newarray .int, 2), (50, .putfield 27, 3), (53, .aload_n 0, 1), (54, .aload_n 1, 1), (55, .putfield 30, 3), (58, .return_, 1)]
set_option maxRecDepth 100000 in
theorem okX0_init : ∀ q ∈ pX0_init, decode cX0_init q.1 = .ok q.2 := by decide +kernel
def pX0_parse : List (Nat × Instr × Nat) := [(0, .aload_n 0, 1), (1, .iload_n 1, 1), (2, .invokevirtual 34, 3), (5, .aload_n 0, 1), (6, .invokevirtual 38, 3), (9, .aload_n 0, 1), (10, .invokevirtual 41, 3), (13, .aload_n 0, 1), (14, .invokevirtual 44, 3), (17, .aload_n 0, 1), (18, .invokevirtual 47, 3), (21, .aload_n 0, 1), (22, .getfield 50, 3), (25, .aload_n 0, 1), (26, .getfield 30, 3), (29, .getfield 54, 3), (32, .if_icmp .ge 12, 3), (35, .aload_n 0, 1), (36, .iconst 1, 1), (37, .aload_n 0, 1), (38, .getfield 50, 3), (41, .invokevirtual 59, 3), (44, .aload_n 0, 1), (45, .invokevirtual 63, 3), (48, .return_, 1)]
set_option maxRecDepth 100000 in
theorem okX0_parse : ∀ q ∈ pX0_parse, decode cX0_parse q.1 = .ok q.2 := by decide +kernel
def pX0_fail : List (Nat × Instr × Nat) := [(0, .aload_n 0, 1), (1, .getfield 66, 3), (4, .ifCond .ne 13, 3), (7, .aload_n 0, 1), (8, .iload_n 1, 1), (9, .putfield 66, 3), (12, .aload_n 0, 1), (13, .iload_n 2, 1), (14, .putfield 69, 3), (17, .return_, 1)]
set_option maxRecDepth 100000 in
theorem okX0_fail : ∀ q ∈ pX0_fail, decode cX0_fail q.1 = .ok q.2 := by decide +kernel
def pX0_andOf : List (Nat × Instr × Nat) := [(0, .aload_n 0, 1), (1, .getfield 18, 3), (4, .iload_n 1, 1), (5, .iconst 1, 1), (6, .ishr, 1), (7, .iaload, 1), (8, .istore_n 2, 1), (9, .iload_n 2, 1), (10, .aload_n 0, 1), (11, .getfield 72, 3), (14, .if_icmp .le 14, 3), (17, .iload_n 2, 1), (18, .aload_n 0, 1), (19, .getfield 72, 3), (22, .isub, 1), (23, .iconst 1, 1), (24, .isub, 1), (25, .goto 4, 3), (28, .iconst (-1), 1), (29, .ireturn, 1)]
set_option maxRecDepth 100000 in
theorem okX0_andOf : ∀ q ∈ pX0_andOf, decode cX0_andOf q.1 = .ok q.2 := by decide +kernel
def pX0_sideOf : List (Nat × Instr × Nat) := [(0, .aload_n 0, 1), (1, .getfield 21, 3), (4, .aload_n 0, 1), (5, .getfield 75, 3), (8, .iconst 2, 1), (9, .iload_n 1, 1), (10, .imul, 1), (11, .iadd, 1), (12, .iload_n 2, 1), (13, .iadd, 1), (14, .iaload, 1), (15, .ireturn, 1)]
set_option maxRecDepth 100000 in
theorem okX0_sideOf : ∀ q ∈ pX0_sideOf, decode cX0_sideOf q.1 = .ok q.2 := by decide +kernel
def pX0_startAnew : List (Nat × Instr × Nat) := [(0, .aload_n 0, 1), (1, .getfield 9, 3), (4, .iconst 0, 1), (5, .invokestatic 78, 3), (8, .aload_n 0, 1), (9, .getfield 18, 3), (12, .iconst 0, 1), (13, .invokestatic 78, 3), (16, .aload_n 0, 1), (17, .iconst 0, 1), (18, .putfield 84, 3), (21, .aload_n 0, 1), (22, .iload_n 1, 1), (23, .putfield 72, 3), (26, .aload_n 0, 1), (27, .iconst 0, 1), (28, .putfield 75, 3), (31, .aload_n 0, 1), (32, .iconst 0, 1), (33, .putfield 87, 3), (36, .aload_n 0, 1), (37, .iconst 0, 1), (38, .putfield 90, 3), (41, .aload_n 0, 1), (42, .iconst 0, 1), (43, .putfield 93, 3), (46, .aload_n 0, 1), (47, .iconst 0, 1), (48, .putfield 96, 3), (51, .aload_n 0, 1), (52, .iconst 0, 1), (53, .putfield 66, 3), (56, .aload_n 0, 1), (57, .iconst (-1), 1), (58, .putfield 69, 3), (61, .aload_n 0, 1), (62, .iconst 0, 1), (63, .putfield 50, 3), (66, .aload_n 0, 1), (67, .iconst 0, 1), (68, .putfield 100, 3), (71, .return_, 1)]
set_option maxRecDepth 100000 in
theorem okX0_startAnew : ∀ q ∈ pX0_startAnew, decode cX0_startAnew q.1 = .ok q.2 := by decide +kernel
def pX0_parseHead : List (Nat × Instr × Nat) := [(0, .aload_n 0, 1), (1, .bipush 97, 2), (3, .invokevirtual 103, 3), (6, .aload_n 0, 1), (7, .bipush 97, 2), (9, .invokevirtual 103, 3), (12, .aload_n 0, 1), (13, .bipush 103, 2), (15, .invokevirtual 103, 3), (18, .iconst 0, 1), (19, .istore_n 1, 1), (20, .iload_n 1, 1), (21, .iconst 5, 1), (22, .if_icmp .ge 20, 3), (25, .aload_n 0, 1), (26, .getfield 66, 3), (29, .ifCond .ne 13, 3), (32, .aload_n 0, 1), (33, .invokevirtual 106, 3), (36, .iinc 1 1, 3), (39, .goto (-19), 3), (42, .aload_n 0, 1), (43, .invokevirtual 109, 3), (46, .aload_n 0, 1), (47, .bipush 10, 2), (49, .invokevirtual 103, 3), (52, .aload_n 0, 1), (53, .aload_n 0, 1), (54, .getfield 9, 3), (57, .iconst 3, 1), (58, .iaload, 1), (59, .putfield 75, 3), (62, .aload_n 0, 1), (63, .aload_n 0, 1), (64, .getfield 9, 3), (67, .iconst 4, 1), (68, .iaload, 1), (69, .putfield 87, 3), (72, .aload_n 0, 1), (73, .iconst 2, 1), (74, .aload_n 0, 1), (75, .getfield 9, 3), (78, .iconst 0, 1), (79, .iaload, 1), (80, .imul, 1), (81, .iconst 1, 1), (82, .iadd, 1), (83, .putfield 93, 3), (86, .return_, 1)]
set_option maxRecDepth 100000 in
theorem okX0_parseHead : ∀ q ∈ pX0_parseHead, decode cX0_parseHead q.1 = .ok q.2 := by decide +kernel
def pX0_parseHeadNumber : List (Nat × Instr × Nat) := [(0, .aload_n 0, 1), (1, .bipush 32, 2), (3, .invokevirtual 103, 3), (6, .aload_n 0, 1), (7, .invokevirtual 112, 3), (10, .istore_n 1, 1), (11, .aload_n 0, 1), (12, .getfield 66, 3), (15, .ifCond .ne 44, 3), (18, .aload_n 0, 1), (19, .getfield 84, 3), (22, .iconst 5, 1), (23, .if_icmp .ge 36, 3), (26, .aload_n 0, 1), (27, .getfield 9, 3), (30, .aload_n 0, 1), (31, .getfield 84, 3), (34, .iload_n 1, 1), (35, .iastore, 1), (36, .aload_n 0, 1), (37, .getfield 15, 3), (40, .aload_n 0, 1), (41, .getfield 84, 3), (44, .aload_n 0, 1), (45, .getfield 100, 3), (48, .iastore, 1), (49, .aload_n 0, 1), (50, .dup, 1), (51, .getfield 84, 3), (54, .iconst 1, 1), (55, .iadd, 1), (56, .putfield 84, 3), (59, .return_, 1)]
set_option maxRecDepth 100000 in
theorem okX0_parseHeadNumber : ∀ q ∈ pX0_parseHeadNumber, decode cX0_parseHeadNumber q.1 = .ok q.2 := by decide +kernel
def pX0_askHeadNumbers : List (Nat × Instr × Nat) := [(0, .iconst 0, 1), (1, .istore_n 1, 1), (2, .iload_n 1, 1), (3, .aload_n 0, 1), (4, .getfield 84, 3), (7, .if_icmp .ge 33, 3), (10, .aload_n 0, 1), (11, .iload_n 1, 1), (12, .invokevirtual 116, 3), (15, .ifCond .eq 19, 3), (18, .aload_n 0, 1), (19, .iconst 2, 1), (20, .putfield 66, 3), (23, .aload_n 0, 1), (24, .aload_n 0, 1), (25, .getfield 15, 3), (28, .iload_n 1, 1), (29, .iaload, 1), (30, .putfield 69, 3), (33, .return_, 1), (34, .iinc 1 1, 3), (37, .goto (-35), 3), (40, .return_, 1)]
set_option maxRecDepth 100000 in
theorem okX0_askHeadNumbers : ∀ q ∈ pX0_askHeadNumbers, decode cX0_askHeadNumbers q.1 = .ok q.2 := by decide +kernel
def pX0_isBadHeadNumber : List (Nat × Instr × Nat) := [(0, .iload_n 1, 1), (1, .tableswitch 107 0 3 #[31, 56, 75, 90], 31), (32, .aload_n 0, 1), (33, .getfield 9, 3), (36, .iload_n 1, 1), (37, .iaload, 1), (38, .sipush 1000, 3), (41, .if_icmp .gt 10, 3), (44, .aload_n 0, 1), (45, .invokevirtual 120, 3), (48, .ifCond .eq 7, 3), (51, .iconst 1, 1), (52, .goto 4, 3), (55, .iconst 0, 1), (56, .ireturn, 1), (57, .aload_n 0, 1), (58, .getfield 9, 3), (61, .iload_n 1, 1), (62, .iaload, 1), (63, .aload_n 0, 1), (64, .getfield 72, 3), (67, .if_icmp .eq 7, 3), (70, .iconst 1, 1), (71, .goto 4, 3), (74, .iconst 0, 1), (75, .ireturn, 1), (76, .aload_n 0, 1), (77, .getfield 9, 3), (80, .iload_n 1, 1), (81, .iaload, 1), (82, .ifCond .eq 7, 3), (85, .iconst 1, 1), (86, .goto 4, 3), (89, .iconst 0, 1), (90, .ireturn, 1), (91, .aload_n 0, 1), (92, .getfield 9, 3), (95, .iload_n 1, 1), (96, .iaload, 1), (97, .bipush 10, 2), (99, .if_icmp .le 7, 3), (102, .iconst 1, 1), (103, .goto 4, 3), (106, .iconst 0, 1), (107, .ireturn, 1), (108, .aload_n 0, 1), (109, .getfield 9, 3), (112, .iload_n 1, 1), (113, .iaload, 1), (114, .bipush 119, 2), (116, .if_icmp .le 7, 3), (119, .iconst 1, 1), (120, .goto 4, 3), (123, .iconst 0, 1), (124, .ireturn, 1)]
set_option maxRecDepth 100000 in
theorem okX0_isBadHeadNumber : ∀ q ∈ pX0_isBadHeadNumber, decode cX0_isBadHeadNumber q.1 = .ok q.2 := by decide +kernel
def pX0_hasTooFewVariables : List (Nat × Instr × Nat) := [(0, .aload_n 0, 1), (1, .getfield 84, 3), (4, .iconst 5, 1), (5, .if_icmp .ne 29, 3), (8, .aload_n 0, 1), (9, .getfield 9, 3), (12, .iconst 0, 1), (13, .iaload, 1), (14, .aload_n 0, 1), (15, .getfield 9, 3), (18, .iconst 1, 1), (19, .iaload, 1), (20, .aload_n 0, 1), (21, .getfield 9, 3), (24, .iconst 4, 1), (25, .iaload, 1), (26, .iadd, 1), (27, .if_icmp .ge 7, 3), (30, .iconst 1, 1), (31, .goto 4, 3), (34, .iconst 0, 1), (35, .ireturn, 1)]
set_option maxRecDepth 100000 in
theorem okX0_hasTooFewVariables : ∀ q ∈ pX0_hasTooFewVariables, decode cX0_hasTooFewVariables q.1 = .ok q.2 := by decide +kernel
def pX0_parseInputLines : List (Nat × Instr × Nat) := [(0, .iconst 0, 1), (1, .istore_n 1, 1), (2, .iload_n 1, 1), (3, .aload_n 0, 1), (4, .getfield 72, 3), (7, .if_icmp .ge 29, 3), (10, .aload_n 0, 1), (11, .getfield 66, 3), (14, .ifCond .ne 22, 3), (17, .aload_n 0, 1), (18, .iload_n 1, 1), (19, .iconst 1, 1), (20, .iadd, 1), (21, .invokevirtual 124, 3), (24, .aload_n 0, 1), (25, .bipush 10, 2), (27, .invokevirtual 103, 3), (30, .iinc 1 1, 3), (33, .goto (-31), 3), (36, .return_, 1)]
set_option maxRecDepth 100000 in
theorem okX0_parseInputLines : ∀ q ∈ pX0_parseInputLines, decode cX0_parseInputLines q.1 = .ok q.2 := by decide +kernel
def pX0_parseOutLines : List (Nat × Instr × Nat) := [(0, .iconst 0, 1), (1, .istore_n 1, 1), (2, .iload_n 1, 1), (3, .aload_n 0, 1), (4, .getfield 75, 3), (7, .if_icmp .ge 26, 3), (10, .aload_n 0, 1), (11, .getfield 66, 3), (14, .ifCond .ne 19, 3), (17, .aload_n 0, 1), (18, .invokevirtual 127, 3), (21, .aload_n 0, 1), (22, .bipush 10, 2), (24, .invokevirtual 103, 3), (27, .iinc 1 1, 3), (30, .goto (-28), 3), (33, .return_, 1)]
set_option maxRecDepth 100000 in
theorem okX0_parseOutLines : ∀ q ∈ pX0_parseOutLines, decode cX0_parseOutLines q.1 = .ok q.2 := by decide +kernel
def pX0_parseAndLines : List (Nat × Instr × Nat) := [(0, .iconst 0, 1), (1, .istore_n 1, 1), (2, .iload_n 1, 1), (3, .aload_n 0, 1), (4, .getfield 87, 3), (7, .if_icmp .ge 64, 3), (10, .aload_n 0, 1), (11, .getfield 66, 3), (14, .ifCond .ne 57, 3), (17, .aload_n 0, 1), (18, .getfield 27, 3), (21, .iload_n 1, 1), (22, .aload_n 0, 1), (23, .getfield 50, 3), (26, .iastore, 1), (27, .aload_n 0, 1), (28, .aload_n 0, 1), (29, .getfield 72, 3), (32, .iconst 1, 1), (33, .iadd, 1), (34, .iload_n 1, 1), (35, .iadd, 1), (36, .invokevirtual 124, 3), (39, .aload_n 0, 1), (40, .bipush 32, 2), (42, .invokevirtual 103, 3), (45, .aload_n 0, 1), (46, .invokevirtual 127, 3), (49, .aload_n 0, 1), (50, .bipush 32, 2), (52, .invokevirtual 103, 3), (55, .aload_n 0, 1), (56, .invokevirtual 127, 3), (59, .aload_n 0, 1), (60, .bipush 10, 2), (62, .invokevirtual 103, 3), (65, .iinc 1 1, 3), (68, .goto (-66), 3), (71, .return_, 1)]
set_option maxRecDepth 100000 in
theorem okX0_parseAndLines : ∀ q ∈ pX0_parseAndLines, decode cX0_parseAndLines q.1 = .ok q.2 := by decide +kernel
def pX0_parseDefinition : List (Nat × Instr × Nat) := [(0, .aload_n 0, 1), (1, .invokevirtual 112, 3), (4, .istore_n 2, 1), (5, .iload_n 2, 1), (6, .iconst 1, 1), (7, .iand, 1), (8, .ifCond .ne 16, 3), (11, .iload_n 2, 1), (12, .iconst 2, 1), (13, .if_icmp .lt 11, 3), (16, .iload_n 2, 1), (17, .aload_n 0, 1), (18, .getfield 93, 3), (21, .if_icmp .le 7, 3), (24, .iconst 1, 1), (25, .goto 4, 3), (28, .iconst 0, 1), (29, .istore_n 3, 1), (30, .aload_n 0, 1), (31, .iload_n 3, 1), (32, .ifCond .ne 14, 3), (35, .aload_n 0, 1), (36, .getfield 18, 3), (39, .iload_n 2, 1), (40, .iconst 1, 1), (41, .ishr, 1), (42, .iaload, 1), (43, .ifCond .eq 7, 3), (46, .iconst 1, 1), (47, .goto 4, 3), (50, .iconst 0, 1), (51, .iconst 3, 1), (52, .aload_n 0, 1), (53, .getfield 100, 3), (56, .invokevirtual 130, 3), (59, .aload_n 0, 1), (60, .getfield 66, 3), (63, .ifCond .ne 12, 3), (66, .aload_n 0, 1), (67, .getfield 18, 3), (70, .iload_n 2, 1), (71, .iconst 1, 1), (72, .ishr, 1), (73, .iload_n 1, 1), (74, .iastore, 1), (75, .return_, 1)]
set_option maxRecDepth 100000 in
theorem okX0_parseDefinition : ∀ q ∈ pX0_parseDefinition, decode cX0_parseDefinition q.1 = .ok q.2 := by decide +kernel
def pX0_parseUse : List (Nat × Instr × Nat) := [(0, .aload_n 0, 1), (1, .invokevirtual 112, 3), (4, .istore_n 1, 1), (5, .aload_n 0, 1), (6, .iload_n 1, 1), (7, .aload_n 0, 1), (8, .getfield 93, 3), (11, .if_icmp .le 7, 3), (14, .iconst 1, 1), (15, .goto 4, 3), (18, .iconst 0, 1), (19, .iconst 4, 1), (20, .aload_n 0, 1), (21, .getfield 100, 3), (24, .invokevirtual 130, 3), (27, .aload_n 0, 1), (28, .getfield 66, 3), (31, .ifCond .ne 67, 3), (34, .aload_n 0, 1), (35, .getfield 90, 3), (38, .sipush 248, 3), (41, .if_icmp .ge 57, 3), (44, .aload_n 0, 1), (45, .getfield 21, 3), (48, .aload_n 0, 1), (49, .getfield 90, 3), (52, .iload_n 1, 1), (53, .iastore, 1), (54, .aload_n 0, 1), (55, .getfield 24, 3), (58, .aload_n 0, 1), (59, .getfield 90, 3), (62, .aload_n 0, 1), (63, .getfield 100, 3), (66, .iastore, 1), (67, .aload_n 0, 1), (68, .dup, 1), (69, .getfield 90, 3), (72, .iconst 1, 1), (73, .iadd, 1), (74, .putfield 90, 3), (77, .aload_n 0, 1), (78, .aload_n 0, 1), (79, .getfield 96, 3), (82, .ifCond .ne 8, 3), (85, .iload_n 1, 1), (86, .iconst 2, 1), (87, .if_icmp .ge 7, 3), (90, .iconst 1, 1), (91, .goto 4, 3), (94, .iconst 0, 1), (95, .putfield 96, 3), (98, .return_, 1)]
set_option maxRecDepth 100000 in
theorem okX0_parseUse : ∀ q ∈ pX0_parseUse, decode cX0_parseUse q.1 = .ok q.2 := by decide +kernel
def pX0_parseNumber : List (Nat × Instr × Nat) := [(0, .aload_n 0, 1), (1, .aload_n 0, 1), (2, .getfield 30, 3), (5, .aload_n 0, 1), (6, .getfield 50, 3), (9, .invokevirtual 134, 3), (12, .ifCond .ne 7, 3), (15, .iconst 1, 1), (16, .goto 4, 3), (19, .iconst 0, 1), (20, .iconst 1, 1), (21, .aload_n 0, 1), (22, .getfield 50, 3), (25, .invokevirtual 130, 3), (28, .aload_n 0, 1), (29, .getfield 66, 3), (32, .ifCond .eq 5, 3), (35, .iconst 0, 1), (36, .ireturn, 1), (37, .aload_n 0, 1), (38, .aload_n 0, 1), (39, .getfield 50, 3), (42, .putfield 100, 3), (45, .aload_n 0, 1), (46, .getfield 30, 3), (49, .aload_n 0, 1), (50, .getfield 50, 3), (53, .invokevirtual 137, 3), (56, .bipush 48, 2), (58, .if_icmp .ne 7, 3), (61, .iconst 1, 1), (62, .goto 5, 3), (65, .bipush 9, 2), (67, .istore_n 1, 1), (68, .iconst 0, 1), (69, .istore_n 2, 1), (70, .iconst 0, 1), (71, .istore_n 3, 1), (72, .iload_n 3, 1), (73, .iload_n 1, 1), (74, .if_icmp .ge 53, 3), (77, .aload_n 0, 1), (78, .getfield 30, 3), (81, .aload_n 0, 1), (82, .getfield 50, 3), (85, .invokevirtual 134, 3), (88, .ifCond .eq 39, 3), (91, .bipush 10, 2), (93, .iload_n 2, 1), (94, .imul, 1), (95, .aload_n 0, 1), (96, .getfield 30, 3), (99, .aload_n 0, 1), (100, .getfield 50, 3), (103, .invokevirtual 137, 3), (106, .iadd, 1), (107, .bipush 48, 2), (109, .isub, 1), (110, .istore_n 2, 1), (111, .aload_n 0, 1), (112, .dup, 1), (113, .getfield 50, 3), (116, .iconst 1, 1), (117, .iadd, 1), (118, .putfield 50, 3), (121, .iinc 3 1, 3), (124, .goto (-52), 3), (127, .iload_n 2, 1), (128, .ireturn, 1)]
set_option maxRecDepth 100000 in
theorem okX0_parseNumber : ∀ q ∈ pX0_parseNumber, decode cX0_parseNumber q.1 = .ok q.2 := by decide +kernel
def pX0_expect : List (Nat × Instr × Nat) := [(0, .aload_n 0, 1), (1, .aload_n 0, 1), (2, .getfield 30, 3), (5, .aload_n 0, 1), (6, .getfield 50, 3), (9, .invokevirtual 137, 3), (12, .iload_n 1, 1), (13, .if_icmp .eq 7, 3), (16, .iconst 1, 1), (17, .goto 4, 3), (20, .iconst 0, 1), (21, .iconst 1, 1), (22, .aload_n 0, 1), (23, .getfield 50, 3), (26, .invokevirtual 130, 3), (29, .aload_n 0, 1), (30, .getfield 66, 3), (33, .ifCond .ne 13, 3), (36, .aload_n 0, 1), (37, .dup, 1), (38, .getfield 50, 3), (41, .iconst 1, 1), (42, .iadd, 1), (43, .putfield 50, 3), (46, .return_, 1)]
set_option maxRecDepth 100000 in
theorem okX0_expect : ∀ q ∈ pX0_expect, decode cX0_expect q.1 = .ok q.2 := by decide +kernel
def pX0_failIf : List (Nat × Instr × Nat) := [(0, .iload_n 1, 1), (1, .ifCond .eq 9, 3), (4, .aload_n 0, 1), (5, .iload_n 2, 1), (6, .iload_n 3, 1), (7, .invokevirtual 59, 3), (10, .return_, 1)]
set_option maxRecDepth 100000 in
theorem okX0_failIf : ∀ q ∈ pX0_failIf, decode cX0_failIf q.1 = .ok q.2 := by decide +kernel
def pX0_findNotDefined : List (Nat × Instr × Nat) := [(0, .iconst 0, 1), (1, .istore_n 1, 1), (2, .iload_n 1, 1), (3, .aload_n 0, 1), (4, .getfield 90, 3), (7, .if_icmp .ge 54, 3), (10, .aload_n 0, 1), (11, .getfield 66, 3), (14, .ifCond .ne 47, 3), (17, .aload_n 0, 1), (18, .getfield 21, 3), (21, .iload_n 1, 1), (22, .iaload, 1), (23, .iconst 1, 1), (24, .ishr, 1), (25, .istore_n 2, 1), (26, .aload_n 0, 1), (27, .iload_n 2, 1), (28, .ifCond .le 16, 3), (31, .aload_n 0, 1), (32, .getfield 18, 3), (35, .iload_n 2, 1), (36, .iaload, 1), (37, .ifCond .ne 7, 3), (40, .iconst 1, 1), (41, .goto 4, 3), (44, .iconst 0, 1), (45, .iconst 5, 1), (46, .aload_n 0, 1), (47, .getfield 24, 3), (50, .iload_n 1, 1), (51, .iaload, 1), (52, .invokevirtual 130, 3), (55, .iinc 1 1, 3), (58, .goto (-56), 3), (61, .return_, 1)]
set_option maxRecDepth 100000 in
theorem okX0_findNotDefined : ∀ q ∈ pX0_findNotDefined, decode cX0_findNotDefined q.1 = .ok q.2 := by decide +kernel
def pX1_init : List (Nat × Instr × Nat) := [(0, .aload_n 0, 1), (1, .invokespecial 3, 3), (4, .aload_n 0, 1), (5, .bipush 119, 2), (7, .newarray .int, 2), (9, .putfield 9, 3), (12, .aload_n 0, 1), (13, .bipush 119, 2), (15, .newarray .int, 2), (17, .putfield 15, 3), (20, .aload_n 0, 1), (21, .bipush 119, 2), (23, .newarray .int, 2), (25, .putfield 18, 3), (28, .aload_n 0, 1), (29, .bipush 119, 2), (31, .newarray .boolean, 2), (33, .putfield 21, 3), (36, .aload_n 0, 1), (37, .aload_n 1, 1), (38, .putfield 25, 3), (41, .return_, 1)]
set_option maxRecDepth 100000 in
theorem okX1_init : ∀ q ∈ pX1_init, decode cX1_init q.1 = .ok q.2 := by decide +kernel
def pX1_arrange : List (Nat × Instr × Nat) := [(0, .aload_n 0, 1), (1, .getfield 15, 3), (4, .iconst (-1), 1), (5, .invokestatic 29, 3), (8, .iconst 0, 1), (9, .istore_n 1, 1), (10, .iload_n 1, 1), (11, .aload_n 0, 1), (12, .getfield 25, 3), (15, .getfield 35, 3), (18, .if_icmp .ge 50, 3), (21, .aload_n 0, 1), (22, .getfield 25, 3), (25, .getfield 41, 3), (28, .ifCond .ne 40, 3), (31, .aload_n 0, 1), (32, .invokevirtual 44, 3), (35, .istore_n 2, 1), (36, .iload_n 2, 1), (37, .iconst (-1), 1), (38, .if_icmp .ne 10, 3), (41, .aload_n 0, 1), (42, .invokevirtual 48, 3), (45, .goto 17, 3), (48, .aload_n 0, 1), (49, .getfield 9, 3), (52, .iload_n 1, 1), (53, .iload_n 2, 1), (54, .iastore, 1), (55, .aload_n 0, 1), (56, .getfield 15, 3), (59, .iload_n 2, 1), (60, .iload_n 1, 1), (61, .iastore, 1), (62, .iinc 1 1, 3), (65, .goto (-55), 3), (68, .return_, 1)]
set_option maxRecDepth 100000 in
theorem okX1_arrange : ∀ q ∈ pX1_arrange, decode cX1_arrange q.1 = .ok q.2 := by decide +kernel
def pX1_fill : List (Nat × Instr × Nat) := [(0, .aload_n 0, 1), (1, .getfield 25, 3), (4, .getfield 51, 3), (7, .ifCond .eq 13, 3), (10, .aload_n 1, 1), (11, .bipush 8, 2), (13, .iconst 0, 1), (14, .iconst 0, 1), (15, .iconst 0, 1), (16, .invokevirtual 55, 3), (19, .pop, 1), (20, .iconst 0, 1), (21, .istore_n 2, 1), (22, .iload_n 2, 1), (23, .aload_n 0, 1), (24, .getfield 25, 3), (27, .getfield 35, 3), (30, .if_icmp .ge 57, 3), (33, .aload_n 0, 1), (34, .getfield 9, 3), (37, .iload_n 2, 1), (38, .iaload, 1), (39, .istore_n 3, 1), (40, .aload_n 0, 1), (41, .aload_n 0, 1), (42, .getfield 25, 3), (45, .iload_n 3, 1), (46, .iconst 0, 1), (47, .invokevirtual 61, 3), (50, .invokevirtual 65, 3), (53, .istore 4, 2), (55, .aload_n 0, 1), (56, .aload_n 0, 1), (57, .getfield 25, 3), (60, .iload_n 3, 1), (61, .iconst 1, 1), (62, .invokevirtual 61, 3), (65, .invokevirtual 65, 3), (68, .istore 5, 2), (70, .aload_n 1, 1), (71, .iconst 0, 1), (72, .iload 4, 2), (74, .iload 5, 2), (76, .iconst 0, 1), (77, .invokevirtual 55, 3), (80, .pop, 1), (81, .iinc 2 1, 3), (84, .goto (-62), 3), (87, .iconst 0, 1), (88, .istore_n 2, 1), (89, .iload_n 2, 1), (90, .aload_n 0, 1), (91, .getfield 25, 3), (94, .getfield 69, 3), (97, .if_icmp .ge 27, 3), (100, .aload_n 1, 1), (101, .aload_n 0, 1), (102, .aload_n 0, 1), (103, .getfield 25, 3), (106, .getfield 72, 3), (109, .iload_n 2, 1), (110, .iaload, 1), (111, .invokevirtual 65, 3), (114, .invokevirtual 75, 3), (117, .pop, 1), (118, .iinc 2 1, 3), (121, .goto (-32), 3), (124, .return_, 1)]
set_option maxRecDepth 100000 in
theorem okX1_fill : ∀ q ∈ pX1_fill, decode cX1_fill q.1 = .ok q.2 := by decide +kernel
def pX1_signalOf : List (Nat × Instr × Nat) := [(0, .iload_n 1, 1), (1, .iconst 1, 1), (2, .ishr, 1), (3, .istore_n 2, 1), (4, .aload_n 0, 1), (5, .getfield 25, 3), (8, .iload_n 1, 1), (9, .invokevirtual 78, 3), (12, .istore_n 3, 1), (13, .iload_n 2, 1), (14, .ifCond .ne 15, 3), (17, .aload_n 0, 1), (18, .getfield 25, 3), (21, .getfield 81, 3), (24, .istore 4, 2), (26, .goto 56, 3), (29, .iload_n 3, 1), (30, .iconst (-1), 1), (31, .if_icmp .ne 19, 3), (34, .aload_n 0, 1), (35, .getfield 25, 3), (38, .getfield 84, 3), (41, .iload_n 2, 1), (42, .iaload, 1), (43, .iconst 1, 1), (44, .isub, 1), (45, .istore 4, 2), (47, .goto 35, 3), (50, .aload_n 0, 1), (51, .getfield 25, 3), (54, .getfield 81, 3), (57, .aload_n 0, 1), (58, .getfield 25, 3), (61, .getfield 51, 3), (64, .ifCond .eq 7, 3), (67, .iconst 1, 1), (68, .goto 4, 3), (71, .iconst 0, 1), (72, .iadd, 1), (73, .aload_n 0, 1), (74, .getfield 15, 3), (77, .iload_n 3, 1), (78, .iaload, 1), (79, .iadd, 1), (80, .istore 4, 2), (82, .iload_n 1, 1), (83, .iconst 1, 1), (84, .iand, 1), (85, .ifCond .ne 8, 3), (88, .iload 4, 2), (90, .goto 7, 3), (93, .iload 4, 2), (95, .iconst (-1), 1), (96, .ixor, 1), (97, .ireturn, 1)]
set_option maxRecDepth 100000 in
theorem okX1_signalOf : ∀ q ∈ pX1_signalOf, decode cX1_signalOf q.1 = .ok q.2 := by decide +kernel
def pX1_firstReady : List (Nat × Instr × Nat) := [(0, .iconst 0, 1), (1, .istore_n 1, 1), (2, .iload_n 1, 1), (3, .aload_n 0, 1), (4, .getfield 25, 3), (7, .getfield 35, 3), (10, .if_icmp .ge 53, 3), (13, .aload_n 0, 1), (14, .getfield 15, 3), (17, .iload_n 1, 1), (18, .iaload, 1), (19, .iconst (-1), 1), (20, .if_icmp .ne 37, 3), (23, .aload_n 0, 1), (24, .aload_n 0, 1), (25, .getfield 25, 3), (28, .iload_n 1, 1), (29, .iconst 0, 1), (30, .invokevirtual 61, 3), (33, .invokevirtual 87, 3), (36, .ifCond .eq 21, 3), (39, .aload_n 0, 1), (40, .aload_n 0, 1), (41, .getfield 25, 3), (44, .iload_n 1, 1), (45, .iconst 1, 1), (46, .invokevirtual 61, 3), (49, .invokevirtual 87, 3), (52, .ifCond .eq 5, 3), (55, .iload_n 1, 1), (56, .ireturn, 1), (57, .iinc 1 1, 3), (60, .goto (-58), 3), (63, .iconst (-1), 1), (64, .ireturn, 1)]
set_option maxRecDepth 100000 in
theorem okX1_firstReady : ∀ q ∈ pX1_firstReady, decode cX1_firstReady q.1 = .ok q.2 := by decide +kernel
def pX1_isThere : List (Nat × Instr × Nat) := [(0, .aload_n 0, 1), (1, .getfield 25, 3), (4, .iload_n 1, 1), (5, .invokevirtual 78, 3), (8, .istore_n 2, 1), (9, .iload_n 2, 1), (10, .iconst (-1), 1), (11, .if_icmp .eq 13, 3), (14, .aload_n 0, 1), (15, .getfield 15, 3), (18, .iload_n 2, 1), (19, .iaload, 1), (20, .iconst (-1), 1), (21, .if_icmp .eq 7, 3), (24, .iconst 1, 1), (25, .goto 4, 3), (28, .iconst 0, 1), (29, .ireturn, 1)]
set_option maxRecDepth 100000 in
theorem okX1_isThere : ∀ q ∈ pX1_isThere, decode cX1_isThere q.1 = .ok q.2 := by decide +kernel
def pX1_failAtFirstLoop : List (Nat × Instr × Nat) := [(0, .iconst 0, 1), (1, .istore_n 1, 1), (2, .iload_n 1, 1), (3, .aload_n 0, 1), (4, .getfield 25, 3), (7, .getfield 35, 3), (10, .if_icmp .ge 45, 3), (13, .aload_n 0, 1), (14, .getfield 25, 3), (17, .getfield 41, 3), (20, .ifCond .ne 35, 3), (23, .aload_n 0, 1), (24, .iload_n 1, 1), (25, .invokevirtual 91, 3), (28, .ifCond .eq 21, 3), (31, .aload_n 0, 1), (32, .getfield 25, 3), (35, .bipush 6, 2), (37, .aload_n 0, 1), (38, .getfield 25, 3), (41, .getfield 94, 3), (44, .iload_n 1, 1), (45, .iaload, 1), (46, .invokevirtual 97, 3), (49, .iinc 1 1, 3), (52, .goto (-50), 3), (55, .return_, 1)]
set_option maxRecDepth 100000 in
theorem okX1_failAtFirstLoop : ∀ q ∈ pX1_failAtFirstLoop, decode cX1_failAtFirstLoop q.1 = .ok q.2 := by decide +kernel
def pX1_needsItself : List (Nat × Instr × Nat) := [(0, .iconst 0, 1), (1, .istore_n 2, 1), (2, .iload_n 2, 1), (3, .bipush 119, 2), (5, .if_icmp .ge 16, 3), (8, .aload_n 0, 1), (9, .getfield 21, 3), (12, .iload_n 2, 1), (13, .iconst 0, 1), (14, .bastore, 1), (15, .iinc 2 1, 3), (18, .goto (-16), 3), (21, .aload_n 0, 1), (22, .iconst 0, 1), (23, .putfield 101, 3), (26, .aload_n 0, 1), (27, .iload_n 1, 1), (28, .invokevirtual 104, 3), (31, .iconst 0, 1), (32, .istore_n 2, 1), (33, .iload_n 2, 1), (34, .aload_n 0, 1), (35, .getfield 101, 3), (38, .if_icmp .ge 25, 3), (41, .iload_n 2, 1), (42, .bipush 119, 2), (44, .if_icmp .ge 19, 3), (47, .aload_n 0, 1), (48, .aload_n 0, 1), (49, .getfield 18, 3), (52, .iload_n 2, 1), (53, .iaload, 1), (54, .invokevirtual 104, 3), (57, .iinc 2 1, 3), (60, .goto (-27), 3), (63, .aload_n 0, 1), (64, .getfield 21, 3), (67, .iload_n 1, 1), (68, .baload, 1), (69, .ireturn, 1)]
set_option maxRecDepth 100000 in
theorem okX1_needsItself : ∀ q ∈ pX1_needsItself, decode cX1_needsItself q.1 = .ok q.2 := by decide +kernel
def pX1_reachSides : List (Nat × Instr × Nat) := [(0, .aload_n 0, 1), (1, .aload_n 0, 1), (2, .getfield 25, 3), (5, .aload_n 0, 1), (6, .getfield 25, 3), (9, .iload_n 1, 1), (10, .iconst 0, 1), (11, .invokevirtual 61, 3), (14, .invokevirtual 78, 3), (17, .invokevirtual 108, 3), (20, .aload_n 0, 1), (21, .aload_n 0, 1), (22, .getfield 25, 3), (25, .aload_n 0, 1), (26, .getfield 25, 3), (29, .iload_n 1, 1), (30, .iconst 1, 1), (31, .invokevirtual 61, 3), (34, .invokevirtual 78, 3), (37, .invokevirtual 108, 3), (40, .return_, 1)]
set_option maxRecDepth 100000 in
theorem okX1_reachSides : ∀ q ∈ pX1_reachSides, decode cX1_reachSides q.1 = .ok q.2 := by decide +kernel
def pX1_reach : List (Nat × Instr × Nat) := [(0, .iload_n 1, 1), (1, .iconst (-1), 1), (2, .if_icmp .eq 48, 3), (5, .aload_n 0, 1), (6, .getfield 21, 3), (9, .iload_n 1, 1), (10, .baload, 1), (11, .ifCond .ne 39, 3), (14, .aload_n 0, 1), (15, .getfield 101, 3), (18, .bipush 119, 2), (20, .if_icmp .ge 30, 3), (23, .aload_n 0, 1), (24, .getfield 21, 3), (27, .iload_n 1, 1), (28, .iconst 1, 1), (29, .bastore, 1), (30, .aload_n 0, 1), (31, .getfield 18, 3), (34, .aload_n 0, 1), (35, .getfield 101, 3), (38, .iload_n 1, 1), (39, .iastore, 1), (40, .aload_n 0, 1), (41, .dup, 1), (42, .getfield 101, 3), (45, .iconst 1, 1), (46, .iadd, 1), (47, .putfield 101, 3), (50, .return_, 1)]
set_option maxRecDepth 100000 in
theorem okX1_reach : ∀ q ∈ pX1_reach, decode cX1_reach q.1 = .ok q.2 := by decide +kernel
def pX2_init : List (Nat × Instr × Nat) := [(0, .aload_n 0, 1), (1, .invokespecial 3, 3), (4, .aload_n 0, 1), (5, .bipush 120, 2), (7, .newarray .int, 2), (9, .putfield 9, 3), (12, .aload_n 0, 1), (13, .bipush 120, 2), (15, .newarray .int, 2), (17, .putfield 15, 3), (20, .aload_n 0, 1), (21, .bipush 120, 2), (23, .newarray .int, 2), (25, .putfield 18, 3), (28, .aload_n 0, 1), (29, .bipush 120, 2), (31, .newarray .int, 2), (33, .putfield 21, 3), (36, .aload_n 0, 1), (37, .bipush 10, 2), (39, .newarray .int, 2), (41, .putfield 24, 3), (44, .aload_n 0, 1), (45, .sipush 132, 3), (48, .newarray .int, 2), (50, .putfield 27, 3), (53, .aload_n 0, 1), (54, .iload_n 1, 1), (55, .putfield 30, 3), (58, .return_, 1)]
set_option maxRecDepth 100000 in
theorem okX2_init : ∀ q ∈ pX2_init, decode cX2_init q.1 = .ok q.2 := by decide +kernel
def pX2_reset : List (Nat × Instr × Nat) := [(0, .aload_n 0, 1), (1, .iload_n 1, 1), (2, .putfield 30, 3), (5, .aload_n 0, 1), (6, .iconst 0, 1), (7, .putfield 34, 3), (10, .aload_n 0, 1), (11, .iconst 0, 1), (12, .putfield 37, 3), (15, .return_, 1)]
set_option maxRecDepth 100000 in
theorem okX2_reset : ∀ q ∈ pX2_reset, decode cX2_reset q.1 = .ok q.2 := by decide +kernel
def pX2_hasSignal : List (Nat × Instr × Nat) := [(0, .iload_n 1, 1), (1, .invokestatic 40, 3), (4, .aload_n 0, 1), (5, .getfield 30, 3), (8, .aload_n 0, 1), (9, .getfield 34, 3), (12, .iadd, 1), (13, .if_icmp .ge 7, 3), (16, .iconst 1, 1), (17, .goto 4, 3), (20, .iconst 0, 1), (21, .ireturn, 1)]
set_option maxRecDepth 100000 in
theorem okX2_hasSignal : ∀ q ∈ pX2_hasSignal, decode cX2_hasSignal q.1 = .ok q.2 := by decide +kernel
def pX2_canTake : List (Nat × Instr × Nat) := [(0, .iload_n 1, 1), (1, .ifCond .lt 18, 3), (4, .iload_n 1, 1), (5, .bipush 8, 2), (7, .if_icmp .gt 12, 3), (10, .aload_n 0, 1), (11, .getfield 34, 3), (14, .bipush 120, 2), (16, .if_icmp .lt 5, 3), (19, .iconst 0, 1), (20, .ireturn, 1), (21, .iload_n 1, 1), (22, .bipush 8, 2), (24, .if_icmp .ne 5, 3), (27, .iconst 1, 1), (28, .ireturn, 1), (29, .iload_n 1, 1), (30, .bipush 6, 2), (32, .if_icmp .eq 9, 3), (35, .iload_n 1, 1), (36, .bipush 7, 2), (38, .if_icmp .ne 7, 3), (41, .iconst 1, 1), (42, .goto 4, 3), (45, .iconst 0, 1), (46, .istore 5, 2), (48, .aload_n 0, 1), (49, .iload_n 2, 1), (50, .invokevirtual 44, 3), (53, .ifCond .eq 29, 3), (56, .aload_n 0, 1), (57, .iload_n 3, 1), (58, .invokevirtual 44, 3), (61, .ifCond .eq 21, 3), (64, .iload 5, 2), (66, .ifCond .eq 12, 3), (69, .aload_n 0, 1), (70, .iload 4, 2), (72, .invokevirtual 44, 3), (75, .ifCond .eq 7, 3), (78, .iconst 1, 1), (79, .goto 4, 3), (82, .iconst 0, 1), (83, .ireturn, 1)]
set_option maxRecDepth 100000 in
theorem okX2_canTake : ∀ q ∈ pX2_canTake, decode cX2_canTake q.1 = .ok q.2 := by decide +kernel
def pX2_addGate : List (Nat × Instr × Nat) := [(0, .aload_n 0, 1), (1, .getfield 34, 3), (4, .bipush 120, 2), (6, .if_icmp .lt 5, 3), (9, .iconst (-1), 1), (10, .ireturn, 1), (11, .aload_n 0, 1), (12, .getfield 9, 3), (15, .aload_n 0, 1), (16, .getfield 34, 3), (19, .iload_n 1, 1), (20, .iastore, 1), (21, .aload_n 0, 1), (22, .getfield 15, 3), (25, .aload_n 0, 1), (26, .getfield 34, 3), (29, .iload_n 2, 1), (30, .iastore, 1), (31, .aload_n 0, 1), (32, .getfield 18, 3), (35, .aload_n 0, 1), (36, .getfield 34, 3), (39, .iload_n 3, 1), (40, .iastore, 1), (41, .aload_n 0, 1), (42, .getfield 21, 3), (45, .aload_n 0, 1), (46, .getfield 34, 3), (49, .iload 4, 2), (51, .iastore, 1), (52, .aload_n 0, 1), (53, .dup, 1), (54, .getfield 34, 3), (57, .iconst 1, 1), (58, .iadd, 1), (59, .putfield 34, 3), (62, .aload_n 0, 1), (63, .getfield 30, 3), (66, .aload_n 0, 1), (67, .getfield 34, 3), (70, .iadd, 1), (71, .iconst 1, 1), (72, .isub, 1), (73, .ireturn, 1)]
set_option maxRecDepth 100000 in
theorem okX2_addGate : ∀ q ∈ pX2_addGate, decode cX2_addGate q.1 = .ok q.2 := by decide +kernel
def pX2_addOut : List (Nat × Instr × Nat) := [(0, .aload_n 0, 1), (1, .getfield 37, 3), (4, .bipush 10, 2), (6, .if_icmp .lt 5, 3), (9, .iconst (-1), 1), (10, .ireturn, 1), (11, .aload_n 0, 1), (12, .getfield 24, 3), (15, .aload_n 0, 1), (16, .getfield 37, 3), (19, .iload_n 1, 1), (20, .iastore, 1), (21, .aload_n 0, 1), (22, .dup, 1), (23, .getfield 37, 3), (26, .iconst 1, 1), (27, .iadd, 1), (28, .putfield 37, 3), (31, .aload_n 0, 1), (32, .getfield 37, 3), (35, .iconst 1, 1), (36, .isub, 1), (37, .ireturn, 1)]
set_option maxRecDepth 100000 in
theorem okX2_addOut : ∀ q ∈ pX2_addOut, decode cX2_addOut q.1 = .ok q.2 := by decide +kernel
def pX2_literalOf : List (Nat × Instr × Nat) := [(0, .aload_n 0, 1), (1, .iload_n 1, 1), (2, .invokevirtual 44, 3), (5, .ifCond .ne 5, 3), (8, .iconst 0, 1), (9, .ireturn, 1), (10, .iload_n 1, 1), (11, .ifCond .ge 17, 3), (14, .aload_n 0, 1), (15, .getfield 27, 3), (18, .iload_n 1, 1), (19, .invokestatic 40, 3), (22, .iaload, 1), (23, .iconst 1, 1), (24, .ixor, 1), (25, .goto 9, 3), (28, .aload_n 0, 1), (29, .getfield 27, 3), (32, .iload_n 1, 1), (33, .iaload, 1), (34, .ireturn, 1)]
set_option maxRecDepth 100000 in
theorem okX2_literalOf : ∀ q ∈ pX2_literalOf, decode cX2_literalOf q.1 = .ok q.2 := by decide +kernel
def pX2_plain : List (Nat × Instr × Nat) := [(0, .iload_n 0, 1), (1, .ifCond .ge 9, 3), (4, .iload_n 0, 1), (5, .iconst (-1), 1), (6, .ixor, 1), (7, .goto 4, 3), (10, .iload_n 0, 1), (11, .ireturn, 1)]
set_option maxRecDepth 100000 in
theorem okX2_plain : ∀ q ∈ pX2_plain, decode cX2_plain q.1 = .ok q.2 := by decide +kernel
def pJ13_bitCount_95d88 : List (Nat × Instr × Nat) := [(0, .lload_n 0, 1), (1, .lload_n 0, 1), (2, .iconst 1, 1), (3, .lushr, 1), (4, .ldc2_w 314, 3), (7, .land, 1), (8, .lsub, 1), (9, .lstore_n 0, 1), (10, .lload_n 0, 1), (11, .ldc2_w 316, 3), (14, .land, 1), (15, .lload_n 0, 1), (16, .iconst 2, 1), (17, .lushr, 1), (18, .ldc2_w 316, 3), (21, .land, 1), (22, .ladd, 1), (23, .lstore_n 0, 1), (24, .lload_n 0, 1), (25, .lload_n 0, 1), (26, .iconst 4, 1), (27, .lushr, 1), (28, .ladd, 1), (29, .ldc2_w 318, 3), (32, .land, 1), (33, .lstore_n 0, 1), (34, .lload_n 0, 1), (35, .lload_n 0, 1), (36, .bipush 8, 2), (38, .lushr, 1), (39, .ladd, 1), (40, .lstore_n 0, 1), (41, .lload_n 0, 1), (42, .lload_n 0, 1), (43, .bipush 16, 2), (45, .lushr, 1), (46, .ladd, 1), (47, .lstore_n 0, 1), (48, .lload_n 0, 1), (49, .lload_n 0, 1), (50, .bipush 32, 2), (52, .lushr, 1), (53, .ladd, 1), (54, .lstore_n 0, 1), (55, .lload_n 0, 1), (56, .l2i, 1), (57, .bipush 127, 2), (59, .iand, 1), (60, .ireturn, 1)]
set_option maxRecDepth 100000 in
theorem okJ13_bitCount_95d88 : ∀ q ∈ pJ13_bitCount_95d88, decode cJ13_bitCount_95d88 q.1 = .ok q.2 := by decide +kernel
def pJ7_fill_d0a16 : List (Nat × Instr × Nat) := [(0, .iconst 0, 1), (1, .istore_n 3, 1), (2, .aload_n 0, 1), (3, .arraylength, 1), (4, .istore 4, 2), (6, .iload_n 3, 1), (7, .iload 4, 2), (9, .if_icmp .ge 13, 3), (12, .aload_n 0, 1), (13, .iload_n 3, 1), (14, .lload_n 1, 1), (15, .lastore, 1), (16, .iinc 3 1, 3), (19, .goto (-13), 3), (22, .return_, 1)]
set_option maxRecDepth 100000 in
theorem okJ7_fill_d0a16 : ∀ q ∈ pJ7_fill_d0a16, decode cJ7_fill_d0a16 q.1 = .ok q.2 := by decide +kernel
def pJ7_fill_53178 : List (Nat × Instr × Nat) := [(0, .iconst 0, 1), (1, .istore_n 2, 1), (2, .aload_n 0, 1), (3, .arraylength, 1), (4, .istore_n 3, 1), (5, .iload_n 2, 1), (6, .iload_n 3, 1), (7, .if_icmp .ge 13, 3), (10, .aload_n 0, 1), (11, .iload_n 2, 1), (12, .iload_n 1, 1), (13, .iastore, 1), (14, .iinc 2 1, 3), (17, .goto (-12), 3), (20, .return_, 1)]
set_option maxRecDepth 100000 in
theorem okJ7_fill_53178 : ∀ q ∈ pJ7_fill_53178, decode cJ7_fill_53178 q.1 = .ok q.2 := by decide +kernel
end
section
def pX3_init : List (Nat × Instr × Nat) := [(0, .aload_n 0, 1), (1, .invokespecial 3, 3), (4, .aload_n 0, 1), (5, .sipush 973, 3), (8, .newarray .int, 2), (10, .putfield 9, 3), (13, .aload_n 0, 1), (14, .sipush 973, 3), (17, .newarray .int, 2), (19, .putfield 15, 3), (22, .aload_n 0, 1), (23, .sipush 1946, 3), (26, .newarray .int, 2), (28, .putfield 18, 3), (31, .aload_n 0, 1), (32, .sipush 973, 3), (35, .newarray .int, 2), (37, .putfield 21, 3), (40, .aload_n 0, 1), (41, .sipush 973, 3), (44, .newarray .long, 2), (46, .putfield 24, 3), (49, .aload_n 0, 1), (50, .iconst 1, 1), (51, .putfield 28, 3), (54, .aload_n 0, 1), (55, .aload_n 1, 1), (56, .putfield 32, 3), (59, .aload_n 0, 1), (60, .aload_n 2, 1), (61, .putfield 36, 3), (64, .return_, 1)]
set_option maxRecDepth 100000 in
theorem okX3_init : ∀ q ∈ pX3_init, decode cX3_init q.1 = .ok q.2 := by decide +kernel
def pX3_bringUp : List (Nat × Instr × Nat) := [(0, .aload_n 0, 1), (1, .getfield 39, 3), (4, .aload_n 0, 1), (5, .getfield 32, 3), (8, .getfield 43, 3), (11, .if_icmp .ge 14, 3), (14, .aload_n 0, 1), (15, .getfield 48, 3), (18, .ifCond .le 7, 3), (21, .iconst 1, 1), (22, .goto 4, 3), (25, .iconst 0, 1), (26, .istore_n 1, 1), (27, .aload_n 0, 1), (28, .getfield 28, 3), (31, .ifCond .ne 7, 3), (34, .iload_n 1, 1), (35, .ifCond .eq 14, 3), (38, .aload_n 0, 1), (39, .aload_n 0, 1), (40, .getfield 32, 3), (43, .getfield 51, 3), (46, .invokevirtual 54, 3), (49, .aload_n 0, 1), (50, .getfield 39, 3), (53, .aload_n 0, 1), (54, .getfield 32, 3), (57, .getfield 43, 3), (60, .if_icmp .ge 28, 3), (63, .aload_n 0, 1), (64, .aload_n 0, 1), (65, .getfield 32, 3), (68, .aload_n 0, 1), (69, .getfield 39, 3), (72, .invokevirtual 58, 3), (75, .aload_n 0, 1), (76, .dup, 1), (77, .getfield 39, 3), (80, .iconst 1, 1), (81, .iadd, 1), (82, .putfield 39, 3), (85, .goto (-36), 3), (88, .aload_n 0, 1), (89, .getfield 48, 3), (92, .aload_n 0, 1), (93, .getfield 36, 3), (96, .getfield 43, 3), (99, .if_icmp .ge 28, 3), (102, .aload_n 0, 1), (103, .aload_n 0, 1), (104, .getfield 36, 3), (107, .aload_n 0, 1), (108, .getfield 48, 3), (111, .invokevirtual 58, 3), (114, .aload_n 0, 1), (115, .dup, 1), (116, .getfield 48, 3), (119, .iconst 1, 1), (120, .iadd, 1), (121, .putfield 48, 3), (124, .goto (-36), 3), (127, .return_, 1)]
set_option maxRecDepth 100000 in
theorem okX3_bringUp : ∀ q ∈ pX3_bringUp, decode cX3_bringUp q.1 = .ok q.2 := by decide +kernel
def pX3_isAnd : List (Nat × Instr × Nat) := [(0, .iload_n 1, 1), (1, .aload_n 0, 1), (2, .getfield 62, 3), (5, .if_icmp .le 15, 3), (8, .iload_n 1, 1), (9, .aload_n 0, 1), (10, .getfield 63, 3), (13, .if_icmp .ge 7, 3), (16, .iconst 1, 1), (17, .goto 4, 3), (20, .iconst 0, 1), (21, .ireturn, 1)]
set_option maxRecDepth 100000 in
theorem okX3_isAnd : ∀ q ∈ pX3_isAnd, decode cX3_isAnd q.1 = .ok q.2 := by decide +kernel
def pX3_bitOf : List (Nat × Instr × Nat) := [(0, .aload_n 0, 1), (1, .iload_n 1, 1), (2, .iload_n 2, 1), (3, .bipush 6, 2), (5, .ishr, 1), (6, .invokevirtual 66, 3), (9, .iload_n 2, 1), (10, .bipush 63, 2), (12, .iand, 1), (13, .lushr, 1), (14, .lconst 1, 1), (15, .land, 1), (16, .l2i, 1), (17, .ireturn, 1)]
set_option maxRecDepth 100000 in
theorem okX3_bitOf : ∀ q ∈ pX3_bitOf, decode cX3_bitOf q.1 = .ok q.2 := by decide +kernel
def pX3_firstWordApart : List (Nat × Instr × Nat) := [(0, .iconst 0, 1), (1, .istore_n 3, 1), (2, .iload_n 3, 1), (3, .aload_n 0, 1), (4, .getfield 70, 3), (7, .if_icmp .ge 48, 3), (10, .aload_n 0, 1), (11, .iload_n 1, 1), (12, .iload_n 3, 1), (13, .invokevirtual 66, 3), (16, .aload_n 0, 1), (17, .iload_n 2, 1), (18, .iload_n 3, 1), (19, .invokevirtual 66, 3), (22, .lxor, 1), (23, .lstore 4, 2), (25, .lload 4, 2), (27, .lconst 0, 1), (28, .lcmp, 1), (29, .ifCond .eq 20, 3), (32, .iload_n 3, 1), (33, .bipush 64, 2), (35, .imul, 1), (36, .lload 4, 2), (38, .lload 4, 2), (40, .lneg, 1), (41, .land, 1), (42, .lconst 1, 1), (43, .lsub, 1), (44, .invokestatic 73, 3), (47, .iadd, 1), (48, .ireturn, 1), (49, .iinc 3 1, 3), (52, .goto (-50), 3), (55, .iconst (-1), 1), (56, .ireturn, 1)]
set_option maxRecDepth 100000 in
theorem okX3_firstWordApart : ∀ q ∈ pX3_firstWordApart, decode cX3_firstWordApart q.1 = .ok q.2 := by decide +kernel
def pX3_likeness : List (Nat × Instr × Nat) := [(0, .iconst 1, 1), (1, .istore 4, 2), (3, .iconst 1, 1), (4, .istore 5, 2), (6, .iconst 0, 1), (7, .istore 6, 2), (9, .iload 6, 2), (11, .aload_n 3, 1), (12, .getfield 79, 3), (15, .if_icmp .ge 112, 3), (18, .aload_n 3, 1), (19, .getfield 84, 3), (22, .iload 6, 2), (24, .iaload, 1), (25, .istore 7, 2), (27, .aload_n 3, 1), (28, .getfield 87, 3), (31, .iload 7, 2), (33, .laload, 1), (34, .lstore 8, 2), (36, .aload_n 0, 1), (37, .getfield 24, 3), (40, .iload_n 1, 1), (41, .aload_n 0, 1), (42, .getfield 70, 3), (45, .imul, 1), (46, .iload 7, 2), (48, .iadd, 1), (49, .laload, 1), (50, .aload_n 0, 1), (51, .getfield 24, 3), (54, .iload_n 2, 1), (55, .aload_n 0, 1), (56, .getfield 70, 3), (59, .imul, 1), (60, .iload 7, 2), (62, .iadd, 1), (63, .laload, 1), (64, .lxor, 1), (65, .lload 8, 2), (67, .land, 1), (68, .lstore 10, 2), (70, .iload 4, 2), (72, .ifCond .eq 14, 3), (75, .lload 10, 2), (77, .lconst 0, 1), (78, .lcmp, 1), (79, .ifCond .ne 7, 3), (82, .iconst 1, 1), (83, .goto 4, 3), (86, .iconst 0, 1), (87, .istore 4, 2), (89, .iload 5, 2), (91, .ifCond .eq 15, 3), (94, .lload 10, 2), (96, .lload 8, 2), (98, .lcmp, 1), (99, .ifCond .ne 7, 3), (102, .iconst 1, 1), (103, .goto 4, 3), (106, .iconst 0, 1), (107, .istore 5, 2), (109, .iload 4, 2), (111, .ifCond .ne 10, 3), (114, .iload 5, 2), (116, .ifCond .ne 5, 3), (119, .iconst 0, 1), (120, .ireturn, 1), (121, .iinc 6 1, 3), (124, .goto (-115), 3), (127, .iload 4, 2), (129, .ifCond .eq 7, 3), (132, .iconst 1, 1), (133, .goto 4, 3), (136, .iconst 2, 1), (137, .ireturn, 1)]
set_option maxRecDepth 100000 in
theorem okX3_likeness : ∀ q ∈ pX3_likeness, decode cX3_likeness q.1 = .ok q.2 := by decide +kernel
def pX3_restart : List (Nat × Instr × Nat) := [(0, .aload_n 0, 1), (1, .iload_n 1, 1), (2, .putfield 62, 3), (5, .aload_n 0, 1), (6, .iload_n 1, 1), (7, .bipush 6, 2), (9, .if_icmp .gt 7, 3), (12, .iconst 1, 1), (13, .goto 9, 3), (16, .iconst 1, 1), (17, .iload_n 1, 1), (18, .bipush 6, 2), (20, .isub, 1), (21, .ishl, 1), (22, .putfield 70, 3), (25, .aload_n 0, 1), (26, .getfield 24, 3), (29, .arraylength, 1), (30, .sipush 973, 3), (33, .aload_n 0, 1), (34, .getfield 70, 3), (37, .imul, 1), (38, .if_icmp .ge 17, 3), (41, .aload_n 0, 1), (42, .sipush 973, 3), (45, .aload_n 0, 1), (46, .getfield 70, 3), (49, .imul, 1), (50, .newarray .long, 2), (52, .putfield 24, 3), (55, .aload_n 0, 1), (56, .iconst 0, 1), (57, .putfield 63, 3), (60, .aload_n 0, 1), (61, .iconst 0, 1), (62, .putfield 39, 3), (65, .aload_n 0, 1), (66, .iconst 0, 1), (67, .putfield 48, 3), (70, .aload_n 0, 1), (71, .invokevirtual 90, 3), (74, .iconst 0, 1), (75, .istore_n 2, 1), (76, .iload_n 2, 1), (77, .iload_n 1, 1), (78, .if_icmp .ge 42, 3), (81, .aload_n 0, 1), (82, .iload_n 2, 1), (83, .invokevirtual 93, 3), (86, .aload_n 0, 1), (87, .getfield 32, 3), (90, .getfield 96, 3), (93, .iload_n 2, 1), (94, .iconst 2, 1), (95, .iload_n 2, 1), (96, .iconst 1, 1), (97, .iadd, 1), (98, .imul, 1), (99, .iastore, 1), (100, .aload_n 0, 1), (101, .getfield 36, 3), (104, .getfield 96, 3), (107, .iload_n 2, 1), (108, .iconst 2, 1), (109, .iload_n 2, 1), (110, .iconst 1, 1), (111, .iadd, 1), (112, .imul, 1), (113, .iastore, 1), (114, .iinc 2 1, 3), (117, .goto (-41), 3), (120, .aload_n 0, 1), (121, .iconst 0, 1), (122, .putfield 28, 3), (125, .return_, 1)]
set_option maxRecDepth 100000 in
theorem okX3_restart : ∀ q ∈ pX3_restart, decode cX3_restart q.1 = .ok q.2 := by decide +kernel
def pX3_makeFalse : List (Nat × Instr × Nat) := [(0, .iconst 0, 1), (1, .istore_n 1, 1), (2, .iload_n 1, 1), (3, .aload_n 0, 1), (4, .getfield 70, 3), (7, .if_icmp .ge 16, 3), (10, .aload_n 0, 1), (11, .getfield 24, 3), (14, .iload_n 1, 1), (15, .lconst 0, 1), (16, .lastore, 1), (17, .iinc 1 1, 3), (20, .goto (-18), 3), (23, .aload_n 0, 1), (24, .iconst 0, 1), (25, .iconst 0, 1), (26, .invokevirtual 99, 3), (29, .return_, 1)]
set_option maxRecDepth 100000 in
theorem okX3_makeFalse : ∀ q ∈ pX3_makeFalse, decode cX3_makeFalse q.1 = .ok q.2 := by decide +kernel
def pX3_makeInput : List (Nat × Instr × Nat) := [(0, .aload_n 0, 1), (1, .getfield 63, 3), (4, .aload_n 0, 1), (5, .getfield 70, 3), (8, .imul, 1), (9, .istore_n 2, 1), (10, .iconst 0, 1), (11, .istore_n 3, 1), (12, .iload_n 3, 1), (13, .aload_n 0, 1), (14, .getfield 70, 3), (17, .if_icmp .ge 57, 3), (20, .iload_n 1, 1), (21, .bipush 6, 2), (23, .if_icmp .ge 19, 3), (26, .aload_n 0, 1), (27, .getfield 24, 3), (30, .iload_n 2, 1), (31, .iload_n 3, 1), (32, .iadd, 1), (33, .getstatic 103, 3), (36, .iload_n 1, 1), (37, .laload, 1), (38, .lastore, 1), (39, .goto 29, 3), (42, .aload_n 0, 1), (43, .getfield 24, 3), (46, .iload_n 2, 1), (47, .iload_n 3, 1), (48, .iadd, 1), (49, .iload_n 3, 1), (50, .iload_n 1, 1), (51, .bipush 6, 2), (53, .isub, 1), (54, .ishr, 1), (55, .iconst 1, 1), (56, .iand, 1), (57, .ifCond .eq 9, 3), (60, .ldc2_w 106, 3), (63, .goto 4, 3), (66, .lconst 0, 1), (67, .lastore, 1), (68, .iinc 3 1, 3), (71, .goto (-59), 3), (74, .aload_n 0, 1), (75, .iconst 0, 1), (76, .iconst 0, 1), (77, .invokevirtual 99, 3), (80, .return_, 1)]
set_option maxRecDepth 100000 in
theorem okX3_makeInput : ∀ q ∈ pX3_makeInput, decode cX3_makeInput q.1 = .ok q.2 := by decide +kernel
def pX3_makeGate : List (Nat × Instr × Nat) := [(0, .aload_n 1, 1), (1, .aload_n 1, 1), (2, .getfield 108, 3), (5, .iload_n 2, 1), (6, .iaload, 1), (7, .invokevirtual 111, 3), (10, .istore_n 3, 1), (11, .aload_n 1, 1), (12, .aload_n 1, 1), (13, .getfield 115, 3), (16, .iload_n 2, 1), (17, .iaload, 1), (18, .invokevirtual 111, 3), (21, .istore 4, 2), (23, .aload_n 1, 1), (24, .aload_n 1, 1), (25, .getfield 118, 3), (28, .iload_n 2, 1), (29, .iaload, 1), (30, .invokevirtual 111, 3), (33, .istore 5, 2), (35, .aload_n 1, 1), (36, .getfield 96, 3), (39, .aload_n 0, 1), (40, .getfield 62, 3), (43, .iload_n 2, 1), (44, .iadd, 1), (45, .aload_n 0, 1), (46, .aload_n 1, 1), (47, .getfield 121, 3), (50, .iload_n 2, 1), (51, .iaload, 1), (52, .iload_n 3, 1), (53, .iload 4, 2), (55, .iload 5, 2), (57, .invokevirtual 124, 3), (60, .iastore, 1), (61, .return_, 1)]
set_option maxRecDepth 100000 in
theorem okX3_makeGate : ∀ q ∈ pX3_makeGate, decode cX3_makeGate q.1 = .ok q.2 := by decide +kernel
def pX3_makeKind : List (Nat × Instr × Nat) := [(0, .iload_n 1, 1), (1, .tableswitch 127 0 7 #[47, 54, 67, 77, 86, 97, 109, 118], 47), (48, .aload_n 0, 1), (49, .iload_n 2, 1), (50, .iload_n 3, 1), (51, .invokevirtual 128, 3), (54, .ireturn, 1), (55, .aload_n 0, 1), (56, .iload_n 2, 1), (57, .iconst 1, 1), (58, .ixor, 1), (59, .iload_n 3, 1), (60, .iconst 1, 1), (61, .ixor, 1), (62, .invokevirtual 128, 3), (65, .iconst 1, 1), (66, .ixor, 1), (67, .ireturn, 1), (68, .aload_n 0, 1), (69, .iload_n 2, 1), (70, .iload_n 3, 1), (71, .iconst 1, 1), (72, .ixor, 1), (73, .iload_n 3, 1), (74, .invokevirtual 132, 3), (77, .ireturn, 1), (78, .aload_n 0, 1), (79, .iload_n 2, 1), (80, .iload_n 3, 1), (81, .invokevirtual 128, 3), (84, .iconst 1, 1), (85, .ixor, 1), (86, .ireturn, 1), (87, .aload_n 0, 1), (88, .iload_n 2, 1), (89, .iconst 1, 1), (90, .ixor, 1), (91, .iload_n 3, 1), (92, .iconst 1, 1), (93, .ixor, 1), (94, .invokevirtual 128, 3), (97, .ireturn, 1), (98, .aload_n 0, 1), (99, .iload_n 2, 1), (100, .iload_n 3, 1), (101, .iconst 1, 1), (102, .ixor, 1), (103, .iload_n 3, 1), (104, .invokevirtual 132, 3), (107, .iconst 1, 1), (108, .ixor, 1), (109, .ireturn, 1), (110, .aload_n 0, 1), (111, .iload_n 2, 1), (112, .iload_n 3, 1), (113, .iload 4, 2), (115, .invokevirtual 132, 3), (118, .ireturn, 1), (119, .aload_n 0, 1), (120, .iload_n 2, 1), (121, .iload_n 3, 1), (122, .iload 4, 2), (124, .invokevirtual 136, 3), (127, .ireturn, 1), (128, .iconst 0, 1), (129, .ireturn, 1)]
set_option maxRecDepth 100000 in
theorem okX3_makeKind : ∀ q ∈ pX3_makeKind, decode cX3_makeKind q.1 = .ok q.2 := by decide +kernel
def pX3_makeChoice : List (Nat × Instr × Nat) := [(0, .aload_n 0, 1), (1, .iload_n 1, 1), (2, .iload_n 2, 1), (3, .invokevirtual 128, 3), (6, .istore 4, 2), (8, .aload_n 0, 1), (9, .iload_n 1, 1), (10, .iconst 1, 1), (11, .ixor, 1), (12, .iload_n 3, 1), (13, .invokevirtual 128, 3), (16, .istore 5, 2), (18, .aload_n 0, 1), (19, .iload 4, 2), (21, .iconst 1, 1), (22, .ixor, 1), (23, .iload 5, 2), (25, .iconst 1, 1), (26, .ixor, 1), (27, .invokevirtual 128, 3), (30, .iconst 1, 1), (31, .ixor, 1), (32, .ireturn, 1)]
set_option maxRecDepth 100000 in
theorem okX3_makeChoice : ∀ q ∈ pX3_makeChoice, decode cX3_makeChoice q.1 = .ok q.2 := by decide +kernel
def pX3_makeMajority : List (Nat × Instr × Nat) := [(0, .aload_n 0, 1), (1, .iload_n 1, 1), (2, .iload_n 2, 1), (3, .invokevirtual 128, 3), (6, .istore 4, 2), (8, .aload_n 0, 1), (9, .iload_n 1, 1), (10, .iconst 1, 1), (11, .ixor, 1), (12, .iload_n 2, 1), (13, .iconst 1, 1), (14, .ixor, 1), (15, .invokevirtual 128, 3), (18, .istore 5, 2), (20, .aload_n 0, 1), (21, .iload_n 3, 1), (22, .iload 5, 2), (24, .iconst 1, 1), (25, .ixor, 1), (26, .invokevirtual 128, 3), (29, .istore 6, 2), (31, .aload_n 0, 1), (32, .iload 4, 2), (34, .iconst 1, 1), (35, .ixor, 1), (36, .iload 6, 2), (38, .iconst 1, 1), (39, .ixor, 1), (40, .invokevirtual 128, 3), (43, .iconst 1, 1), (44, .ixor, 1), (45, .ireturn, 1)]
set_option maxRecDepth 100000 in
theorem okX3_makeMajority : ∀ q ∈ pX3_makeMajority, decode cX3_makeMajority q.1 = .ok q.2 := by decide +kernel
def pX3_makeAnd : List (Nat × Instr × Nat) := [(0, .iload_n 1, 1), (1, .ifCond .eq 14, 3), (4, .iload_n 2, 1), (5, .ifCond .eq 10, 3), (8, .iload_n 1, 1), (9, .iload_n 2, 1), (10, .iconst 1, 1), (11, .ixor, 1), (12, .if_icmp .ne 5, 3), (15, .iconst 0, 1), (16, .ireturn, 1), (17, .iload_n 2, 1), (18, .iload_n 1, 1), (19, .if_icmp .eq 8, 3), (22, .iload_n 2, 1), (23, .iconst 1, 1), (24, .if_icmp .ne 5, 3), (27, .iload_n 1, 1), (28, .ireturn, 1), (29, .iload_n 1, 1), (30, .iconst 1, 1), (31, .if_icmp .ne 5, 3), (34, .iload_n 2, 1), (35, .ireturn, 1), (36, .iload_n 1, 1), (37, .iload_n 2, 1), (38, .invokestatic 139, 3), (41, .istore_n 3, 1), (42, .iload_n 1, 1), (43, .iload_n 2, 1), (44, .invokestatic 144, 3), (47, .istore 4, 2), (49, .aload_n 0, 1), (50, .getfield 18, 3), (53, .iload_n 3, 1), (54, .iaload, 1), (55, .istore 5, 2), (57, .iconst 0, 1), (58, .istore 6, 2), (60, .iload 6, 2), (62, .sipush 973, 3), (65, .if_icmp .ge 40, 3), (68, .iload 5, 2), (70, .ifCond .eq 35, 3), (73, .aload_n 0, 1), (74, .getfield 15, 3), (77, .iload 5, 2), (79, .iaload, 1), (80, .iload 4, 2), (82, .if_icmp .ne 8, 3), (85, .iconst 2, 1), (86, .iload 5, 2), (88, .imul, 1), (89, .ireturn, 1), (90, .aload_n 0, 1), (91, .getfield 21, 3), (94, .iload 5, 2), (96, .iaload, 1), (97, .istore 5, 2), (99, .iinc 6 1, 3), (102, .goto (-42), 3), (105, .aload_n 0, 1), (106, .iload_n 3, 1), (107, .iload 4, 2), (109, .invokevirtual 147, 3), (112, .ireturn, 1)]
set_option maxRecDepth 100000 in
theorem okX3_makeAnd : ∀ q ∈ pX3_makeAnd, decode cX3_makeAnd q.1 = .ok q.2 := by decide +kernel
def pX3_addAnd : List (Nat × Instr × Nat) := [(0, .aload_n 0, 1), (1, .getfield 63, 3), (4, .sipush 973, 3), (7, .if_icmp .lt 5, 3), (10, .iconst 0, 1), (11, .ireturn, 1), (12, .aload_n 0, 1), (13, .getfield 63, 3), (16, .istore_n 3, 1), (17, .iconst 0, 1), (18, .istore 4, 2), (20, .iload 4, 2), (22, .aload_n 0, 1), (23, .getfield 70, 3), (26, .if_icmp .ge 38, 3), (29, .aload_n 0, 1), (30, .getfield 24, 3), (33, .iload_n 3, 1), (34, .aload_n 0, 1), (35, .getfield 70, 3), (38, .imul, 1), (39, .iload 4, 2), (41, .iadd, 1), (42, .aload_n 0, 1), (43, .iload_n 1, 1), (44, .iload 4, 2), (46, .invokevirtual 66, 3), (49, .aload_n 0, 1), (50, .iload_n 2, 1), (51, .iload 4, 2), (53, .invokevirtual 66, 3), (56, .land, 1), (57, .lastore, 1), (58, .iinc 4 1, 3), (61, .goto (-41), 3), (64, .aload_n 0, 1), (65, .iload_n 1, 1), (66, .iload_n 2, 1), (67, .invokevirtual 99, 3), (70, .aload_n 0, 1), (71, .getfield 21, 3), (74, .iload_n 3, 1), (75, .aload_n 0, 1), (76, .getfield 18, 3), (79, .iload_n 1, 1), (80, .iaload, 1), (81, .iastore, 1), (82, .aload_n 0, 1), (83, .getfield 18, 3), (86, .iload_n 1, 1), (87, .iload_n 3, 1), (88, .iastore, 1), (89, .iconst 2, 1), (90, .iload_n 3, 1), (91, .imul, 1), (92, .ireturn, 1)]
set_option maxRecDepth 100000 in
theorem okX3_addAnd : ∀ q ∈ pX3_addAnd, decode cX3_addAnd q.1 = .ok q.2 := by decide +kernel
def pX3_addNode : List (Nat × Instr × Nat) := [(0, .aload_n 0, 1), (1, .getfield 63, 3), (4, .istore_n 3, 1), (5, .aload_n 0, 1), (6, .getfield 9, 3), (9, .iload_n 3, 1), (10, .iload_n 1, 1), (11, .iastore, 1), (12, .aload_n 0, 1), (13, .getfield 15, 3), (16, .iload_n 3, 1), (17, .iload_n 2, 1), (18, .iastore, 1), (19, .aload_n 0, 1), (20, .getfield 21, 3), (23, .iload_n 3, 1), (24, .iconst 0, 1), (25, .iastore, 1), (26, .aload_n 0, 1), (27, .getfield 18, 3), (30, .iconst 2, 1), (31, .iload_n 3, 1), (32, .imul, 1), (33, .iconst 0, 1), (34, .iastore, 1), (35, .aload_n 0, 1), (36, .getfield 18, 3), (39, .iconst 2, 1), (40, .iload_n 3, 1), (41, .imul, 1), (42, .iconst 1, 1), (43, .iadd, 1), (44, .iconst 0, 1), (45, .iastore, 1), (46, .aload_n 0, 1), (47, .dup, 1), (48, .getfield 63, 3), (51, .iconst 1, 1), (52, .iadd, 1), (53, .putfield 63, 3), (56, .return_, 1)]
set_option maxRecDepth 100000 in
theorem okX3_addNode : ∀ q ∈ pX3_addNode, decode cX3_addNode q.1 = .ok q.2 := by decide +kernel
def pX3_wordOf : List (Nat × Instr × Nat) := [(0, .aload_n 0, 1), (1, .getfield 24, 3), (4, .iload_n 1, 1), (5, .iconst 1, 1), (6, .ishr, 1), (7, .aload_n 0, 1), (8, .getfield 70, 3), (11, .imul, 1), (12, .iload_n 2, 1), (13, .iadd, 1), (14, .laload, 1), (15, .lstore_n 3, 1), (16, .iload_n 1, 1), (17, .iconst 1, 1), (18, .iand, 1), (19, .ifCond .ne 7, 3), (22, .lload_n 3, 1), (23, .goto 8, 3), (26, .lload_n 3, 1), (27, .ldc2_w 106, 3), (30, .lxor, 1), (31, .lreturn, 1)]
set_option maxRecDepth 100000 in
theorem okX3_wordOf : ∀ q ∈ pX3_wordOf, decode cX3_wordOf q.1 = .ok q.2 := by decide +kernel
def pX4_init : List (Nat × Instr × Nat) := [(0, .aload_n 0, 1), (1, .invokespecial 3, 3), (4, .aload_n 0, 1), (5, .sipush 973, 3), (8, .newarray .int, 2), (10, .putfield 9, 3), (13, .aload_n 0, 1), (14, .sipush 973, 3), (17, .newarray .int, 2), (19, .putfield 15, 3), (22, .return_, 1)]
set_option maxRecDepth 100000 in
theorem okX4_init : ∀ q ∈ pX4_init, decode cX4_init q.1 = .ok q.2 := by decide +kernel
def pX4_find : List (Nat × Instr × Nat) := [(0, .aload_n 0, 1), (1, .iconst 0, 1), (2, .putfield 18, 3), (5, .iconst 0, 1), (6, .istore_n 3, 1), (7, .iload_n 3, 1), (8, .aload_n 1, 1), (9, .getfield 22, 3), (12, .if_icmp .ge 52, 3), (15, .aload_n 0, 1), (16, .getfield 9, 3), (19, .iload_n 3, 1), (20, .aload_n 0, 1), (21, .iload_n 3, 1), (22, .aload_n 1, 1), (23, .aload_n 2, 1), (24, .invokevirtual 27, 3), (27, .iastore, 1), (28, .aload_n 0, 1), (29, .getfield 9, 3), (32, .iload_n 3, 1), (33, .iaload, 1), (34, .iload_n 3, 1), (35, .if_icmp .ne 23, 3), (38, .aload_n 0, 1), (39, .getfield 15, 3), (42, .aload_n 0, 1), (43, .getfield 18, 3), (46, .iload_n 3, 1), (47, .iastore, 1), (48, .aload_n 0, 1), (49, .dup, 1), (50, .getfield 18, 3), (53, .iconst 1, 1), (54, .iadd, 1), (55, .putfield 18, 3), (58, .iinc 3 1, 3), (61, .goto (-54), 3), (64, .return_, 1)]
set_option maxRecDepth 100000 in
theorem okX4_find : ∀ q ∈ pX4_find, decode cX4_find q.1 = .ok q.2 := by decide +kernel
def pX4_leaderOf : List (Nat × Instr × Nat) := [(0, .iconst 0, 1), (1, .istore 4, 2), (3, .iload 4, 2), (5, .aload_n 0, 1), (6, .getfield 18, 3), (9, .if_icmp .ge 33, 3), (12, .aload_n 2, 1), (13, .aload_n 0, 1), (14, .getfield 15, 3), (17, .iload 4, 2), (19, .iaload, 1), (20, .iload_n 1, 1), (21, .aload_n 3, 1), (22, .invokevirtual 31, 3), (25, .ifCond .eq 11, 3), (28, .aload_n 0, 1), (29, .getfield 15, 3), (32, .iload 4, 2), (34, .iaload, 1), (35, .ireturn, 1), (36, .iinc 4 1, 3), (39, .goto (-36), 3), (42, .iload_n 1, 1), (43, .ireturn, 1)]
set_option maxRecDepth 100000 in
theorem okX4_leaderOf : ∀ q ∈ pX4_leaderOf, decode cX4_leaderOf q.1 = .ok q.2 := by decide +kernel
def pX5_init : List (Nat × Instr × Nat) := [(0, .aload_n 0, 1), (1, .invokespecial 3, 3), (4, .aload_n 0, 1), (5, .sipush 973, 3), (8, .newarray .int, 2), (10, .putfield 9, 3), (13, .aload_n 0, 1), (14, .sipush 973, 3), (17, .newarray .boolean, 2), (19, .putfield 15, 3), (22, .return_, 1)]
set_option maxRecDepth 100000 in
theorem okX5_init : ∀ q ∈ pX5_init, decode cX5_init q.1 = .ok q.2 := by decide +kernel
def pX5_run : List (Nat × Instr × Nat) := [(0, .aload_n 0, 1), (1, .iconst 0, 1), (2, .putfield 19, 3), (5, .aload_n 0, 1), (6, .iconst 0, 1), (7, .putfield 23, 3), (10, .aload_n 0, 1), (11, .iconst 0, 1), (12, .putfield 26, 3), (15, .aload_n 0, 1), (16, .getfield 9, 3), (19, .iconst 0, 1), (20, .iconst 0, 1), (21, .iastore, 1), (22, .iconst 1, 1), (23, .istore_n 3, 1), (24, .iload_n 3, 1), (25, .aload_n 1, 1), (26, .getfield 29, 3), (29, .if_icmp .ge 44, 3), (32, .aload_n 0, 1), (33, .getfield 9, 3), (36, .iload_n 3, 1), (37, .aload_n 0, 1), (38, .iload_n 3, 1), (39, .aload_n 1, 1), (40, .aload_n 2, 1), (41, .invokevirtual 34, 3), (44, .iastore, 1), (45, .aload_n 0, 1), (46, .getfield 9, 3), (49, .iload_n 3, 1), (50, .iaload, 1), (51, .iconst 2, 1), (52, .iload_n 3, 1), (53, .imul, 1), (54, .if_icmp .eq 13, 3), (57, .aload_n 0, 1), (58, .dup, 1), (59, .getfield 26, 3), (62, .iconst 1, 1), (63, .iadd, 1), (64, .putfield 26, 3), (67, .iinc 3 1, 3), (70, .goto (-46), 3), (73, .return_, 1)]
set_option maxRecDepth 100000 in
theorem okX5_run : ∀ q ∈ pX5_run, decode cX5_run q.1 = .ok q.2 := by decide +kernel
def pX5_representativeOf : List (Nat × Instr × Nat) := [(0, .iconst 0, 1), (1, .istore 4, 2), (3, .iload 4, 2), (5, .iload_n 1, 1), (6, .if_icmp .ge 43, 3), (9, .aload_n 0, 1), (10, .getfield 9, 3), (13, .iload 4, 2), (15, .iaload, 1), (16, .iconst 2, 1), (17, .iload 4, 2), (19, .imul, 1), (20, .if_icmp .ne 23, 3), (23, .aload_n 0, 1), (24, .iload 4, 2), (26, .iload_n 1, 1), (27, .aload_n 2, 1), (28, .aload_n 3, 1), (29, .invokevirtual 38, 3), (32, .istore 5, 2), (34, .iload 5, 2), (36, .iconst (-1), 1), (37, .if_icmp .eq 6, 3), (40, .iload 5, 2), (42, .ireturn, 1), (43, .iinc 4 1, 3), (46, .goto (-43), 3), (49, .iconst 2, 1), (50, .iload_n 1, 1), (51, .imul, 1), (52, .ireturn, 1)]
set_option maxRecDepth 100000 in
theorem okX5_representativeOf : ∀ q ∈ pX5_representativeOf, decode cX5_representativeOf q.1 = .ok q.2 := by decide +kernel
def pX5_askCandidate : List (Nat × Instr × Nat) := [(0, .iconst 0, 1), (1, .istore 5, 2), (3, .iload 5, 2), (5, .iconst 2, 1), (6, .if_icmp .ge 92, 3), (9, .aload_n 3, 1), (10, .iload_n 1, 1), (11, .iload_n 2, 1), (12, .aload 4, 2), (14, .invokevirtual 42, 3), (17, .istore 6, 2), (19, .iload 6, 2), (21, .ifCond .ne 5, 3), (24, .iconst (-1), 1), (25, .ireturn, 1), (26, .aload_n 0, 1), (27, .dup, 1), (28, .getfield 23, 3), (31, .iconst 1, 1), (32, .iadd, 1), (33, .putfield 23, 3), (36, .iload 6, 2), (38, .iconst 2, 1), (39, .if_icmp .ne 11, 3), (42, .iconst 2, 1), (43, .iload_n 1, 1), (44, .imul, 1), (45, .iconst 1, 1), (46, .iadd, 1), (47, .goto 6, 3), (50, .iconst 2, 1), (51, .iload_n 1, 1), (52, .imul, 1), (53, .istore 7, 2), (55, .aload_n 3, 1), (56, .iload 7, 2), (58, .iconst 2, 1), (59, .iload_n 2, 1), (60, .imul, 1), (61, .invokevirtual 46, 3), (64, .istore 8, 2), (66, .iload 8, 2), (68, .iconst (-1), 1), (69, .if_icmp .ne 6, 3), (72, .iload 7, 2), (74, .ireturn, 1), (75, .aload 4, 2), (77, .iload 8, 2), (79, .invokevirtual 50, 3), (82, .aload_n 0, 1), (83, .dup, 1), (84, .getfield 19, 3), (87, .iconst 1, 1), (88, .iadd, 1), (89, .putfield 19, 3), (92, .iinc 5 1, 3), (95, .goto (-92), 3), (98, .iconst (-1), 1), (99, .ireturn, 1)]
set_option maxRecDepth 100000 in
theorem okX5_askCandidate : ∀ q ∈ pX5_askCandidate, decode cX5_askCandidate q.1 = .ok q.2 := by decide +kernel
def pX5_findNeeded : List (Nat × Instr × Nat) := [(0, .iconst 0, 1), (1, .istore 4, 2), (3, .iload 4, 2), (5, .aload_n 1, 1), (6, .getfield 29, 3), (9, .if_icmp .ge 17, 3), (12, .aload_n 0, 1), (13, .getfield 15, 3), (16, .iload 4, 2), (18, .iconst 0, 1), (19, .bastore, 1), (20, .iinc 4 1, 3), (23, .goto (-20), 3), (26, .aload_n 0, 1), (27, .aload_n 2, 1), (28, .invokevirtual 56, 3), (31, .aload_n 0, 1), (32, .aload_n 3, 1), (33, .invokevirtual 56, 3), (36, .aload_n 0, 1), (37, .iconst 0, 1), (38, .putfield 60, 3), (41, .aload_n 1, 1), (42, .getfield 29, 3), (45, .iconst 1, 1), (46, .isub, 1), (47, .istore 4, 2), (49, .iload 4, 2), (51, .aload_n 1, 1), (52, .getfield 63, 3), (55, .if_icmp .le 51, 3), (58, .aload_n 0, 1), (59, .getfield 15, 3), (62, .iload 4, 2), (64, .baload, 1), (65, .ifCond .eq 35, 3), (68, .aload_n 0, 1), (69, .dup, 1), (70, .getfield 60, 3), (73, .iconst 1, 1), (74, .iadd, 1), (75, .putfield 60, 3), (78, .aload_n 0, 1), (79, .aload_n 1, 1), (80, .getfield 66, 3), (83, .iload 4, 2), (85, .iaload, 1), (86, .invokevirtual 69, 3), (89, .aload_n 0, 1), (90, .aload_n 1, 1), (91, .getfield 72, 3), (94, .iload 4, 2), (96, .iaload, 1), (97, .invokevirtual 69, 3), (100, .iinc 4 (-1), 3), (103, .goto (-54), 3), (106, .return_, 1)]
set_option maxRecDepth 100000 in
theorem okX5_findNeeded : ∀ q ∈ pX5_findNeeded, decode cX5_findNeeded q.1 = .ok q.2 := by decide +kernel
def pX5_markOuts : List (Nat × Instr × Nat) := [(0, .iconst 0, 1), (1, .istore_n 2, 1), (2, .iload_n 2, 1), (3, .aload_n 1, 1), (4, .getfield 75, 3), (7, .if_icmp .ge 23, 3), (10, .aload_n 0, 1), (11, .aload_n 1, 1), (12, .aload_n 1, 1), (13, .getfield 80, 3), (16, .iload_n 2, 1), (17, .iaload, 1), (18, .invokevirtual 83, 3), (21, .invokevirtual 69, 3), (24, .iinc 2 1, 3), (27, .goto (-25), 3), (30, .return_, 1)]
set_option maxRecDepth 100000 in
theorem okX5_markOuts : ∀ q ∈ pX5_markOuts, decode cX5_markOuts q.1 = .ok q.2 := by decide +kernel
def pX5_mark : List (Nat × Instr × Nat) := [(0, .aload_n 0, 1), (1, .getfield 15, 3), (4, .aload_n 0, 1), (5, .getfield 9, 3), (8, .iload_n 1, 1), (9, .iconst 1, 1), (10, .ishr, 1), (11, .iaload, 1), (12, .iconst 1, 1), (13, .ishr, 1), (14, .iconst 1, 1), (15, .bastore, 1), (16, .return_, 1)]
set_option maxRecDepth 100000 in
theorem okX5_mark : ∀ q ∈ pX5_mark, decode cX5_mark q.1 = .ok q.2 := by decide +kernel
def pX6_init : List (Nat × Instr × Nat) := [(0, .aload_n 0, 1), (1, .invokespecial 3, 3), (4, .aload_n 0, 1), (5, .sipush 3000, 3), (8, .newarray .byte, 2), (10, .putfield 9, 3), (13, .return_, 1)]
set_option maxRecDepth 100000 in
theorem okX6_init : ∀ q ∈ pX6_init, decode cX6_init q.1 = .ok q.2 := by decide +kernel
def pX6_append : List (Nat × Instr × Nat) := [(0, .bipush 24, 2), (2, .istore_n 2, 1), (3, .iload_n 2, 1), (4, .ifCond .lt 42, 3), (7, .aload_n 0, 1), (8, .getfield 15, 3), (11, .sipush 3000, 3), (14, .if_icmp .ge 32, 3), (17, .aload_n 0, 1), (18, .getfield 9, 3), (21, .aload_n 0, 1), (22, .getfield 15, 3), (25, .iload_n 1, 1), (26, .iload_n 2, 1), (27, .ishr, 1), (28, .i2b, 1), (29, .bastore, 1), (30, .aload_n 0, 1), (31, .dup, 1), (32, .getfield 15, 3), (35, .iconst 1, 1), (36, .iadd, 1), (37, .putfield 15, 3), (40, .iinc 2 (-8), 3), (43, .goto (-40), 3), (46, .return_, 1)]
set_option maxRecDepth 100000 in
theorem okX6_append : ∀ q ∈ pX6_append, decode cX6_append q.1 = .ok q.2 := by decide +kernel
def pX6_byteAt : List (Nat × Instr × Nat) := [(0, .iload_n 1, 1), (1, .ifCond .lt 24, 3), (4, .iload_n 1, 1), (5, .aload_n 0, 1), (6, .getfield 15, 3), (9, .if_icmp .ge 16, 3), (12, .aload_n 0, 1), (13, .getfield 9, 3), (16, .iload_n 1, 1), (17, .baload, 1), (18, .sipush 255, 3), (21, .iand, 1), (22, .goto 4, 3), (25, .iconst (-1), 1), (26, .ireturn, 1)]
set_option maxRecDepth 100000 in
theorem okX6_byteAt : ∀ q ∈ pX6_byteAt, decode cX6_byteAt q.1 = .ok q.2 := by decide +kernel
def pX6_hasDigitAt : List (Nat × Instr × Nat) := [(0, .aload_n 0, 1), (1, .iload_n 1, 1), (2, .invokevirtual 19, 3), (5, .istore_n 2, 1), (6, .iload_n 2, 1), (7, .bipush 48, 2), (9, .if_icmp .lt 13, 3), (12, .iload_n 2, 1), (13, .bipush 57, 2), (15, .if_icmp .gt 7, 3), (18, .iconst 1, 1), (19, .goto 4, 3), (22, .iconst 0, 1), (23, .ireturn, 1)]
set_option maxRecDepth 100000 in
theorem okX6_hasDigitAt : ∀ q ∈ pX6_hasDigitAt, decode cX6_hasDigitAt q.1 = .ok q.2 := by decide +kernel
def pX7_init : List (Nat × Instr × Nat) := [(0, .aload_n 0, 1), (1, .invokespecial 3, 3), (4, .aload_n 0, 1), (5, .sipush 4096, 3), (8, .newarray .int, 2), (10, .putfield 9, 3), (13, .aload_n 0, 1), (14, .bipush 64, 2), (16, .newarray .long, 2), (18, .putfield 15, 3), (21, .aload_n 0, 1), (22, .bipush 64, 2), (24, .newarray .int, 2), (26, .putfield 19, 3), (29, .return_, 1)]
set_option maxRecDepth 100000 in
theorem okX7_init : ∀ q ∈ pX7_init, decode cX7_init q.1 = .ok q.2 := by decide +kernel
def pX7_empty : List (Nat × Instr × Nat) := [(0, .aload_n 0, 1), (1, .getfield 15, 3), (4, .lconst 0, 1), (5, .invokestatic 22, 3), (8, .aload_n 0, 1), (9, .iconst 0, 1), (10, .putfield 28, 3), (13, .aload_n 0, 1), (14, .iconst 0, 1), (15, .putfield 32, 3), (18, .return_, 1)]
set_option maxRecDepth 100000 in
theorem okX7_empty : ∀ q ∈ pX7_empty, decode cX7_empty q.1 = .ok q.2 := by decide +kernel
def pX7_has : List (Nat × Instr × Nat) := [(0, .iload_n 1, 1), (1, .ifCond .lt 10, 3), (4, .iload_n 1, 1), (5, .sipush 4096, 3), (8, .if_icmp .lt 5, 3), (11, .iconst 0, 1), (12, .ireturn, 1), (13, .aload_n 0, 1), (14, .getfield 15, 3), (17, .iload_n 1, 1), (18, .bipush 6, 2), (20, .ishr, 1), (21, .laload, 1), (22, .iload_n 1, 1), (23, .bipush 63, 2), (25, .iand, 1), (26, .lushr, 1), (27, .lconst 1, 1), (28, .land, 1), (29, .lconst 0, 1), (30, .lcmp, 1), (31, .ifCond .eq 7, 3), (34, .iconst 1, 1), (35, .goto 4, 3), (38, .iconst 0, 1), (39, .ireturn, 1)]
set_option maxRecDepth 100000 in
theorem okX7_has : ∀ q ∈ pX7_has, decode cX7_has q.1 = .ok q.2 := by decide +kernel
def pX7_add : List (Nat × Instr × Nat) := [(0, .iload_n 1, 1), (1, .ifCond .lt 28, 3), (4, .iload_n 1, 1), (5, .sipush 4096, 3), (8, .if_icmp .ge 21, 3), (11, .aload_n 0, 1), (12, .getfield 32, 3), (15, .sipush 4096, 3), (18, .if_icmp .ge 11, 3), (21, .aload_n 0, 1), (22, .iload_n 1, 1), (23, .invokevirtual 35, 3), (26, .ifCond .eq 4, 3), (29, .return_, 1), (30, .iload_n 1, 1), (31, .bipush 6, 2), (33, .ishr, 1), (34, .istore_n 2, 1), (35, .aload_n 0, 1), (36, .getfield 15, 3), (39, .iload_n 2, 1), (40, .laload, 1), (41, .lconst 0, 1), (42, .lcmp, 1), (43, .ifCond .ne 23, 3), (46, .aload_n 0, 1), (47, .getfield 19, 3), (50, .aload_n 0, 1), (51, .getfield 28, 3), (54, .iload_n 2, 1), (55, .iastore, 1), (56, .aload_n 0, 1), (57, .dup, 1), (58, .getfield 28, 3), (61, .iconst 1, 1), (62, .iadd, 1), (63, .putfield 28, 3), (66, .aload_n 0, 1), (67, .getfield 15, 3), (70, .iload_n 2, 1), (71, .dup2, 1), (72, .laload, 1), (73, .lconst 1, 1), (74, .iload_n 1, 1), (75, .bipush 63, 2), (77, .iand, 1), (78, .lshl, 1), (79, .lor, 1), (80, .lastore, 1), (81, .aload_n 0, 1), (82, .getfield 9, 3), (85, .aload_n 0, 1), (86, .getfield 32, 3), (89, .iload_n 1, 1), (90, .iastore, 1), (91, .aload_n 0, 1), (92, .dup, 1), (93, .getfield 32, 3), (96, .iconst 1, 1), (97, .iadd, 1), (98, .putfield 32, 3), (101, .return_, 1)]
set_option maxRecDepth 100000 in
theorem okX7_add : ∀ q ∈ pX7_add, decode cX7_add q.1 = .ok q.2 := by decide +kernel
def pX8_init : List (Nat × Instr × Nat) := [(0, .aload_n 0, 1), (1, .invokespecial 3, 3), (4, .aload_n 0, 1), (5, .iconst 4, 1), (6, .putfield 9, 3), (9, .aload_n 0, 1), (10, .new 13, 3), (13, .dup, 1), (14, .iconst 4, 1), (15, .invokespecial 15, 3), (18, .putfield 18, 3), (21, .aload_n 0, 1), (22, .new 13, 3), (25, .dup, 1), (26, .iconst 4, 1), (27, .invokespecial 15, 3), (30, .putfield 22, 3), (33, .aload_n 0, 1), (34, .new 25, 3), (37, .dup, 1), (38, .invokespecial 27, 3), (41, .putfield 28, 3), (44, .aload_n 0, 1), (45, .new 32, 3), (48, .dup, 1), (49, .aload_n 0, 1), (50, .getfield 18, 3), (53, .aload_n 0, 1), (54, .getfield 22, 3), (57, .invokespecial 34, 3), (60, .putfield 37, 3), (63, .aload_n 0, 1), (64, .new 41, 3), (67, .dup, 1), (68, .invokespecial 43, 3), (71, .putfield 44, 3), (74, .aload_n 0, 1), (75, .new 48, 3), (78, .dup, 1), (79, .invokespecial 50, 3), (82, .putfield 51, 3), (85, .aload_n 0, 1), (86, .new 55, 3), (89, .dup, 1), (90, .invokespecial 57, 3), (93, .putfield 58, 3), (96, .aload_n 0, 1), (97, .new 62, 3), (100, .dup, 1), (101, .aload_n 0, 1), (102, .getfield 58, 3), (105, .invokespecial 64, 3), (108, .putfield 67, 3), (111, .aload_n 0, 1), (112, .new 71, 3), (115, .dup, 1), (116, .aload_n 0, 1), (117, .getfield 67, 3), (120, .invokespecial 73, 3), (123, .putfield 76, 3), (126, .aload_n 0, 1), (127, .iconst (-1), 1), (128, .putfield 80, 3), (131, .aload_n 0, 1), (132, .iconst 0, 1), (133, .putfield 83, 3), (136, .aload_n 0, 1), (137, .iconst 0, 1), (138, .putfield 87, 3), (141, .return_, 1)]
set_option maxRecDepth 100000 in
theorem okX8_init : ∀ q ∈ pX8_init, decode cX8_init q.1 = .ok q.2 := by decide +kernel
def pX8_inputs : List (Nat × Instr × Nat) := [(0, .iload_n 1, 1), (1, .iconst 1, 1), (2, .if_icmp .lt 9, 3), (5, .iload_n 1, 1), (6, .bipush 12, 2), (8, .if_icmp .le 5, 3), (11, .iconst 0, 1), (12, .ireturn, 1), (13, .aload_n 0, 1), (14, .iload_n 1, 1), (15, .putfield 9, 3), (18, .aload_n 0, 1), (19, .getfield 18, 3), (22, .iload_n 1, 1), (23, .invokevirtual 90, 3), (26, .aload_n 0, 1), (27, .getfield 22, 3), (30, .iload_n 1, 1), (31, .invokevirtual 90, 3), (34, .aload_n 0, 1), (35, .getfield 28, 3), (38, .invokevirtual 93, 3), (41, .aload_n 0, 1), (42, .invokevirtual 96, 3), (45, .iconst 1, 1), (46, .ireturn, 1)]
set_option maxRecDepth 100000 in
theorem okX8_inputs : ∀ q ∈ pX8_inputs, decode cX8_inputs q.1 = .ok q.2 := by decide +kernel
def pX8_gate : List (Nat × Instr × Nat) := [(0, .aload_n 0, 1), (1, .iload_n 1, 1), (2, .invokevirtual 99, 3), (5, .astore 6, 2), (7, .aload 6, 2), (9, .ifnull 17, 3), (12, .aload 6, 2), (14, .iload_n 2, 1), (15, .iload_n 3, 1), (16, .iload 4, 2), (18, .iload 5, 2), (20, .invokevirtual 103, 3), (23, .ifCond .ne 5, 3), (26, .iconst (-1), 1), (27, .ireturn, 1), (28, .aload 6, 2), (30, .iload_n 2, 1), (31, .iload_n 3, 1), (32, .iload 4, 2), (34, .iload 5, 2), (36, .invokevirtual 107, 3), (39, .istore 7, 2), (41, .aload_n 0, 1), (42, .invokevirtual 111, 3), (45, .iload 7, 2), (47, .ireturn, 1)]
set_option maxRecDepth 100000 in
theorem okX8_gate : ∀ q ∈ pX8_gate, decode cX8_gate q.1 = .ok q.2 := by decide +kernel
def pX8_output : List (Nat × Instr × Nat) := [(0, .aload_n 0, 1), (1, .iload_n 1, 1), (2, .invokevirtual 99, 3), (5, .astore_n 3, 1), (6, .aload_n 3, 1), (7, .ifnull 20, 3), (10, .aload_n 3, 1), (11, .getfield 114, 3), (14, .bipush 10, 2), (16, .if_icmp .ge 11, 3), (19, .aload_n 3, 1), (20, .iload_n 2, 1), (21, .invokevirtual 117, 3), (24, .ifCond .ne 5, 3), (27, .iconst (-1), 1), (28, .ireturn, 1), (29, .aload_n 3, 1), (30, .iload_n 2, 1), (31, .invokevirtual 121, 3), (34, .istore 4, 2), (36, .aload_n 0, 1), (37, .invokevirtual 111, 3), (40, .iload 4, 2), (42, .ireturn, 1)]
set_option maxRecDepth 100000 in
theorem okX8_output : ∀ q ∈ pX8_output, decode cX8_output q.1 = .ok q.2 := by decide +kernel
def pX8_clear : List (Nat × Instr × Nat) := [(0, .aload_n 0, 1), (1, .iload_n 1, 1), (2, .invokevirtual 99, 3), (5, .astore_n 2, 1), (6, .aload_n 2, 1), (7, .ifnonnull 5, 3), (10, .iconst (-1), 1), (11, .ireturn, 1), (12, .aload_n 2, 1), (13, .getfield 125, 3), (16, .istore_n 3, 1), (17, .aload_n 2, 1), (18, .aload_n 0, 1), (19, .getfield 9, 3), (22, .invokevirtual 90, 3), (25, .aload_n 0, 1), (26, .invokevirtual 96, 3), (29, .iload_n 3, 1), (30, .ireturn, 1)]
set_option maxRecDepth 100000 in
theorem okX8_clear : ∀ q ∈ pX8_clear, decode cX8_clear q.1 = .ok q.2 := by decide +kernel
def pX8_feed : List (Nat × Instr × Nat) := [(0, .aload_n 0, 1), (1, .getfield 58, 3), (4, .getfield 128, 3), (7, .sipush 2980, 3), (10, .if_icmp .le 5, 3), (13, .iconst (-1), 1), (14, .ireturn, 1), (15, .aload_n 0, 1), (16, .getfield 58, 3), (19, .iload_n 1, 1), (20, .invokevirtual 131, 3), (23, .aload_n 0, 1), (24, .getfield 58, 3), (27, .iload_n 2, 1), (28, .invokevirtual 131, 3), (31, .aload_n 0, 1), (32, .getfield 58, 3), (35, .iload_n 3, 1), (36, .invokevirtual 131, 3), (39, .aload_n 0, 1), (40, .getfield 58, 3), (43, .iload 4, 2), (45, .invokevirtual 131, 3), (48, .aload_n 0, 1), (49, .getfield 58, 3), (52, .iload 5, 2), (54, .invokevirtual 131, 3), (57, .aload_n 0, 1), (58, .getfield 58, 3), (61, .getfield 128, 3), (64, .ireturn, 1)]
set_option maxRecDepth 100000 in
theorem okX8_feed : ∀ q ∈ pX8_feed, decode cX8_feed q.1 = .ok q.2 := by decide +kernel
def pX8_end : List (Nat × Instr × Nat) := [(0, .iload_n 1, 1), (1, .ifCond .lt 14, 3), (4, .iload_n 1, 1), (5, .aload_n 0, 1), (6, .getfield 58, 3), (9, .getfield 128, 3), (12, .if_icmp .le 5, 3), (15, .iconst (-1), 1), (16, .ireturn, 1), (17, .aload_n 0, 1), (18, .getfield 58, 3), (21, .iload_n 1, 1), (22, .putfield 128, 3), (25, .iload_n 1, 1), (26, .ireturn, 1)]
set_option maxRecDepth 100000 in
theorem okX8_end : ∀ q ∈ pX8_end, decode cX8_end q.1 = .ok q.2 := by decide +kernel
def pX8_read : List (Nat × Instr × Nat) := [(0, .aload_n 0, 1), (1, .iload_n 1, 1), (2, .invokevirtual 99, 3), (5, .astore_n 2, 1), (6, .aload_n 2, 1), (7, .ifnonnull 5, 3), (10, .iconst (-1), 1), (11, .ireturn, 1), (12, .aload_n 0, 1), (13, .getfield 67, 3), (16, .aload_n 0, 1), (17, .getfield 9, 3), (20, .invokevirtual 134, 3), (23, .aload_n 0, 1), (24, .getfield 67, 3), (27, .getfield 137, 3), (30, .ifCond .ne 10, 3), (33, .aload_n 0, 1), (34, .getfield 76, 3), (37, .invokevirtual 140, 3), (40, .aload_n 0, 1), (41, .getfield 58, 3), (44, .iconst 0, 1), (45, .putfield 128, 3), (48, .aload_n 0, 1), (49, .getfield 67, 3), (52, .getfield 137, 3), (55, .ifCond .eq 22, 3), (58, .aload_n 0, 1), (59, .aload_n 0, 1), (60, .getfield 67, 3), (63, .getfield 143, 3), (66, .putfield 80, 3), (69, .aload_n 0, 1), (70, .getfield 67, 3), (73, .getfield 137, 3), (76, .ireturn, 1), (77, .aload_n 0, 1), (78, .iconst (-1), 1), (79, .putfield 80, 3), (82, .aload_n 2, 1), (83, .aload_n 0, 1), (84, .getfield 9, 3), (87, .invokevirtual 90, 3), (90, .aload_n 0, 1), (91, .getfield 76, 3), (94, .aload_n 2, 1), (95, .invokevirtual 146, 3), (98, .aload_n 0, 1), (99, .invokevirtual 96, 3), (102, .iconst 0, 1), (103, .ireturn, 1)]
set_option maxRecDepth 100000 in
theorem okX8_read : ∀ q ∈ pX8_read, decode cX8_read q.1 = .ok q.2 := by decide +kernel
def pX8_place : List (Nat × Instr × Nat) := [(0, .aload_n 0, 1), (1, .getfield 80, 3), (4, .ireturn, 1)]
set_option maxRecDepth 100000 in
theorem okX8_place : ∀ q ∈ pX8_place, decode cX8_place q.1 = .ok q.2 := by decide +kernel
def pX8_value : List (Nat × Instr × Nat) := [(0, .aload_n 0, 1), (1, .iload_n 1, 1), (2, .invokevirtual 99, 3), (5, .astore 4, 2), (7, .aload 4, 2), (9, .ifnull 20, 3), (12, .aload 4, 2), (14, .iload_n 2, 1), (15, .invokevirtual 117, 3), (18, .ifCond .eq 11, 3), (21, .aload_n 0, 1), (22, .iload_n 3, 1), (23, .invokevirtual 150, 3), (26, .ifCond .ne 5, 3), (29, .iconst (-1), 1), (30, .ireturn, 1), (31, .aload_n 0, 1), (32, .getfield 37, 3), (35, .invokevirtual 153, 3), (38, .aload_n 0, 1), (39, .getfield 37, 3), (42, .aload 4, 2), (44, .iload_n 2, 1), (45, .invokevirtual 156, 3), (48, .iload_n 3, 1), (49, .invokevirtual 159, 3), (52, .ireturn, 1)]
set_option maxRecDepth 100000 in
theorem okX8_value : ∀ q ∈ pX8_value, decode cX8_value q.1 = .ok q.2 := by decide +kernel
def pX8_vector : List (Nat × Instr × Nat) := [(0, .aload_n 0, 1), (1, .iload_n 1, 1), (2, .invokevirtual 150, 3), (5, .ifCond .eq 14, 3), (8, .aload_n 0, 1), (9, .getfield 28, 3), (12, .iload_n 1, 1), (13, .invokevirtual 163, 3), (16, .ifCond .eq 5, 3), (19, .iconst (-1), 1), (20, .ireturn, 1), (21, .aload_n 0, 1), (22, .getfield 28, 3), (25, .iload_n 1, 1), (26, .invokevirtual 166, 3), (29, .aload_n 0, 1), (30, .iconst 0, 1), (31, .putfield 83, 3), (34, .aload_n 0, 1), (35, .getfield 28, 3), (38, .getfield 169, 3), (41, .ireturn, 1)]
set_option maxRecDepth 100000 in
theorem okX8_vector : ∀ q ∈ pX8_vector, decode cX8_vector q.1 = .ok q.2 := by decide +kernel
def pX8_forget : List (Nat × Instr × Nat) := [(0, .aload_n 0, 1), (1, .getfield 28, 3), (4, .getfield 169, 3), (7, .istore_n 1, 1), (8, .aload_n 0, 1), (9, .getfield 28, 3), (12, .invokevirtual 93, 3), (15, .aload_n 0, 1), (16, .iconst 0, 1), (17, .putfield 83, 3), (20, .iload_n 1, 1), (21, .ireturn, 1)]
set_option maxRecDepth 100000 in
theorem okX8_forget : ∀ q ∈ pX8_forget, decode cX8_forget q.1 = .ok q.2 := by decide +kernel
def pX8_given : List (Nat × Instr × Nat) := [(0, .iload_n 1, 1), (1, .ifCond .lt 26, 3), (4, .iload_n 1, 1), (5, .aload_n 0, 1), (6, .getfield 28, 3), (9, .getfield 169, 3), (12, .if_icmp .ge 15, 3), (15, .aload_n 0, 1), (16, .getfield 28, 3), (19, .getfield 170, 3), (22, .iload_n 1, 1), (23, .iaload, 1), (24, .goto 4, 3), (27, .iconst (-1), 1), (28, .ireturn, 1)]
set_option maxRecDepth 100000 in
theorem okX8_given : ∀ q ∈ pX8_given, decode cX8_given q.1 = .ok q.2 := by decide +kernel
def pX8_count : List (Nat × Instr × Nat) := [(0, .iload_n 1, 1), (1, .tableswitch 138 0 8 #[51, 66, 71, 79, 87, 95, 103, 111, 130], 51), (52, .aload_n 0, 1), (53, .getfield 37, 3), (56, .invokevirtual 153, 3), (59, .aload_n 0, 1), (60, .getfield 37, 3), (63, .getfield 174, 3), (66, .ireturn, 1), (67, .aload_n 0, 1), (68, .getfield 9, 3), (71, .ireturn, 1), (72, .aload_n 0, 1), (73, .getfield 18, 3), (76, .getfield 125, 3), (79, .ireturn, 1), (80, .aload_n 0, 1), (81, .getfield 22, 3), (84, .getfield 125, 3), (87, .ireturn, 1), (88, .aload_n 0, 1), (89, .getfield 18, 3), (92, .getfield 114, 3), (95, .ireturn, 1), (96, .aload_n 0, 1), (97, .getfield 22, 3), (100, .getfield 114, 3), (103, .ireturn, 1), (104, .aload_n 0, 1), (105, .getfield 28, 3), (108, .getfield 169, 3), (111, .ireturn, 1), (112, .aload_n 0, 1), (113, .getfield 37, 3), (116, .invokevirtual 153, 3), (119, .aload_n 0, 1), (120, .invokevirtual 177, 3), (123, .aload_n 0, 1), (124, .getfield 44, 3), (127, .getfield 180, 3), (130, .ireturn, 1), (131, .aload_n 0, 1), (132, .getfield 58, 3), (135, .getfield 128, 3), (138, .ireturn, 1), (139, .iconst (-1), 1), (140, .ireturn, 1)]
set_option maxRecDepth 100000 in
theorem okX8_count : ∀ q ∈ pX8_count, decode cX8_count q.1 = .ok q.2 := by decide +kernel
def pX8_node : List (Nat × Instr × Nat) := [(0, .aload_n 0, 1), (1, .getfield 37, 3), (4, .invokevirtual 153, 3), (7, .iload_n 1, 1), (8, .ifCond .lt 14, 3), (11, .iload_n 1, 1), (12, .aload_n 0, 1), (13, .getfield 37, 3), (16, .getfield 174, 3), (19, .if_icmp .lt 5, 3), (22, .iconst (-1), 1), (23, .ireturn, 1), (24, .iload_n 2, 1), (25, .iconst 2, 1), (26, .if_icmp .ne 17, 3), (29, .aload_n 0, 1), (30, .invokevirtual 177, 3), (33, .aload_n 0, 1), (34, .getfield 44, 3), (37, .getfield 183, 3), (40, .iload_n 1, 1), (41, .iaload, 1), (42, .ireturn, 1), (43, .aload_n 0, 1), (44, .getfield 37, 3), (47, .iload_n 1, 1), (48, .invokevirtual 186, 3), (51, .ifCond .ne 5, 3), (54, .iconst (-1), 1), (55, .ireturn, 1), (56, .iload_n 2, 1), (57, .ifCond .ne 13, 3), (60, .aload_n 0, 1), (61, .getfield 37, 3), (64, .getfield 189, 3), (67, .iload_n 1, 1), (68, .iaload, 1), (69, .ireturn, 1), (70, .iload_n 2, 1), (71, .iconst 1, 1), (72, .if_icmp .ne 15, 3), (75, .aload_n 0, 1), (76, .getfield 37, 3), (79, .getfield 192, 3), (82, .iload_n 1, 1), (83, .iaload, 1), (84, .goto 4, 3), (87, .iconst (-1), 1), (88, .ireturn, 1)]
set_option maxRecDepth 100000 in
theorem okX8_node : ∀ q ∈ pX8_node, decode cX8_node q.1 = .ok q.2 := by decide +kernel
def pX8_literal : List (Nat × Instr × Nat) := [(0, .aload_n 0, 1), (1, .iload_n 1, 1), (2, .invokevirtual 99, 3), (5, .astore_n 3, 1), (6, .aload_n 3, 1), (7, .ifnull 11, 3), (10, .aload_n 3, 1), (11, .iload_n 2, 1), (12, .invokevirtual 117, 3), (15, .ifCond .ne 5, 3), (18, .iconst (-1), 1), (19, .ireturn, 1), (20, .aload_n 0, 1), (21, .getfield 37, 3), (24, .invokevirtual 153, 3), (27, .aload_n 3, 1), (28, .iload_n 2, 1), (29, .invokevirtual 156, 3), (32, .ireturn, 1)]
set_option maxRecDepth 100000 in
theorem okX8_literal : ∀ q ∈ pX8_literal, decode cX8_literal q.1 = .ok q.2 := by decide +kernel
def pX8_sweep : List (Nat × Instr × Nat) := [(0, .aload_n 0, 1), (1, .getfield 37, 3), (4, .invokevirtual 153, 3), (7, .aload_n 0, 1), (8, .getfield 51, 3), (11, .aload_n 0, 1), (12, .getfield 37, 3), (15, .aload_n 0, 1), (16, .getfield 28, 3), (19, .invokevirtual 195, 3), (22, .aload_n 0, 1), (23, .getfield 51, 3), (26, .aload_n 0, 1), (27, .getfield 37, 3), (30, .aload_n 0, 1), (31, .getfield 18, 3), (34, .aload_n 0, 1), (35, .getfield 22, 3), (38, .invokevirtual 199, 3), (41, .aload_n 0, 1), (42, .iconst 0, 1), (43, .putfield 83, 3), (46, .aload_n 0, 1), (47, .iconst 1, 1), (48, .putfield 87, 3), (51, .aload_n 0, 1), (52, .getfield 51, 3), (55, .getfield 203, 3), (58, .ireturn, 1)]
set_option maxRecDepth 100000 in
theorem okX8_sweep : ∀ q ∈ pX8_sweep, decode cX8_sweep q.1 = .ok q.2 := by decide +kernel
def pX8_swept : List (Nat × Instr × Nat) := [(0, .aload_n 0, 1), (1, .getfield 87, 3), (4, .ifCond .eq 18, 3), (7, .iload_n 1, 1), (8, .ifCond .lt 14, 3), (11, .iload_n 1, 1), (12, .aload_n 0, 1), (13, .getfield 37, 3), (16, .getfield 174, 3), (19, .if_icmp .lt 5, 3), (22, .iconst (-1), 1), (23, .ireturn, 1), (24, .aload_n 0, 1), (25, .getfield 51, 3), (28, .getfield 206, 3), (31, .iload_n 1, 1), (32, .iaload, 1), (33, .ireturn, 1)]
set_option maxRecDepth 100000 in
theorem okX8_swept : ∀ q ∈ pX8_swept, decode cX8_swept q.1 = .ok q.2 := by decide +kernel
def pX8_told : List (Nat × Instr × Nat) := [(0, .aload_n 0, 1), (1, .getfield 87, 3), (4, .ifCond .ne 5, 3), (7, .iconst (-1), 1), (8, .ireturn, 1), (9, .iload_n 1, 1), (10, .tableswitch 70 0 3 #[30, 38, 46, 54], 30), (40, .aload_n 0, 1), (41, .getfield 51, 3), (44, .getfield 209, 3), (47, .ireturn, 1), (48, .aload_n 0, 1), (49, .getfield 51, 3), (52, .getfield 212, 3), (55, .ireturn, 1), (56, .aload_n 0, 1), (57, .getfield 51, 3), (60, .getfield 215, 3), (63, .ireturn, 1), (64, .aload_n 0, 1), (65, .getfield 37, 3), (68, .getfield 174, 3), (71, .aload_n 0, 1), (72, .getfield 51, 3), (75, .getfield 203, 3), (78, .isub, 1), (79, .ireturn, 1), (80, .iconst (-1), 1), (81, .ireturn, 1)]
set_option maxRecDepth 100000 in
theorem okX8_told : ∀ q ∈ pX8_told, decode cX8_told q.1 = .ok q.2 := by decide +kernel
def pX8_same : List (Nat × Instr × Nat) := [(0, .aload_n 0, 1), (1, .iload_n 1, 1), (2, .invokevirtual 218, 3), (5, .ifCond .ne 5, 3), (8, .iconst (-1), 1), (9, .ireturn, 1), (10, .aload_n 0, 1), (11, .getfield 37, 3), (14, .invokevirtual 153, 3), (17, .aload_n 0, 1), (18, .iload_n 1, 1), (19, .invokevirtual 221, 3), (22, .iconst (-1), 1), (23, .if_icmp .ne 7, 3), (26, .iconst 1, 1), (27, .goto 4, 3), (30, .iconst 0, 1), (31, .ireturn, 1)]
set_option maxRecDepth 100000 in
theorem okX8_same : ∀ q ∈ pX8_same, decode cX8_same q.1 = .ok q.2 := by decide +kernel
def pX8_differs : List (Nat × Instr × Nat) := [(0, .aload_n 0, 1), (1, .iload_n 1, 1), (2, .invokevirtual 218, 3), (5, .ifCond .ne 5, 3), (8, .iconst (-1), 1), (9, .ireturn, 1), (10, .aload_n 0, 1), (11, .getfield 37, 3), (14, .invokevirtual 153, 3), (17, .aload_n 0, 1), (18, .iload_n 1, 1), (19, .invokevirtual 221, 3), (22, .ireturn, 1)]
set_option maxRecDepth 100000 in
theorem okX8_differs : ∀ q ∈ pX8_differs, decode cX8_differs q.1 = .ok q.2 := by decide +kernel
def pX8_verdict : List (Nat × Instr × Nat) := [(0, .aload_n 0, 1), (1, .getfield 18, 3), (4, .getfield 114, 3), (7, .aload_n 0, 1), (8, .getfield 22, 3), (11, .getfield 114, 3), (14, .if_icmp .eq 5, 3), (17, .iconst (-1), 1), (18, .ireturn, 1), (19, .aload_n 0, 1), (20, .getfield 37, 3), (23, .invokevirtual 153, 3), (26, .iconst 0, 1), (27, .istore_n 1, 1), (28, .iload_n 1, 1), (29, .aload_n 0, 1), (30, .getfield 18, 3), (33, .getfield 114, 3), (36, .if_icmp .ge 20, 3), (39, .aload_n 0, 1), (40, .iload_n 1, 1), (41, .invokevirtual 221, 3), (44, .iconst (-1), 1), (45, .if_icmp .eq 5, 3), (48, .iconst 0, 1), (49, .ireturn, 1), (50, .iinc 1 1, 3), (53, .goto (-25), 3), (56, .iconst 1, 1), (57, .ireturn, 1)]
set_option maxRecDepth 100000 in
theorem okX8_verdict : ∀ q ∈ pX8_verdict, decode cX8_verdict q.1 = .ok q.2 := by decide +kernel
def pX8_circuitAt : List (Nat × Instr × Nat) := [(0, .iload_n 1, 1), (1, .ifCond .ne 8, 3), (4, .aload_n 0, 1), (5, .getfield 18, 3), (8, .areturn, 1), (9, .iload_n 1, 1), (10, .iconst 1, 1), (11, .if_icmp .ne 10, 3), (14, .aload_n 0, 1), (15, .getfield 22, 3), (18, .goto 4, 3), (21, .aconst_null, 1), (22, .areturn, 1)]
set_option maxRecDepth 100000 in
theorem okX8_circuitAt : ∀ q ∈ pX8_circuitAt, decode cX8_circuitAt q.1 = .ok q.2 := by decide +kernel
def pX8_isInputWord : List (Nat × Instr × Nat) := [(0, .iload_n 1, 1), (1, .ifCond .lt 17, 3), (4, .iload_n 1, 1), (5, .iconst 1, 1), (6, .aload_n 0, 1), (7, .getfield 9, 3), (10, .ishl, 1), (11, .if_icmp .ge 7, 3), (14, .iconst 1, 1), (15, .goto 4, 3), (18, .iconst 0, 1), (19, .ireturn, 1)]
set_option maxRecDepth 100000 in
theorem okX8_isInputWord : ∀ q ∈ pX8_isInputWord, decode cX8_isInputWord q.1 = .ok q.2 := by decide +kernel
def pX8_noteMoreOfACircuit : List (Nat × Instr × Nat) := [(0, .aload_n 0, 1), (1, .iconst 0, 1), (2, .putfield 83, 3), (5, .aload_n 0, 1), (6, .iconst 0, 1), (7, .putfield 87, 3), (10, .return_, 1)]
set_option maxRecDepth 100000 in
theorem okX8_noteMoreOfACircuit : ∀ q ∈ pX8_noteMoreOfACircuit, decode cX8_noteMoreOfACircuit q.1 = .ok q.2 := by decide +kernel
def pX8_noteNewCircuit : List (Nat × Instr × Nat) := [(0, .aload_n 0, 1), (1, .getfield 37, 3), (4, .iconst 1, 1), (5, .putfield 224, 3), (8, .aload_n 0, 1), (9, .invokevirtual 111, 3), (12, .return_, 1)]
set_option maxRecDepth 100000 in
theorem okX8_noteNewCircuit : ∀ q ∈ pX8_noteNewCircuit, decode cX8_noteNewCircuit q.1 = .ok q.2 := by decide +kernel
def pX8_bringUpGroups : List (Nat × Instr × Nat) := [(0, .aload_n 0, 1), (1, .getfield 83, 3), (4, .ifCond .ne 23, 3), (7, .aload_n 0, 1), (8, .getfield 44, 3), (11, .aload_n 0, 1), (12, .getfield 37, 3), (15, .aload_n 0, 1), (16, .getfield 28, 3), (19, .invokevirtual 227, 3), (22, .aload_n 0, 1), (23, .iconst 1, 1), (24, .putfield 83, 3), (27, .return_, 1)]
set_option maxRecDepth 100000 in
theorem okX8_bringUpGroups : ∀ q ∈ pX8_bringUpGroups, decode cX8_bringUpGroups q.1 = .ok q.2 := by decide +kernel
def pX8_bothHaveOut : List (Nat × Instr × Nat) := [(0, .iload_n 1, 1), (1, .ifCond .lt 29, 3), (4, .iload_n 1, 1), (5, .aload_n 0, 1), (6, .getfield 18, 3), (9, .getfield 114, 3), (12, .if_icmp .ge 18, 3), (15, .iload_n 1, 1), (16, .aload_n 0, 1), (17, .getfield 22, 3), (20, .getfield 114, 3), (23, .if_icmp .ge 7, 3), (26, .iconst 1, 1), (27, .goto 4, 3), (30, .iconst 0, 1), (31, .ireturn, 1)]
set_option maxRecDepth 100000 in
theorem okX8_bothHaveOut : ∀ q ∈ pX8_bothHaveOut, decode cX8_bothHaveOut q.1 = .ok q.2 := by decide +kernel
def pX8_firstWordApart : List (Nat × Instr × Nat) := [(0, .aload_n 0, 1), (1, .getfield 18, 3), (4, .aload_n 0, 1), (5, .getfield 18, 3), (8, .getfield 230, 3), (11, .iload_n 1, 1), (12, .iaload, 1), (13, .invokevirtual 156, 3), (16, .istore_n 2, 1), (17, .aload_n 0, 1), (18, .getfield 22, 3), (21, .aload_n 0, 1), (22, .getfield 22, 3), (25, .getfield 230, 3), (28, .iload_n 1, 1), (29, .iaload, 1), (30, .invokevirtual 156, 3), (33, .istore_n 3, 1), (34, .aload_n 0, 1), (35, .getfield 37, 3), (38, .iload_n 2, 1), (39, .iload_n 3, 1), (40, .invokevirtual 233, 3), (43, .ireturn, 1)]
set_option maxRecDepth 100000 in
theorem okX8_firstWordApart : ∀ q ∈ pX8_firstWordApart, decode cX8_firstWordApart q.1 = .ok q.2 := by decide +kernel
end
section
def pX9_init : List (Nat × Instr × Nat) := [(0, .aload_n 0, 1), (1, .invokespecial 1, 3), (4, .aload_n 0, 1), (5, .iconst 4, 1), (6, .putfield 7, 3), (9, .aload_n 0, 1), (10, .iconst 2, 1), (11, .newarray .int, 2), (13, .putfield 13, 3), (16, .aload_n 0, 1), (17, .iconst 2, 1), (18, .newarray .int, 2), (20, .putfield 17, 3), (23, .aload_n 0, 1), (24, .iconst 2, 1), (25, .bipush 120, 2), (27, .multianewarray 20 2, 4), (31, .putfield 22, 3), (34, .aload_n 0, 1), (35, .iconst 2, 1), (36, .bipush 120, 2), (38, .multianewarray 20 2, 4), (42, .putfield 25, 3), (45, .aload_n 0, 1), (46, .iconst 2, 1), (47, .bipush 120, 2), (49, .multianewarray 20 2, 4), (53, .putfield 28, 3), (56, .aload_n 0, 1), (57, .iconst 2, 1), (58, .bipush 120, 2), (60, .multianewarray 20 2, 4), (64, .putfield 31, 3), (67, .aload_n 0, 1), (68, .iconst 2, 1), (69, .bipush 10, 2), (71, .multianewarray 20 2, 4), (75, .putfield 34, 3), (78, .aload_n 0, 1), (79, .iconst 2, 1), (80, .bipush 120, 2), (82, .multianewarray 20 2, 4), (86, .putfield 37, 3), (89, .aload_n 0, 1), (90, .sipush 1000, 3), (93, .newarray .int, 2), (95, .putfield 40, 3), (98, .aload_n 0, 1), (99, .sipush 1000, 3), (102, .newarray .int, 2), (104, .putfield 43, 3), (107, .aload_n 0, 1), (108, .sipush 1000, 3), (111, .bipush 64, 2), (113, .multianewarray 46 2, 4), (117, .putfield 48, 3), (120, .aload_n 0, 1), (121, .bipush 64, 2), (123, .newarray .long, 2), (125, .putfield 51, 3), (128, .aload_n 0, 1), (129, .sipush 4096, 3), (132, .newarray .int, 2), (134, .putfield 55, 3), (137, .aload_n 0, 1), (138, .sipush 1000, 3), (141, .newarray .int, 2), (143, .putfield 58, 3), (146, .aload_n 0, 1), (147, .sipush 3000, 3), (150, .newarray .byte, 2), (152, .putfield 61, 3), (155, .aload_n 0, 1), (156, .iconst (-1), 1), (157, .putfield 65, 3), (160, .aload_n 0, 1), (161, .iconst 5, 1), (162, .newarray .int, 2), (164, .putfield 68, 3), (167, .aload_n 0, 1), (168, .iconst 5, 1), (169, .newarray .int, 2), (171, .putfield 71, 3), (174, .aload_n 0, 1), (175, .sipush 1002, 3), (178, .newarray .int, 2), (180, .putfield 74, 3), (183, .aload_n 0, 1), (184, .sipush 1002, 3), (187, .newarray .int, 2), (189, .putfield 77, 3), (192, .aload_n 0, 1), (193, .bipush 120, 2), (195, .iconst 3, 1), (196, .multianewarray 20 2, 4), (200, .putfield 80, 3), (203, .aload_n 0, 1), (204, .bipush 120, 2), (206, .iconst 3, 1), (207, .multianewarray 20 2, 4), (211, .putfield 83, 3), (214, .aload_n 0, 1), (215, .bipush 10, 2), (217, .newarray .int, 2), (219, .putfield 86, 3), (222, .aload_n 0, 1), (223, .bipush 10, 2), (225, .newarray .int, 2), (227, .putfield 89, 3), (230, .aload_n 0, 1), (231, .bipush 120, 2), (233, .newarray .boolean, 2), (235, .putfield 92, 3), (238, .aload_n 0, 1), (239, .sipush 1002, 3), (242, .newarray .int, 2), (244, .putfield 96, 3), (247, .aload_n 0, 1), (248, .sipush 1002, 3), (251, .newarray .boolean, 2), (253, .putfield 99, 3), (256, .aload_n 0, 1), (257, .sipush 1000, 3), (260, .newarray .boolean, 2), (262, .putfield 102, 3), (265, .return_, 1)]
set_option maxRecDepth 100000 in
theorem okX9_init : ∀ q ∈ pX9_init, decode cX9_init q.1 = .ok q.2 := by decide +kernel
def pX9_words : List (Nat × Instr × Nat) := [(0, .iconst 1, 1), (1, .aload_n 0, 1), (2, .getfield 7, 3), (5, .ishl, 1), (6, .ireturn, 1)]
set_option maxRecDepth 100000 in
theorem okX9_words : ∀ q ∈ pX9_words, decode cX9_words q.1 = .ok q.2 := by decide +kernel
def pX9_isCircuit : List (Nat × Instr × Nat) := [(0, .iload_n 0, 1), (1, .ifCond .eq 8, 3), (4, .iload_n 0, 1), (5, .iconst 1, 1), (6, .if_icmp .ne 7, 3), (9, .iconst 1, 1), (10, .goto 4, 3), (13, .iconst 0, 1), (14, .ireturn, 1)]
set_option maxRecDepth 100000 in
theorem okX9_isCircuit : ∀ q ∈ pX9_isCircuit, decode cX9_isCircuit q.1 = .ok q.2 := by decide +kernel
def pX9_changed : List (Nat × Instr × Nat) := [(0, .aload_n 0, 1), (1, .iconst 0, 1), (2, .putfield 108, 3), (5, .aload_n 0, 1), (6, .iconst 0, 1), (7, .putfield 112, 3), (10, .return_, 1)]
set_option maxRecDepth 100000 in
theorem okX9_changed : ∀ q ∈ pX9_changed, decode cX9_changed q.1 = .ok q.2 := by decide +kernel
def pX9_empty : List (Nat × Instr × Nat) := [(0, .aload_n 0, 1), (1, .getfield 13, 3), (4, .iload_n 1, 1), (5, .iconst 0, 1), (6, .iastore, 1), (7, .aload_n 0, 1), (8, .getfield 17, 3), (11, .iload_n 1, 1), (12, .iconst 0, 1), (13, .iastore, 1), (14, .aload_n 0, 1), (15, .invokevirtual 115, 3), (18, .return_, 1)]
set_option maxRecDepth 100000 in
theorem okX9_empty : ∀ q ∈ pX9_empty, decode cX9_empty q.1 = .ok q.2 := by decide +kernel
def pX9_inputs : List (Nat × Instr × Nat) := [(0, .iload_n 1, 1), (1, .iconst 1, 1), (2, .if_icmp .lt 9, 3), (5, .iload_n 1, 1), (6, .bipush 12, 2), (8, .if_icmp .le 5, 3), (11, .iconst 0, 1), (12, .ireturn, 1), (13, .aload_n 0, 1), (14, .iload_n 1, 1), (15, .putfield 7, 3), (18, .aload_n 0, 1), (19, .iconst 0, 1), (20, .invokevirtual 118, 3), (23, .aload_n 0, 1), (24, .iconst 1, 1), (25, .invokevirtual 118, 3), (28, .aload_n 0, 1), (29, .invokevirtual 122, 3), (32, .pop, 1), (33, .iconst 1, 1), (34, .ireturn, 1)]
set_option maxRecDepth 100000 in
theorem okX9_inputs : ∀ q ∈ pX9_inputs, decode cX9_inputs q.1 = .ok q.2 := by decide +kernel
def pX9_has : List (Nat × Instr × Nat) := [(0, .iload_n 2, 1), (1, .ifCond .ge 9, 3), (4, .iload_n 2, 1), (5, .iconst (-1), 1), (6, .ixor, 1), (7, .goto 4, 3), (10, .iload_n 2, 1), (11, .istore_n 3, 1), (12, .iload_n 3, 1), (13, .aload_n 0, 1), (14, .getfield 7, 3), (17, .aload_n 0, 1), (18, .getfield 13, 3), (21, .iload_n 1, 1), (22, .iaload, 1), (23, .iadd, 1), (24, .if_icmp .ge 7, 3), (27, .iconst 1, 1), (28, .goto 4, 3), (31, .iconst 0, 1), (32, .ireturn, 1)]
set_option maxRecDepth 100000 in
theorem okX9_has : ∀ q ∈ pX9_has, decode cX9_has q.1 = .ok q.2 := by decide +kernel
def pX9_gate : List (Nat × Instr × Nat) := [(0, .iload_n 1, 1), (1, .invokestatic 126, 3), (4, .ifCond .eq 13, 3), (7, .iload_n 2, 1), (8, .ifCond .lt 9, 3), (11, .iload_n 2, 1), (12, .bipush 8, 2), (14, .if_icmp .le 5, 3), (17, .iconst (-1), 1), (18, .ireturn, 1), (19, .iload_n 2, 1), (20, .bipush 8, 2), (22, .if_icmp .eq 38, 3), (25, .aload_n 0, 1), (26, .iload_n 1, 1), (27, .iload_n 3, 1), (28, .invokevirtual 130, 3), (31, .ifCond .eq 33, 3), (34, .aload_n 0, 1), (35, .iload_n 1, 1), (36, .iload 4, 2), (38, .invokevirtual 130, 3), (41, .ifCond .eq 23, 3), (44, .iload_n 2, 1), (45, .bipush 6, 2), (47, .if_icmp .lt 13, 3), (50, .aload_n 0, 1), (51, .iload_n 1, 1), (52, .iload 5, 2), (54, .invokevirtual 130, 3), (57, .ifCond .eq 7, 3), (60, .iconst 1, 1), (61, .goto 4, 3), (64, .iconst 0, 1), (65, .istore 6, 2), (67, .iload 6, 2), (69, .ifCond .eq 14, 3), (72, .aload_n 0, 1), (73, .getfield 13, 3), (76, .iload_n 1, 1), (77, .iaload, 1), (78, .bipush 120, 2), (80, .if_icmp .ne 5, 3), (83, .iconst (-1), 1), (84, .ireturn, 1), (85, .aload_n 0, 1), (86, .getfield 13, 3), (89, .iload_n 1, 1), (90, .iaload, 1), (91, .istore 7, 2), (93, .aload_n 0, 1), (94, .getfield 22, 3), (97, .iload_n 1, 1), (98, .aaload, 1), (99, .iload 7, 2), (101, .iload_n 2, 1), (102, .iastore, 1), (103, .aload_n 0, 1), (104, .getfield 25, 3), (107, .iload_n 1, 1), (108, .aaload, 1), (109, .iload 7, 2), (111, .iload_n 3, 1), (112, .iastore, 1), (113, .aload_n 0, 1), (114, .getfield 28, 3), (117, .iload_n 1, 1), (118, .aaload, 1), (119, .iload 7, 2), (121, .iload 4, 2), (123, .iastore, 1), (124, .aload_n 0, 1), (125, .getfield 31, 3), (128, .iload_n 1, 1), (129, .aaload, 1), (130, .iload 7, 2), (132, .iload 5, 2), (134, .iastore, 1), (135, .aload_n 0, 1), (136, .getfield 13, 3), (139, .iload_n 1, 1), (140, .dup2, 1), (141, .iaload, 1), (142, .iconst 1, 1), (143, .iadd, 1), (144, .iastore, 1), (145, .aload_n 0, 1), (146, .invokevirtual 115, 3), (149, .aload_n 0, 1), (150, .getfield 7, 3), (153, .iload 7, 2), (155, .iadd, 1), (156, .ireturn, 1)]
set_option maxRecDepth 100000 in
theorem okX9_gate : ∀ q ∈ pX9_gate, decode cX9_gate q.1 = .ok q.2 := by decide +kernel
def pX9_output : List (Nat × Instr × Nat) := [(0, .iload_n 1, 1), (1, .invokestatic 126, 3), (4, .ifCond .eq 23, 3), (7, .aload_n 0, 1), (8, .iload_n 1, 1), (9, .iload_n 2, 1), (10, .invokevirtual 130, 3), (13, .ifCond .eq 14, 3), (16, .aload_n 0, 1), (17, .getfield 17, 3), (20, .iload_n 1, 1), (21, .iaload, 1), (22, .bipush 10, 2), (24, .if_icmp .ne 5, 3), (27, .iconst (-1), 1), (28, .ireturn, 1), (29, .aload_n 0, 1), (30, .getfield 34, 3), (33, .iload_n 1, 1), (34, .aaload, 1), (35, .aload_n 0, 1), (36, .getfield 17, 3), (39, .iload_n 1, 1), (40, .iaload, 1), (41, .iload_n 2, 1), (42, .iastore, 1), (43, .aload_n 0, 1), (44, .getfield 17, 3), (47, .iload_n 1, 1), (48, .dup2, 1), (49, .iaload, 1), (50, .iconst 1, 1), (51, .iadd, 1), (52, .iastore, 1), (53, .aload_n 0, 1), (54, .invokevirtual 115, 3), (57, .aload_n 0, 1), (58, .getfield 17, 3), (61, .iload_n 1, 1), (62, .iaload, 1), (63, .iconst 1, 1), (64, .isub, 1), (65, .ireturn, 1)]
set_option maxRecDepth 100000 in
theorem okX9_output : ∀ q ∈ pX9_output, decode cX9_output q.1 = .ok q.2 := by decide +kernel
def pX9_clear : List (Nat × Instr × Nat) := [(0, .iload_n 1, 1), (1, .invokestatic 126, 3), (4, .ifCond .ne 5, 3), (7, .iconst (-1), 1), (8, .ireturn, 1), (9, .aload_n 0, 1), (10, .getfield 13, 3), (13, .iload_n 1, 1), (14, .iaload, 1), (15, .istore_n 2, 1), (16, .aload_n 0, 1), (17, .iload_n 1, 1), (18, .invokevirtual 118, 3), (21, .iload_n 2, 1), (22, .ireturn, 1)]
set_option maxRecDepth 100000 in
theorem okX9_clear : ∀ q ∈ pX9_clear, decode cX9_clear q.1 = .ok q.2 := by decide +kernel
def pX9_feed : List (Nat × Instr × Nat) := [(0, .aload_n 0, 1), (1, .getfield 134, 3), (4, .sipush 2980, 3), (7, .if_icmp .le 5, 3), (10, .iconst (-1), 1), (11, .ireturn, 1), (12, .aload_n 0, 1), (13, .iload_n 1, 1), (14, .invokevirtual 137, 3), (17, .aload_n 0, 1), (18, .iload_n 2, 1), (19, .invokevirtual 137, 3), (22, .aload_n 0, 1), (23, .iload_n 3, 1), (24, .invokevirtual 137, 3), (27, .aload_n 0, 1), (28, .iload 4, 2), (30, .invokevirtual 137, 3), (33, .aload_n 0, 1), (34, .iload 5, 2), (36, .invokevirtual 137, 3), (39, .aload_n 0, 1), (40, .getfield 134, 3), (43, .ireturn, 1)]
set_option maxRecDepth 100000 in
theorem okX9_feed : ∀ q ∈ pX9_feed, decode cX9_feed q.1 = .ok q.2 := by decide +kernel
def pX9_put : List (Nat × Instr × Nat) := [(0, .bipush 24, 2), (2, .istore_n 2, 1), (3, .iload_n 2, 1), (4, .ifCond .lt 32, 3), (7, .aload_n 0, 1), (8, .getfield 61, 3), (11, .aload_n 0, 1), (12, .getfield 134, 3), (15, .iload_n 1, 1), (16, .iload_n 2, 1), (17, .ishr, 1), (18, .i2b, 1), (19, .bastore, 1), (20, .aload_n 0, 1), (21, .dup, 1), (22, .getfield 134, 3), (25, .iconst 1, 1), (26, .iadd, 1), (27, .putfield 134, 3), (30, .iinc 2 (-8), 3), (33, .goto (-30), 3), (36, .return_, 1)]
set_option maxRecDepth 100000 in
theorem okX9_put : ∀ q ∈ pX9_put, decode cX9_put q.1 = .ok q.2 := by decide +kernel
def pX9_end : List (Nat × Instr × Nat) := [(0, .iload_n 1, 1), (1, .ifCond .lt 11, 3), (4, .iload_n 1, 1), (5, .aload_n 0, 1), (6, .getfield 134, 3), (9, .if_icmp .le 5, 3), (12, .iconst (-1), 1), (13, .ireturn, 1), (14, .aload_n 0, 1), (15, .iload_n 1, 1), (16, .putfield 134, 3), (19, .iload_n 1, 1), (20, .ireturn, 1)]
set_option maxRecDepth 100000 in
theorem okX9_end : ∀ q ∈ pX9_end, decode cX9_end q.1 = .ok q.2 := by decide +kernel
def pX9_fails : List (Nat × Instr × Nat) := [(0, .aload_n 0, 1), (1, .getfield 140, 3), (4, .ifCond .eq 11, 3), (7, .iload_n 2, 1), (8, .aload_n 0, 1), (9, .getfield 65, 3), (12, .if_icmp .ge 13, 3), (15, .aload_n 0, 1), (16, .iload_n 1, 1), (17, .putfield 140, 3), (20, .aload_n 0, 1), (21, .iload_n 2, 1), (22, .putfield 65, 3), (25, .iconst 0, 1), (26, .ireturn, 1)]
set_option maxRecDepth 100000 in
theorem okX9_fails : ∀ q ∈ pX9_fails, decode cX9_fails q.1 = .ok q.2 := by decide +kernel
def pX9_is : List (Nat × Instr × Nat) := [(0, .aload_n 0, 1), (1, .getfield 143, 3), (4, .aload_n 0, 1), (5, .getfield 134, 3), (8, .if_icmp .ge 16, 3), (11, .aload_n 0, 1), (12, .getfield 61, 3), (15, .aload_n 0, 1), (16, .getfield 143, 3), (19, .baload, 1), (20, .iload_n 1, 1), (21, .if_icmp .eq 13, 3), (24, .aload_n 0, 1), (25, .iconst 1, 1), (26, .aload_n 0, 1), (27, .getfield 143, 3), (30, .invokevirtual 146, 3), (33, .ireturn, 1), (34, .aload_n 0, 1), (35, .dup, 1), (36, .getfield 143, 3), (39, .iconst 1, 1), (40, .iadd, 1), (41, .putfield 143, 3), (44, .iconst 1, 1), (45, .ireturn, 1)]
set_option maxRecDepth 100000 in
theorem okX9_is : ∀ q ∈ pX9_is, decode cX9_is q.1 = .ok q.2 := by decide +kernel
def pX9_number : List (Nat × Instr × Nat) := [(0, .aload_n 0, 1), (1, .getfield 143, 3), (4, .istore_n 1, 1), (5, .aload_n 0, 1), (6, .iconst 0, 1), (7, .putfield 149, 3), (10, .aload_n 0, 1), (11, .getfield 143, 3), (14, .aload_n 0, 1), (15, .getfield 134, 3), (18, .if_icmp .ge 96, 3), (21, .aload_n 0, 1), (22, .getfield 61, 3), (25, .aload_n 0, 1), (26, .getfield 143, 3), (29, .baload, 1), (30, .bipush 48, 2), (32, .if_icmp .lt 82, 3), (35, .aload_n 0, 1), (36, .getfield 61, 3), (39, .aload_n 0, 1), (40, .getfield 143, 3), (43, .baload, 1), (44, .bipush 57, 2), (46, .if_icmp .gt 68, 3), (49, .aload_n 0, 1), (50, .getfield 143, 3), (53, .iload_n 1, 1), (54, .isub, 1), (55, .bipush 9, 2), (57, .if_icmp .ge 57, 3), (60, .aload_n 0, 1), (61, .getfield 143, 3), (64, .iload_n 1, 1), (65, .iconst 1, 1), (66, .iadd, 1), (67, .if_icmp .ne 10, 3), (70, .aload_n 0, 1), (71, .getfield 149, 3), (74, .ifCond .eq 40, 3), (77, .aload_n 0, 1), (78, .bipush 10, 2), (80, .aload_n 0, 1), (81, .getfield 149, 3), (84, .imul, 1), (85, .aload_n 0, 1), (86, .getfield 61, 3), (89, .aload_n 0, 1), (90, .getfield 143, 3), (93, .baload, 1), (94, .iadd, 1), (95, .bipush 48, 2), (97, .isub, 1), (98, .putfield 149, 3), (101, .aload_n 0, 1), (102, .dup, 1), (103, .getfield 143, 3), (106, .iconst 1, 1), (107, .iadd, 1), (108, .putfield 143, 3), (111, .goto (-101), 3), (114, .aload_n 0, 1), (115, .getfield 143, 3), (118, .iload_n 1, 1), (119, .if_icmp .gt 15, 3), (122, .aload_n 0, 1), (123, .iconst 1, 1), (124, .aload_n 0, 1), (125, .getfield 143, 3), (128, .invokevirtual 146, 3), (131, .ifCond .eq 7, 3), (134, .iconst 1, 1), (135, .goto 4, 3), (138, .iconst 0, 1), (139, .ireturn, 1)]
set_option maxRecDepth 100000 in
theorem okX9_number : ∀ q ∈ pX9_number, decode cX9_number q.1 = .ok q.2 := by decide +kernel
def pX9_firstLine : List (Nat × Instr × Nat) := [(0, .aload_n 0, 1), (1, .bipush 97, 2), (3, .invokevirtual 152, 3), (6, .ifCond .eq 34, 3), (9, .aload_n 0, 1), (10, .bipush 97, 2), (12, .invokevirtual 152, 3), (15, .ifCond .eq 25, 3), (18, .aload_n 0, 1), (19, .bipush 103, 2), (21, .invokevirtual 152, 3), (24, .ifCond .eq 16, 3), (27, .aload_n 0, 1), (28, .bipush 32, 2), (30, .invokevirtual 152, 3), (33, .ifCond .eq 7, 3), (36, .iconst 1, 1), (37, .goto 4, 3), (40, .iconst 0, 1), (41, .istore_n 1, 1), (42, .iconst 0, 1), (43, .istore_n 2, 1), (44, .iload_n 2, 1), (45, .iconst 5, 1), (46, .if_icmp .ge 206, 3), (49, .iload_n 1, 1), (50, .ifCond .eq 202, 3), (53, .aload_n 0, 1), (54, .getfield 71, 3), (57, .iload_n 2, 1), (58, .aload_n 0, 1), (59, .getfield 143, 3), (62, .iastore, 1), (63, .aload_n 0, 1), (64, .invokevirtual 155, 3), (67, .istore_n 1, 1), (68, .aload_n 0, 1), (69, .getfield 68, 3), (72, .iload_n 2, 1), (73, .aload_n 0, 1), (74, .getfield 149, 3), (77, .iastore, 1), (78, .iload_n 1, 1), (79, .ifCond .eq 77, 3), (82, .iload_n 2, 1), (83, .ifCond .ne 13, 3), (86, .aload_n 0, 1), (87, .getfield 149, 3), (90, .sipush 1000, 3), (93, .if_icmp .gt 59, 3), (96, .iload_n 2, 1), (97, .iconst 1, 1), (98, .if_icmp .ne 14, 3), (101, .aload_n 0, 1), (102, .getfield 149, 3), (105, .aload_n 0, 1), (106, .getfield 7, 3), (109, .if_icmp .ne 43, 3), (112, .iload_n 2, 1), (113, .iconst 2, 1), (114, .if_icmp .ne 10, 3), (117, .aload_n 0, 1), (118, .getfield 149, 3), (121, .ifCond .ne 31, 3), (124, .iload_n 2, 1), (125, .iconst 3, 1), (126, .if_icmp .ne 12, 3), (129, .aload_n 0, 1), (130, .getfield 149, 3), (133, .bipush 10, 2), (135, .if_icmp .gt 17, 3), (138, .iload_n 2, 1), (139, .iconst 4, 1), (140, .if_icmp .ne 16, 3), (143, .aload_n 0, 1), (144, .getfield 149, 3), (147, .bipush 119, 2), (149, .if_icmp .le 7, 3), (152, .iconst 1, 1), (153, .goto 4, 3), (156, .iconst 0, 1), (157, .istore_n 3, 1), (158, .iload_n 3, 1), (159, .ifCond .eq 15, 3), (162, .aload_n 0, 1), (163, .iconst 2, 1), (164, .aload_n 0, 1), (165, .getfield 71, 3), (168, .iload_n 2, 1), (169, .iaload, 1), (170, .invokevirtual 146, 3), (173, .pop, 1), (174, .iload_n 1, 1), (175, .ifCond .eq 42, 3), (178, .iload_n 2, 1), (179, .iconst 4, 1), (180, .if_icmp .ne 37, 3), (183, .aload_n 0, 1), (184, .getfield 68, 3), (187, .iconst 0, 1), (188, .iaload, 1), (189, .aload_n 0, 1), (190, .getfield 68, 3), (193, .iconst 1, 1), (194, .iaload, 1), (195, .aload_n 0, 1), (196, .getfield 68, 3), (199, .iconst 4, 1), (200, .iaload, 1), (201, .iadd, 1), (202, .if_icmp .ge 15, 3), (205, .aload_n 0, 1), (206, .iconst 2, 1), (207, .aload_n 0, 1), (208, .getfield 71, 3), (211, .iconst 0, 1), (212, .iaload, 1), (213, .invokevirtual 146, 3), (216, .pop, 1), (217, .iload_n 1, 1), (218, .ifCond .eq 26, 3), (221, .aload_n 0, 1), (222, .iload_n 2, 1), (223, .iconst 4, 1), (224, .if_icmp .ge 8, 3), (227, .bipush 32, 2), (229, .goto 5, 3), (232, .bipush 10, 2), (234, .invokevirtual 152, 3), (237, .ifCond .eq 7, 3), (240, .iconst 1, 1), (241, .goto 4, 3), (244, .iconst 0, 1), (245, .istore_n 1, 1), (246, .iinc 2 1, 3), (249, .goto (-205), 3), (252, .aload_n 0, 1), (253, .getfield 140, 3), (256, .ifCond .ne 7, 3), (259, .iconst 1, 1), (260, .goto 4, 3), (263, .iconst 0, 1), (264, .ireturn, 1)]
set_option maxRecDepth 100000 in
theorem okX9_firstLine : ∀ q ∈ pX9_firstLine, decode cX9_firstLine q.1 = .ok q.2 := by decide +kernel
def pX9_defines : List (Nat × Instr × Nat) := [(0, .aload_n 0, 1), (1, .getfield 149, 3), (4, .iconst 2, 1), (5, .irem, 1), (6, .iconst 1, 1), (7, .if_icmp .eq 42, 3), (10, .aload_n 0, 1), (11, .getfield 149, 3), (14, .iconst 2, 1), (15, .if_icmp .lt 34, 3), (18, .aload_n 0, 1), (19, .getfield 149, 3), (22, .iconst 2, 1), (23, .aload_n 0, 1), (24, .getfield 68, 3), (27, .iconst 0, 1), (28, .iaload, 1), (29, .imul, 1), (30, .iconst 1, 1), (31, .iadd, 1), (32, .if_icmp .gt 17, 3), (35, .aload_n 0, 1), (36, .getfield 74, 3), (39, .aload_n 0, 1), (40, .getfield 149, 3), (43, .iconst 2, 1), (44, .idiv, 1), (45, .iaload, 1), (46, .ifCond .eq 10, 3), (49, .aload_n 0, 1), (50, .iconst 3, 1), (51, .iload_n 1, 1), (52, .invokevirtual 146, 3), (55, .ireturn, 1), (56, .aload_n 0, 1), (57, .getfield 74, 3), (60, .aload_n 0, 1), (61, .getfield 149, 3), (64, .iconst 2, 1), (65, .idiv, 1), (66, .iload_n 2, 1), (67, .iastore, 1), (68, .aload_n 0, 1), (69, .getfield 77, 3), (72, .aload_n 0, 1), (73, .getfield 149, 3), (76, .iconst 2, 1), (77, .idiv, 1), (78, .iload_n 3, 1), (79, .iastore, 1), (80, .iconst 1, 1), (81, .ireturn, 1)]
set_option maxRecDepth 100000 in
theorem okX9_defines : ∀ q ∈ pX9_defines, decode cX9_defines q.1 = .ok q.2 := by decide +kernel
def pX9_uses : List (Nat × Instr × Nat) := [(0, .aload_n 0, 1), (1, .getfield 149, 3), (4, .iconst 2, 1), (5, .aload_n 0, 1), (6, .getfield 68, 3), (9, .iconst 0, 1), (10, .iaload, 1), (11, .imul, 1), (12, .iconst 1, 1), (13, .iadd, 1), (14, .if_icmp .le 12, 3), (17, .aload_n 0, 1), (18, .iconst 4, 1), (19, .iload_n 1, 1), (20, .invokevirtual 146, 3), (23, .ifCond .eq 7, 3), (26, .iconst 1, 1), (27, .goto 4, 3), (30, .iconst 0, 1), (31, .ireturn, 1)]
set_option maxRecDepth 100000 in
theorem okX9_uses : ∀ q ∈ pX9_uses, decode cX9_uses q.1 = .ok q.2 := by decide +kernel
def pX9_lines : List (Nat × Instr × Nat) := [(0, .iconst 0, 1), (1, .istore_n 1, 1), (2, .iload_n 1, 1), (3, .sipush 1002, 3), (6, .if_icmp .ge 16, 3), (9, .aload_n 0, 1), (10, .getfield 74, 3), (13, .iload_n 1, 1), (14, .iconst 0, 1), (15, .iastore, 1), (16, .iinc 1 1, 3), (19, .goto (-17), 3), (22, .iconst 0, 1), (23, .istore_n 1, 1), (24, .iload_n 1, 1), (25, .aload_n 0, 1), (26, .getfield 68, 3), (29, .iconst 1, 1), (30, .iaload, 1), (31, .if_icmp .ge 42, 3), (34, .aload_n 0, 1), (35, .getfield 143, 3), (38, .istore_n 2, 1), (39, .aload_n 0, 1), (40, .invokevirtual 155, 3), (43, .ifCond .eq 22, 3), (46, .aload_n 0, 1), (47, .iload_n 2, 1), (48, .iconst 1, 1), (49, .iload_n 1, 1), (50, .invokevirtual 159, 3), (53, .ifCond .eq 12, 3), (56, .aload_n 0, 1), (57, .bipush 10, 2), (59, .invokevirtual 152, 3), (62, .ifCond .ne 5, 3), (65, .iconst 0, 1), (66, .ireturn, 1), (67, .iinc 1 1, 3), (70, .goto (-46), 3), (73, .iconst 0, 1), (74, .istore_n 1, 1), (75, .iload_n 1, 1), (76, .aload_n 0, 1), (77, .getfield 68, 3), (80, .iconst 3, 1), (81, .iaload, 1), (82, .if_icmp .ge 60, 3), (85, .aload_n 0, 1), (86, .getfield 89, 3), (89, .iload_n 1, 1), (90, .aload_n 0, 1), (91, .getfield 143, 3), (94, .iastore, 1), (95, .aload_n 0, 1), (96, .invokevirtual 155, 3), (99, .ifCond .eq 25, 3), (102, .aload_n 0, 1), (103, .aload_n 0, 1), (104, .getfield 89, 3), (107, .iload_n 1, 1), (108, .iaload, 1), (109, .invokevirtual 163, 3), (112, .ifCond .eq 12, 3), (115, .aload_n 0, 1), (116, .bipush 10, 2), (118, .invokevirtual 152, 3), (121, .ifCond .ne 5, 3), (124, .iconst 0, 1), (125, .ireturn, 1), (126, .aload_n 0, 1), (127, .getfield 86, 3), (130, .iload_n 1, 1), (131, .aload_n 0, 1), (132, .getfield 149, 3), (135, .iastore, 1), (136, .iinc 1 1, 3), (139, .goto (-64), 3), (142, .iconst 0, 1), (143, .istore_n 1, 1), (144, .iload_n 1, 1), (145, .aload_n 0, 1), (146, .getfield 68, 3), (149, .iconst 4, 1), (150, .iaload, 1), (151, .if_icmp .ge 110, 3), (154, .iconst 0, 1), (155, .istore_n 2, 1), (156, .iload_n 2, 1), (157, .iconst 3, 1), (158, .if_icmp .ge 97, 3), (161, .aload_n 0, 1), (162, .getfield 83, 3), (165, .iload_n 1, 1), (166, .aaload, 1), (167, .iload_n 2, 1), (168, .aload_n 0, 1), (169, .getfield 143, 3), (172, .iastore, 1), (173, .aload_n 0, 1), (174, .invokevirtual 155, 3), (177, .ifCond .eq 58, 3), (180, .iload_n 2, 1), (181, .ifCond .ne 20, 3), (184, .aload_n 0, 1), (185, .aload_n 0, 1), (186, .iload_n 1, 1), (187, .invokevirtual 166, 3), (190, .iconst 2, 1), (191, .iload_n 1, 1), (192, .invokevirtual 159, 3), (195, .ifCond .eq 40, 3), (198, .goto 18, 3), (201, .aload_n 0, 1), (202, .aload_n 0, 1), (203, .getfield 83, 3), (206, .iload_n 1, 1), (207, .aaload, 1), (208, .iload_n 2, 1), (209, .iaload, 1), (210, .invokevirtual 163, 3), (213, .ifCond .eq 22, 3), (216, .aload_n 0, 1), (217, .iload_n 2, 1), (218, .iconst 2, 1), (219, .if_icmp .ge 8, 3), (222, .bipush 32, 2), (224, .goto 5, 3), (227, .bipush 10, 2), (229, .invokevirtual 152, 3), (232, .ifCond .ne 5, 3), (235, .iconst 0, 1), (236, .ireturn, 1), (237, .aload_n 0, 1), (238, .getfield 80, 3), (241, .iload_n 1, 1), (242, .aaload, 1), (243, .iload_n 2, 1), (244, .aload_n 0, 1), (245, .getfield 149, 3), (248, .iastore, 1), (249, .iinc 2 1, 3), (252, .goto (-96), 3), (255, .iinc 1 1, 3), (258, .goto (-114), 3), (261, .aload_n 0, 1), (262, .getfield 143, 3), (265, .aload_n 0, 1), (266, .getfield 134, 3), (269, .if_icmp .eq 15, 3), (272, .aload_n 0, 1), (273, .iconst 1, 1), (274, .aload_n 0, 1), (275, .getfield 143, 3), (278, .invokevirtual 146, 3), (281, .ifCond .eq 7, 3), (284, .iconst 1, 1), (285, .goto 4, 3), (288, .iconst 0, 1), (289, .ireturn, 1)]
set_option maxRecDepth 100000 in
theorem okX9_lines : ∀ q ∈ pX9_lines, decode cX9_lines q.1 = .ok q.2 := by decide +kernel
def pX9_at0 : List (Nat × Instr × Nat) := [(0, .aload_n 0, 1), (1, .getfield 83, 3), (4, .iload_n 1, 1), (5, .aaload, 1), (6, .iconst 0, 1), (7, .iaload, 1), (8, .ireturn, 1)]
set_option maxRecDepth 100000 in
theorem okX9_at0 : ∀ q ∈ pX9_at0, decode cX9_at0 q.1 = .ok q.2 := by decide +kernel
def pX9_isDefined : List (Nat × Instr × Nat) := [(0, .iload_n 1, 1), (1, .iconst 2, 1), (2, .if_icmp .lt 14, 3), (5, .aload_n 0, 1), (6, .getfield 74, 3), (9, .iload_n 1, 1), (10, .iconst 2, 1), (11, .idiv, 1), (12, .iaload, 1), (13, .ifCond .eq 7, 3), (16, .iconst 1, 1), (17, .goto 4, 3), (20, .iconst 0, 1), (21, .ireturn, 1)]
set_option maxRecDepth 100000 in
theorem okX9_isDefined : ∀ q ∈ pX9_isDefined, decode cX9_isDefined q.1 = .ok q.2 := by decide +kernel
def pX9_allDefined : List (Nat × Instr × Nat) := [(0, .iconst 0, 1), (1, .istore_n 1, 1), (2, .iload_n 1, 1), (3, .aload_n 0, 1), (4, .getfield 68, 3), (7, .iconst 3, 1), (8, .iaload, 1), (9, .if_icmp .ge 34, 3), (12, .aload_n 0, 1), (13, .aload_n 0, 1), (14, .getfield 86, 3), (17, .iload_n 1, 1), (18, .iaload, 1), (19, .invokevirtual 170, 3), (22, .ifCond .ne 15, 3), (25, .aload_n 0, 1), (26, .iconst 5, 1), (27, .aload_n 0, 1), (28, .getfield 89, 3), (31, .iload_n 1, 1), (32, .iaload, 1), (33, .invokevirtual 146, 3), (36, .ireturn, 1), (37, .iinc 1 1, 3), (40, .goto (-38), 3), (43, .iconst 0, 1), (44, .istore_n 1, 1), (45, .iload_n 1, 1), (46, .aload_n 0, 1), (47, .getfield 68, 3), (50, .iconst 4, 1), (51, .iaload, 1), (52, .if_icmp .ge 51, 3), (55, .iconst 1, 1), (56, .istore_n 2, 1), (57, .iload_n 2, 1), (58, .iconst 3, 1), (59, .if_icmp .ge 38, 3), (62, .aload_n 0, 1), (63, .aload_n 0, 1), (64, .getfield 80, 3), (67, .iload_n 1, 1), (68, .aaload, 1), (69, .iload_n 2, 1), (70, .iaload, 1), (71, .invokevirtual 170, 3), (74, .ifCond .ne 17, 3), (77, .aload_n 0, 1), (78, .iconst 5, 1), (79, .aload_n 0, 1), (80, .getfield 83, 3), (83, .iload_n 1, 1), (84, .aaload, 1), (85, .iload_n 2, 1), (86, .iaload, 1), (87, .invokevirtual 146, 3), (90, .ireturn, 1), (91, .iinc 2 1, 3), (94, .goto (-37), 3), (97, .iinc 1 1, 3), (100, .goto (-55), 3), (103, .iconst 1, 1), (104, .ireturn, 1)]
set_option maxRecDepth 100000 in
theorem okX9_allDefined : ∀ q ∈ pX9_allDefined, decode cX9_allDefined q.1 = .ok q.2 := by decide +kernel
def pX9_needsItself : List (Nat × Instr × Nat) := [(0, .iconst 0, 1), (1, .istore_n 2, 1), (2, .iload_n 2, 1), (3, .aload_n 0, 1), (4, .getfield 68, 3), (7, .iconst 4, 1), (8, .iaload, 1), (9, .if_icmp .ge 16, 3), (12, .aload_n 0, 1), (13, .getfield 92, 3), (16, .iload_n 2, 1), (17, .iconst 0, 1), (18, .bastore, 1), (19, .iinc 2 1, 3), (22, .goto (-20), 3), (25, .aload_n 0, 1), (26, .iload_n 1, 1), (27, .invokevirtual 173, 3), (30, .pop, 1), (31, .iconst 1, 1), (32, .istore_n 2, 1), (33, .iload_n 2, 1), (34, .ifCond .eq 53, 3), (37, .iconst 0, 1), (38, .istore_n 2, 1), (39, .iconst 0, 1), (40, .istore_n 3, 1), (41, .iload_n 3, 1), (42, .aload_n 0, 1), (43, .getfield 68, 3), (46, .iconst 4, 1), (47, .iaload, 1), (48, .if_icmp .ge 36, 3), (51, .aload_n 0, 1), (52, .getfield 92, 3), (55, .iload_n 3, 1), (56, .baload, 1), (57, .ifCond .eq 11, 3), (60, .aload_n 0, 1), (61, .iload_n 3, 1), (62, .invokevirtual 173, 3), (65, .ifCond .ne 7, 3), (68, .iload_n 2, 1), (69, .ifCond .eq 7, 3), (72, .iconst 1, 1), (73, .goto 4, 3), (76, .iconst 0, 1), (77, .istore_n 2, 1), (78, .iinc 3 1, 3), (81, .goto (-40), 3), (84, .goto (-51), 3), (87, .aload_n 0, 1), (88, .getfield 92, 3), (91, .iload_n 1, 1), (92, .baload, 1), (93, .ireturn, 1)]
set_option maxRecDepth 100000 in
theorem okX9_needsItself : ∀ q ∈ pX9_needsItself, decode cX9_needsItself q.1 = .ok q.2 := by decide +kernel
def pX9_mark : List (Nat × Instr × Nat) := [(0, .iconst 0, 1), (1, .istore_n 2, 1), (2, .iconst 1, 1), (3, .istore_n 3, 1), (4, .iload_n 3, 1), (5, .iconst 3, 1), (6, .if_icmp .ge 67, 3), (9, .aload_n 0, 1), (10, .getfield 80, 3), (13, .iload_n 1, 1), (14, .aaload, 1), (15, .iload_n 3, 1), (16, .iaload, 1), (17, .iconst 2, 1), (18, .idiv, 1), (19, .istore 4, 2), (21, .iload 4, 2), (23, .ifCond .le 44, 3), (26, .aload_n 0, 1), (27, .getfield 74, 3), (30, .iload 4, 2), (32, .iaload, 1), (33, .iconst 2, 1), (34, .if_icmp .ne 33, 3), (37, .aload_n 0, 1), (38, .getfield 92, 3), (41, .aload_n 0, 1), (42, .getfield 77, 3), (45, .iload 4, 2), (47, .iaload, 1), (48, .baload, 1), (49, .ifCond .ne 18, 3), (52, .aload_n 0, 1), (53, .getfield 92, 3), (56, .aload_n 0, 1), (57, .getfield 77, 3), (60, .iload 4, 2), (62, .iaload, 1), (63, .iconst 1, 1), (64, .bastore, 1), (65, .iconst 1, 1), (66, .istore_n 2, 1), (67, .iinc 3 1, 3), (70, .goto (-66), 3), (73, .iload_n 2, 1), (74, .ireturn, 1)]
set_option maxRecDepth 100000 in
theorem okX9_mark : ∀ q ∈ pX9_mark, decode cX9_mark q.1 = .ok q.2 := by decide +kernel
def pX9_signalOf : List (Nat × Instr × Nat) := [(0, .aload_n 0, 1), (1, .getfield 96, 3), (4, .iload_n 1, 1), (5, .iconst 2, 1), (6, .idiv, 1), (7, .iaload, 1), (8, .istore_n 2, 1), (9, .iload_n 1, 1), (10, .iconst 2, 1), (11, .irem, 1), (12, .iconst 1, 1), (13, .if_icmp .ne 9, 3), (16, .iload_n 2, 1), (17, .iconst (-1), 1), (18, .ixor, 1), (19, .goto 4, 3), (22, .iload_n 2, 1), (23, .ireturn, 1)]
set_option maxRecDepth 100000 in
theorem okX9_signalOf : ∀ q ∈ pX9_signalOf, decode cX9_signalOf q.1 = .ok q.2 := by decide +kernel
def pX9_becomes : List (Nat × Instr × Nat) := [(0, .aload_n 0, 1), (1, .iload_n 1, 1), (2, .invokevirtual 118, 3), (5, .iconst 0, 1), (6, .istore_n 2, 1), (7, .iconst 0, 1), (8, .istore_n 3, 1), (9, .iload_n 3, 1), (10, .aload_n 0, 1), (11, .getfield 68, 3), (14, .iconst 3, 1), (15, .iaload, 1), (16, .if_icmp .ge 29, 3), (19, .iload_n 2, 1), (20, .ifCond .ne 13, 3), (23, .aload_n 0, 1), (24, .getfield 86, 3), (27, .iload_n 3, 1), (28, .iaload, 1), (29, .iconst 2, 1), (30, .if_icmp .ge 7, 3), (33, .iconst 1, 1), (34, .goto 4, 3), (37, .iconst 0, 1), (38, .istore_n 2, 1), (39, .iinc 3 1, 3), (42, .goto (-33), 3), (45, .iconst 0, 1), (46, .istore_n 3, 1), (47, .iload_n 3, 1), (48, .aload_n 0, 1), (49, .getfield 68, 3), (52, .iconst 4, 1), (53, .iaload, 1), (54, .if_icmp .ge 43, 3), (57, .iload_n 2, 1), (58, .ifCond .ne 27, 3), (61, .aload_n 0, 1), (62, .getfield 80, 3), (65, .iload_n 3, 1), (66, .aaload, 1), (67, .iconst 1, 1), (68, .iaload, 1), (69, .iconst 2, 1), (70, .if_icmp .lt 15, 3), (73, .aload_n 0, 1), (74, .getfield 80, 3), (77, .iload_n 3, 1), (78, .aaload, 1), (79, .iconst 2, 1), (80, .iaload, 1), (81, .iconst 2, 1), (82, .if_icmp .ge 7, 3), (85, .iconst 1, 1), (86, .goto 4, 3), (89, .iconst 0, 1), (90, .istore_n 2, 1), (91, .iinc 3 1, 3), (94, .goto (-47), 3), (97, .iconst 0, 1), (98, .istore_n 3, 1), (99, .iload_n 3, 1), (100, .sipush 1002, 3), (103, .if_icmp .ge 42, 3), (106, .aload_n 0, 1), (107, .getfield 99, 3), (110, .iload_n 3, 1), (111, .aload_n 0, 1), (112, .getfield 74, 3), (115, .iload_n 3, 1), (116, .iaload, 1), (117, .iconst 1, 1), (118, .if_icmp .ne 7, 3), (121, .iconst 1, 1), (122, .goto 4, 3), (125, .iconst 0, 1), (126, .bastore, 1), (127, .aload_n 0, 1), (128, .getfield 96, 3), (131, .iload_n 3, 1), (132, .aload_n 0, 1), (133, .getfield 77, 3), (136, .iload_n 3, 1), (137, .iaload, 1), (138, .iastore, 1), (139, .iinc 3 1, 3), (142, .goto (-43), 3), (145, .iload_n 2, 1), (146, .ifCond .eq 26, 3), (149, .aload_n 0, 1), (150, .getfield 99, 3), (153, .iconst 0, 1), (154, .iconst 1, 1), (155, .bastore, 1), (156, .aload_n 0, 1), (157, .getfield 96, 3), (160, .iconst 0, 1), (161, .aload_n 0, 1), (162, .iload_n 1, 1), (163, .bipush 8, 2), (165, .iconst 0, 1), (166, .iconst 0, 1), (167, .iconst 0, 1), (168, .invokevirtual 176, 3), (171, .iastore, 1), (172, .iconst 0, 1), (173, .istore_n 3, 1), (174, .iload_n 3, 1), (175, .aload_n 0, 1), (176, .getfield 68, 3), (179, .iconst 4, 1), (180, .iaload, 1), (181, .if_icmp .ge 136, 3), (184, .iconst 0, 1), (185, .istore 4, 2), (187, .aload_n 0, 1), (188, .getfield 99, 3), (191, .aload_n 0, 1), (192, .getfield 80, 3), (195, .iload 4, 2), (197, .aaload, 1), (198, .iconst 0, 1), (199, .iaload, 1), (200, .iconst 2, 1), (201, .idiv, 1), (202, .baload, 1), (203, .ifCond .ne 41, 3), (206, .aload_n 0, 1), (207, .getfield 99, 3), (210, .aload_n 0, 1), (211, .getfield 80, 3), (214, .iload 4, 2), (216, .aaload, 1), (217, .iconst 1, 1), (218, .iaload, 1), (219, .iconst 2, 1), (220, .idiv, 1), (221, .baload, 1), (222, .ifCond .eq 22, 3), (225, .aload_n 0, 1), (226, .getfield 99, 3), (229, .aload_n 0, 1), (230, .getfield 80, 3), (233, .iload 4, 2), (235, .aaload, 1), (236, .iconst 2, 1), (237, .iaload, 1), (238, .iconst 2, 1), (239, .idiv, 1), (240, .baload, 1), (241, .ifCond .ne 9, 3), (244, .iinc 4 1, 3), (247, .goto (-60), 3), (250, .aload_n 0, 1), (251, .getfield 80, 3), (254, .iload 4, 2), (256, .aaload, 1), (257, .iconst 0, 1), (258, .iaload, 1), (259, .iconst 2, 1), (260, .idiv, 1), (261, .istore 5, 2), (263, .aload_n 0, 1), (264, .getfield 96, 3), (267, .iload 5, 2), (269, .aload_n 0, 1), (270, .iload_n 1, 1), (271, .iconst 0, 1), (272, .aload_n 0, 1), (273, .aload_n 0, 1), (274, .getfield 80, 3), (277, .iload 4, 2), (279, .aaload, 1), (280, .iconst 1, 1), (281, .iaload, 1), (282, .invokevirtual 180, 3), (285, .aload_n 0, 1), (286, .aload_n 0, 1), (287, .getfield 80, 3), (290, .iload 4, 2), (292, .aaload, 1), (293, .iconst 2, 1), (294, .iaload, 1), (295, .invokevirtual 180, 3), (298, .iconst 0, 1), (299, .invokevirtual 176, 3), (302, .iastore, 1), (303, .aload_n 0, 1), (304, .getfield 99, 3), (307, .iload 5, 2), (309, .iconst 1, 1), (310, .bastore, 1), (311, .iinc 3 1, 3), (314, .goto (-140), 3), (317, .iconst 0, 1), (318, .istore 4, 2), (320, .iload 4, 2), (322, .aload_n 0, 1), (323, .getfield 68, 3), (326, .iconst 3, 1), (327, .iaload, 1), (328, .if_icmp .ge 26, 3), (331, .aload_n 0, 1), (332, .iload_n 1, 1), (333, .aload_n 0, 1), (334, .aload_n 0, 1), (335, .getfield 86, 3), (338, .iload 4, 2), (340, .iaload, 1), (341, .invokevirtual 180, 3), (344, .invokevirtual 183, 3), (347, .pop, 1), (348, .iinc 4 1, 3), (351, .goto (-31), 3), (354, .return_, 1)]
set_option maxRecDepth 100000 in
theorem okX9_becomes : ∀ q ∈ pX9_becomes, decode cX9_becomes q.1 = .ok q.2 := by decide +kernel
def pX9_read : List (Nat × Instr × Nat) := [(0, .iload_n 1, 1), (1, .invokestatic 126, 3), (4, .ifCond .ne 5, 3), (7, .iconst (-1), 1), (8, .ireturn, 1), (9, .aload_n 0, 1), (10, .iconst 0, 1), (11, .putfield 143, 3), (14, .aload_n 0, 1), (15, .iconst 0, 1), (16, .putfield 140, 3), (19, .aload_n 0, 1), (20, .iconst (-1), 1), (21, .putfield 65, 3), (24, .aload_n 0, 1), (25, .invokevirtual 187, 3), (28, .ifCond .eq 21, 3), (31, .aload_n 0, 1), (32, .invokevirtual 190, 3), (35, .ifCond .eq 14, 3), (38, .aload_n 0, 1), (39, .invokevirtual 193, 3), (42, .ifCond .eq 7, 3), (45, .iconst 1, 1), (46, .goto 4, 3), (49, .iconst 0, 1), (50, .istore_n 2, 1), (51, .iconst 0, 1), (52, .istore_n 3, 1), (53, .iload_n 3, 1), (54, .aload_n 0, 1), (55, .getfield 68, 3), (58, .iconst 4, 1), (59, .iaload, 1), (60, .if_icmp .ge 36, 3), (63, .iload_n 2, 1), (64, .ifCond .eq 32, 3), (67, .aload_n 0, 1), (68, .iload_n 3, 1), (69, .invokevirtual 196, 3), (72, .ifCond .eq 18, 3), (75, .aload_n 0, 1), (76, .bipush 6, 2), (78, .aload_n 0, 1), (79, .getfield 83, 3), (82, .iload_n 3, 1), (83, .aaload, 1), (84, .iconst 0, 1), (85, .iaload, 1), (86, .invokevirtual 146, 3), (89, .istore_n 2, 1), (90, .iinc 3 1, 3), (93, .goto (-40), 3), (96, .aload_n 0, 1), (97, .iconst 0, 1), (98, .putfield 134, 3), (101, .iload_n 2, 1), (102, .ifCond .eq 8, 3), (105, .aload_n 0, 1), (106, .iload_n 1, 1), (107, .invokevirtual 199, 3), (110, .aload_n 0, 1), (111, .getfield 140, 3), (114, .ireturn, 1)]
set_option maxRecDepth 100000 in
theorem okX9_read : ∀ q ∈ pX9_read, decode cX9_read q.1 = .ok q.2 := by decide +kernel
def pX9_place : List (Nat × Instr × Nat) := [(0, .aload_n 0, 1), (1, .getfield 65, 3), (4, .ireturn, 1)]
set_option maxRecDepth 100000 in
theorem okX9_place : ∀ q ∈ pX9_place, decode cX9_place q.1 = .ok q.2 := by decide +kernel
def pX9_newNode : List (Nat × Instr × Nat) := [(0, .aload_n 0, 1), (1, .getfield 40, 3), (4, .aload_n 0, 1), (5, .getfield 202, 3), (8, .iload_n 1, 1), (9, .iastore, 1), (10, .aload_n 0, 1), (11, .getfield 43, 3), (14, .aload_n 0, 1), (15, .getfield 202, 3), (18, .iload_n 2, 1), (19, .iastore, 1), (20, .aload_n 0, 1), (21, .dup, 1), (22, .getfield 202, 3), (25, .iconst 1, 1), (26, .iadd, 1), (27, .putfield 202, 3), (30, .aload_n 0, 1), (31, .getfield 202, 3), (34, .iconst 1, 1), (35, .isub, 1), (36, .ireturn, 1)]
set_option maxRecDepth 100000 in
theorem okX9_newNode : ∀ q ∈ pX9_newNode, decode cX9_newNode q.1 = .ok q.2 := by decide +kernel
def pX9_bits : List (Nat × Instr × Nat) := [(0, .aload_n 0, 1), (1, .getfield 48, 3), (4, .iload_n 1, 1), (5, .iconst 2, 1), (6, .idiv, 1), (7, .aaload, 1), (8, .iload_n 2, 1), (9, .laload, 1), (10, .lstore_n 3, 1), (11, .iload_n 1, 1), (12, .iconst 2, 1), (13, .irem, 1), (14, .iconst 1, 1), (15, .if_icmp .ne 11, 3), (18, .lload_n 3, 1), (19, .ldc2_w 205, 3), (22, .lxor, 1), (23, .goto 4, 3), (26, .lload_n 3, 1), (27, .lreturn, 1)]
set_option maxRecDepth 100000 in
theorem okX9_bits : ∀ q ∈ pX9_bits, decode cX9_bits q.1 = .ok q.2 := by decide +kernel
def pX9_and : List (Nat × Instr × Nat) := [(0, .iload_n 1, 1), (1, .ifCond .eq 14, 3), (4, .iload_n 2, 1), (5, .ifCond .eq 10, 3), (8, .iload_n 1, 1), (9, .iload_n 2, 1), (10, .ixor, 1), (11, .iconst 1, 1), (12, .if_icmp .ne 5, 3), (15, .iconst 0, 1), (16, .ireturn, 1), (17, .iload_n 2, 1), (18, .iload_n 1, 1), (19, .if_icmp .eq 8, 3), (22, .iload_n 2, 1), (23, .iconst 1, 1), (24, .if_icmp .ne 5, 3), (27, .iload_n 1, 1), (28, .ireturn, 1), (29, .iload_n 1, 1), (30, .iconst 1, 1), (31, .if_icmp .ne 5, 3), (34, .iload_n 2, 1), (35, .ireturn, 1), (36, .iload_n 1, 1), (37, .iload_n 2, 1), (38, .if_icmp .ge 7, 3), (41, .iload_n 1, 1), (42, .goto 4, 3), (45, .iload_n 2, 1), (46, .istore_n 3, 1), (47, .iload_n 1, 1), (48, .iload_n 2, 1), (49, .if_icmp .ge 7, 3), (52, .iload_n 2, 1), (53, .goto 4, 3), (56, .iload_n 1, 1), (57, .istore 4, 2), (59, .aload_n 0, 1), (60, .getfield 7, 3), (63, .iconst 1, 1), (64, .iadd, 1), (65, .istore 5, 2), (67, .iload 5, 2), (69, .aload_n 0, 1), (70, .getfield 202, 3), (73, .if_icmp .ge 37, 3), (76, .aload_n 0, 1), (77, .getfield 40, 3), (80, .iload 5, 2), (82, .iaload, 1), (83, .iload_n 3, 1), (84, .if_icmp .ne 20, 3), (87, .aload_n 0, 1), (88, .getfield 43, 3), (91, .iload 5, 2), (93, .iaload, 1), (94, .iload 4, 2), (96, .if_icmp .ne 8, 3), (99, .iconst 2, 1), (100, .iload 5, 2), (102, .imul, 1), (103, .ireturn, 1), (104, .iinc 5 1, 3), (107, .goto (-40), 3), (110, .aload_n 0, 1), (111, .iload_n 3, 1), (112, .iload 4, 2), (114, .invokevirtual 207, 3), (117, .istore 5, 2), (119, .iconst 0, 1), (120, .istore 6, 2), (122, .iload 6, 2), (124, .bipush 64, 2), (126, .if_icmp .ge 35, 3), (129, .aload_n 0, 1), (130, .getfield 48, 3), (133, .iload 5, 2), (135, .aaload, 1), (136, .iload 6, 2), (138, .aload_n 0, 1), (139, .iload_n 3, 1), (140, .iload 6, 2), (142, .invokevirtual 210, 3), (145, .aload_n 0, 1), (146, .iload 4, 2), (148, .iload 6, 2), (150, .invokevirtual 210, 3), (153, .land, 1), (154, .lastore, 1), (155, .iinc 6 1, 3), (158, .goto (-36), 3), (161, .iconst 2, 1), (162, .iload 5, 2), (164, .imul, 1), (165, .ireturn, 1)]
set_option maxRecDepth 100000 in
theorem okX9_and : ∀ q ∈ pX9_and, decode cX9_and q.1 = .ok q.2 := by decide +kernel
def pX9_side : List (Nat × Instr × Nat) := [(0, .iload_n 2, 1), (1, .ifCond .ge 9, 3), (4, .iload_n 2, 1), (5, .iconst (-1), 1), (6, .ixor, 1), (7, .goto 4, 3), (10, .iload_n 2, 1), (11, .istore_n 3, 1), (12, .iload_n 3, 1), (13, .aload_n 0, 1), (14, .getfield 7, 3), (17, .if_icmp .ge 11, 3), (20, .iconst 2, 1), (21, .iload_n 3, 1), (22, .iconst 1, 1), (23, .iadd, 1), (24, .imul, 1), (25, .goto 16, 3), (28, .aload_n 0, 1), (29, .getfield 37, 3), (32, .iload_n 1, 1), (33, .aaload, 1), (34, .iload_n 3, 1), (35, .aload_n 0, 1), (36, .getfield 7, 3), (39, .isub, 1), (40, .iaload, 1), (41, .istore 4, 2), (43, .iload_n 2, 1), (44, .ifCond .ge 10, 3), (47, .iload 4, 2), (49, .iconst 1, 1), (50, .ixor, 1), (51, .goto 5, 3), (54, .iload 4, 2), (56, .ireturn, 1)]
set_option maxRecDepth 100000 in
theorem okX9_side : ∀ q ∈ pX9_side, decode cX9_side q.1 = .ok q.2 := by decide +kernel
def pX9_gateOf : List (Nat × Instr × Nat) := [(0, .aload_n 0, 1), (1, .getfield 22, 3), (4, .iload_n 1, 1), (5, .aaload, 1), (6, .iload_n 2, 1), (7, .iaload, 1), (8, .istore_n 3, 1), (9, .iload_n 3, 1), (10, .bipush 8, 2), (12, .if_icmp .ne 5, 3), (15, .iconst 0, 1), (16, .ireturn, 1), (17, .aload_n 0, 1), (18, .iload_n 1, 1), (19, .aload_n 0, 1), (20, .getfield 25, 3), (23, .iload_n 1, 1), (24, .aaload, 1), (25, .iload_n 2, 1), (26, .iaload, 1), (27, .invokevirtual 214, 3), (30, .istore 4, 2), (32, .aload_n 0, 1), (33, .iload_n 1, 1), (34, .aload_n 0, 1), (35, .getfield 28, 3), (38, .iload_n 1, 1), (39, .aaload, 1), (40, .iload_n 2, 1), (41, .iaload, 1), (42, .invokevirtual 214, 3), (45, .istore 5, 2), (47, .iload_n 3, 1), (48, .ifCond .eq 8, 3), (51, .iload_n 3, 1), (52, .iconst 3, 1), (53, .if_icmp .ne 16, 3), (56, .aload_n 0, 1), (57, .iload 4, 2), (59, .iload 5, 2), (61, .invokevirtual 217, 3), (64, .istore 6, 2), (66, .goto 202, 3), (69, .iload_n 3, 1), (70, .iconst 1, 1), (71, .if_icmp .eq 8, 3), (74, .iload_n 3, 1), (75, .iconst 4, 1), (76, .if_icmp .ne 22, 3), (79, .aload_n 0, 1), (80, .iload 4, 2), (82, .iconst 1, 1), (83, .ixor, 1), (84, .iload 5, 2), (86, .iconst 1, 1), (87, .ixor, 1), (88, .invokevirtual 217, 3), (91, .iconst 1, 1), (92, .ixor, 1), (93, .istore 6, 2), (95, .goto 173, 3), (98, .iload_n 3, 1), (99, .iconst 2, 1), (100, .if_icmp .eq 8, 3), (103, .iload_n 3, 1), (104, .iconst 5, 1), (105, .if_icmp .ne 46, 3), (108, .aload_n 0, 1), (109, .iload 4, 2), (111, .iload 5, 2), (113, .iconst 1, 1), (114, .ixor, 1), (115, .invokevirtual 217, 3), (118, .istore 7, 2), (120, .aload_n 0, 1), (121, .iload 4, 2), (123, .iconst 1, 1), (124, .ixor, 1), (125, .iload 5, 2), (127, .invokevirtual 217, 3), (130, .istore 8, 2), (132, .aload_n 0, 1), (133, .iload 7, 2), (135, .iconst 1, 1), (136, .ixor, 1), (137, .iload 8, 2), (139, .iconst 1, 1), (140, .ixor, 1), (141, .invokevirtual 217, 3), (144, .iconst 1, 1), (145, .ixor, 1), (146, .istore 6, 2), (148, .goto 120, 3), (151, .iload_n 3, 1), (152, .bipush 6, 2), (154, .if_icmp .ne 55, 3), (157, .aload_n 0, 1), (158, .iload 4, 2), (160, .iload 5, 2), (162, .invokevirtual 217, 3), (165, .istore 7, 2), (167, .aload_n 0, 1), (168, .iload 4, 2), (170, .iconst 1, 1), (171, .ixor, 1), (172, .aload_n 0, 1), (173, .iload_n 1, 1), (174, .aload_n 0, 1), (175, .getfield 31, 3), (178, .iload_n 1, 1), (179, .aaload, 1), (180, .iload_n 2, 1), (181, .iaload, 1), (182, .invokevirtual 214, 3), (185, .invokevirtual 217, 3), (188, .istore 8, 2), (190, .aload_n 0, 1), (191, .iload 7, 2), (193, .iconst 1, 1), (194, .ixor, 1), (195, .iload 8, 2), (197, .iconst 1, 1), (198, .ixor, 1), (199, .invokevirtual 217, 3), (202, .iconst 1, 1), (203, .ixor, 1), (204, .istore 6, 2), (206, .goto 62, 3), (209, .aload_n 0, 1), (210, .iload 4, 2), (212, .iload 5, 2), (214, .invokevirtual 217, 3), (217, .istore 7, 2), (219, .aload_n 0, 1), (220, .aload_n 0, 1), (221, .iload_n 1, 1), (222, .aload_n 0, 1), (223, .getfield 31, 3), (226, .iload_n 1, 1), (227, .aaload, 1), (228, .iload_n 2, 1), (229, .iaload, 1), (230, .invokevirtual 214, 3), (233, .aload_n 0, 1), (234, .iload 4, 2), (236, .iconst 1, 1), (237, .ixor, 1), (238, .iload 5, 2), (240, .iconst 1, 1), (241, .ixor, 1), (242, .invokevirtual 217, 3), (245, .iconst 1, 1), (246, .ixor, 1), (247, .invokevirtual 217, 3), (250, .istore 8, 2), (252, .aload_n 0, 1), (253, .iload 7, 2), (255, .iconst 1, 1), (256, .ixor, 1), (257, .iload 8, 2), (259, .iconst 1, 1), (260, .ixor, 1), (261, .invokevirtual 217, 3), (264, .iconst 1, 1), (265, .ixor, 1), (266, .istore 6, 2), (268, .iload_n 3, 1), (269, .iconst 3, 1), (270, .if_icmp .lt 15, 3), (273, .iload_n 3, 1), (274, .iconst 5, 1), (275, .if_icmp .gt 10, 3), (278, .iload 6, 2), (280, .iconst 1, 1), (281, .ixor, 1), (282, .goto 5, 3), (285, .iload 6, 2), (287, .ireturn, 1)]
set_option maxRecDepth 100000 in
theorem okX9_gateOf : ∀ q ∈ pX9_gateOf, decode cX9_gateOf q.1 = .ok q.2 := by decide +kernel
def pX9_graph : List (Nat × Instr × Nat) := [(0, .aload_n 0, 1), (1, .getfield 108, 3), (4, .ifCond .eq 4, 3), (7, .return_, 1), (8, .aload_n 0, 1), (9, .iconst 1, 1), (10, .putfield 108, 3), (13, .aload_n 0, 1), (14, .iconst 0, 1), (15, .putfield 202, 3), (18, .iconst 0, 1), (19, .istore_n 1, 1), (20, .iload_n 1, 1), (21, .aload_n 0, 1), (22, .getfield 7, 3), (25, .if_icmp .gt 39, 3), (28, .aload_n 0, 1), (29, .iconst (-1), 1), (30, .iconst (-1), 1), (31, .invokevirtual 207, 3), (34, .pop, 1), (35, .iconst 0, 1), (36, .istore_n 2, 1), (37, .iload_n 2, 1), (38, .bipush 64, 2), (40, .if_icmp .ge 18, 3), (43, .aload_n 0, 1), (44, .getfield 48, 3), (47, .iload_n 1, 1), (48, .aaload, 1), (49, .iload_n 2, 1), (50, .lconst 0, 1), (51, .lastore, 1), (52, .iinc 2 1, 3), (55, .goto (-18), 3), (58, .iinc 1 1, 3), (61, .goto (-41), 3), (64, .iconst 0, 1), (65, .istore_n 1, 1), (66, .iload_n 1, 1), (67, .sipush 4096, 3), (70, .if_icmp .ge 56, 3), (73, .iconst 1, 1), (74, .istore_n 2, 1), (75, .iload_n 2, 1), (76, .aload_n 0, 1), (77, .getfield 7, 3), (80, .if_icmp .gt 40, 3), (83, .iload_n 1, 1), (84, .iload_n 2, 1), (85, .iconst 1, 1), (86, .isub, 1), (87, .ishr, 1), (88, .iconst 1, 1), (89, .iand, 1), (90, .iconst 1, 1), (91, .if_icmp .ne 23, 3), (94, .aload_n 0, 1), (95, .getfield 48, 3), (98, .iload_n 2, 1), (99, .aaload, 1), (100, .iload_n 1, 1), (101, .bipush 64, 2), (103, .idiv, 1), (104, .dup2, 1), (105, .laload, 1), (106, .lconst 1, 1), (107, .iload_n 1, 1), (108, .bipush 64, 2), (110, .irem, 1), (111, .lshl, 1), (112, .lor, 1), (113, .lastore, 1), (114, .iinc 2 1, 3), (117, .goto (-42), 3), (120, .iinc 1 1, 3), (123, .goto (-57), 3), (126, .iconst 0, 1), (127, .istore_n 1, 1), (128, .iload_n 1, 1), (129, .iconst 2, 1), (130, .if_icmp .ge 41, 3), (133, .iconst 0, 1), (134, .istore_n 2, 1), (135, .iload_n 2, 1), (136, .aload_n 0, 1), (137, .getfield 13, 3), (140, .iload_n 1, 1), (141, .iaload, 1), (142, .if_icmp .ge 23, 3), (145, .aload_n 0, 1), (146, .getfield 37, 3), (149, .iload_n 1, 1), (150, .aaload, 1), (151, .iload_n 2, 1), (152, .aload_n 0, 1), (153, .iload_n 1, 1), (154, .iload_n 2, 1), (155, .invokevirtual 219, 3), (158, .iastore, 1), (159, .iinc 2 1, 3), (162, .goto (-27), 3), (165, .iinc 1 1, 3), (168, .goto (-40), 3), (171, .return_, 1)]
set_option maxRecDepth 100000 in
theorem okX9_graph : ∀ q ∈ pX9_graph, decode cX9_graph q.1 = .ok q.2 := by decide +kernel
def pX9_bit : List (Nat × Instr × Nat) := [(0, .aload_n 0, 1), (1, .iload_n 1, 1), (2, .iload_n 2, 1), (3, .bipush 64, 2), (5, .idiv, 1), (6, .invokevirtual 210, 3), (9, .iload_n 2, 1), (10, .bipush 64, 2), (12, .irem, 1), (13, .lshr, 1), (14, .lconst 1, 1), (15, .land, 1), (16, .lconst 1, 1), (17, .lcmp, 1), (18, .ifCond .ne 7, 3), (21, .iconst 1, 1), (22, .goto 4, 3), (25, .iconst 0, 1), (26, .ireturn, 1)]
set_option maxRecDepth 100000 in
theorem okX9_bit : ∀ q ∈ pX9_bit, decode cX9_bit q.1 = .ok q.2 := by decide +kernel
def pX9_unlike : List (Nat × Instr × Nat) := [(0, .iconst 0, 1), (1, .istore_n 3, 1), (2, .iload_n 3, 1), (3, .aload_n 0, 1), (4, .invokevirtual 222, 3), (7, .if_icmp .ge 26, 3), (10, .aload_n 0, 1), (11, .iload_n 1, 1), (12, .iload_n 3, 1), (13, .invokevirtual 225, 3), (16, .aload_n 0, 1), (17, .iload_n 2, 1), (18, .iload_n 3, 1), (19, .invokevirtual 225, 3), (22, .if_icmp .eq 5, 3), (25, .iload_n 3, 1), (26, .ireturn, 1), (27, .iinc 3 1, 3), (30, .goto (-28), 3), (33, .iconst (-1), 1), (34, .ireturn, 1)]
set_option maxRecDepth 100000 in
theorem okX9_unlike : ∀ q ∈ pX9_unlike, decode cX9_unlike q.1 = .ok q.2 := by decide +kernel
def pX9_value : List (Nat × Instr × Nat) := [(0, .iload_n 1, 1), (1, .invokestatic 126, 3), (4, .ifCond .eq 24, 3), (7, .aload_n 0, 1), (8, .iload_n 1, 1), (9, .iload_n 2, 1), (10, .invokevirtual 130, 3), (13, .ifCond .eq 15, 3), (16, .iload_n 3, 1), (17, .ifCond .lt 11, 3), (20, .iload_n 3, 1), (21, .aload_n 0, 1), (22, .invokevirtual 222, 3), (25, .if_icmp .lt 5, 3), (28, .iconst (-1), 1), (29, .ireturn, 1), (30, .aload_n 0, 1), (31, .invokevirtual 228, 3), (34, .aload_n 0, 1), (35, .aload_n 0, 1), (36, .iload_n 1, 1), (37, .iload_n 2, 1), (38, .invokevirtual 214, 3), (41, .iload_n 3, 1), (42, .invokevirtual 225, 3), (45, .ifCond .eq 7, 3), (48, .iconst 1, 1), (49, .goto 4, 3), (52, .iconst 0, 1), (53, .ireturn, 1)]
set_option maxRecDepth 100000 in
theorem okX9_value : ∀ q ∈ pX9_value, decode cX9_value q.1 = .ok q.2 := by decide +kernel
def pX9_isGiven : List (Nat × Instr × Nat) := [(0, .aload_n 0, 1), (1, .getfield 51, 3), (4, .iload_n 1, 1), (5, .bipush 64, 2), (7, .idiv, 1), (8, .laload, 1), (9, .iload_n 1, 1), (10, .bipush 64, 2), (12, .irem, 1), (13, .lshr, 1), (14, .lconst 1, 1), (15, .land, 1), (16, .lconst 1, 1), (17, .lcmp, 1), (18, .ifCond .ne 7, 3), (21, .iconst 1, 1), (22, .goto 4, 3), (25, .iconst 0, 1), (26, .ireturn, 1)]
set_option maxRecDepth 100000 in
theorem okX9_isGiven : ∀ q ∈ pX9_isGiven, decode cX9_isGiven q.1 = .ok q.2 := by decide +kernel
def pX9_give : List (Nat × Instr × Nat) := [(0, .aload_n 0, 1), (1, .getfield 51, 3), (4, .iload_n 1, 1), (5, .bipush 64, 2), (7, .idiv, 1), (8, .dup2, 1), (9, .laload, 1), (10, .lconst 1, 1), (11, .iload_n 1, 1), (12, .bipush 64, 2), (14, .irem, 1), (15, .lshl, 1), (16, .lor, 1), (17, .lastore, 1), (18, .aload_n 0, 1), (19, .getfield 55, 3), (22, .aload_n 0, 1), (23, .getfield 231, 3), (26, .iload_n 1, 1), (27, .iastore, 1), (28, .aload_n 0, 1), (29, .dup, 1), (30, .getfield 231, 3), (33, .iconst 1, 1), (34, .iadd, 1), (35, .putfield 231, 3), (38, .return_, 1)]
set_option maxRecDepth 100000 in
theorem okX9_give : ∀ q ∈ pX9_give, decode cX9_give q.1 = .ok q.2 := by decide +kernel
def pX9_vector : List (Nat × Instr × Nat) := [(0, .iload_n 1, 1), (1, .ifCond .lt 19, 3), (4, .iload_n 1, 1), (5, .aload_n 0, 1), (6, .invokevirtual 222, 3), (9, .if_icmp .ge 11, 3), (12, .aload_n 0, 1), (13, .iload_n 1, 1), (14, .invokevirtual 234, 3), (17, .ifCond .eq 5, 3), (20, .iconst (-1), 1), (21, .ireturn, 1), (22, .aload_n 0, 1), (23, .iload_n 1, 1), (24, .invokevirtual 237, 3), (27, .aload_n 0, 1), (28, .getfield 231, 3), (31, .ireturn, 1)]
set_option maxRecDepth 100000 in
theorem okX9_vector : ∀ q ∈ pX9_vector, decode cX9_vector q.1 = .ok q.2 := by decide +kernel
def pX9_forget : List (Nat × Instr × Nat) := [(0, .aload_n 0, 1), (1, .getfield 231, 3), (4, .istore_n 1, 1), (5, .aload_n 0, 1), (6, .iconst 0, 1), (7, .putfield 231, 3), (10, .iconst 0, 1), (11, .istore_n 2, 1), (12, .iload_n 2, 1), (13, .bipush 64, 2), (15, .if_icmp .ge 16, 3), (18, .aload_n 0, 1), (19, .getfield 51, 3), (22, .iload_n 2, 1), (23, .lconst 0, 1), (24, .lastore, 1), (25, .iinc 2 1, 3), (28, .goto (-16), 3), (31, .iload_n 1, 1), (32, .ireturn, 1)]
set_option maxRecDepth 100000 in
theorem okX9_forget : ∀ q ∈ pX9_forget, decode cX9_forget q.1 = .ok q.2 := by decide +kernel
def pX9_given : List (Nat × Instr × Nat) := [(0, .iload_n 1, 1), (1, .ifCond .lt 20, 3), (4, .iload_n 1, 1), (5, .aload_n 0, 1), (6, .getfield 231, 3), (9, .if_icmp .ge 12, 3), (12, .aload_n 0, 1), (13, .getfield 55, 3), (16, .iload_n 1, 1), (17, .iaload, 1), (18, .goto 4, 3), (21, .iconst (-1), 1), (22, .ireturn, 1)]
set_option maxRecDepth 100000 in
theorem okX9_given : ∀ q ∈ pX9_given, decode cX9_given q.1 = .ok q.2 := by decide +kernel
def pX9_like : List (Nat × Instr × Nat) := [(0, .iconst 1, 1), (1, .istore_n 3, 1), (2, .iconst 1, 1), (3, .istore 4, 2), (5, .iconst 0, 1), (6, .istore 5, 2), (8, .iload 5, 2), (10, .bipush 64, 2), (12, .if_icmp .ge 80, 3), (15, .aload_n 0, 1), (16, .getfield 48, 3), (19, .iload_n 1, 1), (20, .aaload, 1), (21, .iload 5, 2), (23, .laload, 1), (24, .aload_n 0, 1), (25, .getfield 48, 3), (28, .iload_n 2, 1), (29, .aaload, 1), (30, .iload 5, 2), (32, .laload, 1), (33, .lxor, 1), (34, .aload_n 0, 1), (35, .getfield 51, 3), (38, .iload 5, 2), (40, .laload, 1), (41, .land, 1), (42, .lstore 6, 2), (44, .iload_n 3, 1), (45, .ifCond .eq 14, 3), (48, .lload 6, 2), (50, .lconst 0, 1), (51, .lcmp, 1), (52, .ifCond .ne 7, 3), (55, .iconst 1, 1), (56, .goto 4, 3), (59, .iconst 0, 1), (60, .istore_n 3, 1), (61, .iload 4, 2), (63, .ifCond .eq 20, 3), (66, .lload 6, 2), (68, .aload_n 0, 1), (69, .getfield 51, 3), (72, .iload 5, 2), (74, .laload, 1), (75, .lcmp, 1), (76, .ifCond .ne 7, 3), (79, .iconst 1, 1), (80, .goto 4, 3), (83, .iconst 0, 1), (84, .istore 4, 2), (86, .iinc 5 1, 3), (89, .goto (-81), 3), (92, .iload_n 3, 1), (93, .ifCond .eq 7, 3), (96, .iconst 1, 1), (97, .goto 13, 3), (100, .iload 4, 2), (102, .ifCond .eq 7, 3), (105, .iconst 2, 1), (106, .goto 4, 3), (109, .iconst 0, 1), (110, .ireturn, 1)]
set_option maxRecDepth 100000 in
theorem okX9_like : ∀ q ∈ pX9_like, decode cX9_like q.1 = .ok q.2 := by decide +kernel
def pX9_leastLike : List (Nat × Instr × Nat) := [(0, .iconst 0, 1), (1, .istore_n 2, 1), (2, .aload_n 0, 1), (3, .iload_n 1, 1), (4, .iload_n 2, 1), (5, .invokevirtual 240, 3), (8, .ifCond .ne 9, 3), (11, .iinc 2 1, 3), (14, .goto (-12), 3), (17, .iload_n 2, 1), (18, .ireturn, 1)]
set_option maxRecDepth 100000 in
theorem okX9_leastLike : ∀ q ∈ pX9_leastLike, decode cX9_leastLike q.1 = .ok q.2 := by decide +kernel
def pX9_count : List (Nat × Instr × Nat) := [(0, .aload_n 0, 1), (1, .invokevirtual 228, 3), (4, .iload_n 1, 1), (5, .tableswitch 126 0 8 #[51, 56, 61, 61, 70, 70, 79, 84, 121], 51), (56, .aload_n 0, 1), (57, .getfield 202, 3), (60, .ireturn, 1), (61, .aload_n 0, 1), (62, .getfield 7, 3), (65, .ireturn, 1), (66, .aload_n 0, 1), (67, .getfield 13, 3), (70, .iload_n 1, 1), (71, .iconst 2, 1), (72, .isub, 1), (73, .iaload, 1), (74, .ireturn, 1), (75, .aload_n 0, 1), (76, .getfield 17, 3), (79, .iload_n 1, 1), (80, .iconst 4, 1), (81, .isub, 1), (82, .iaload, 1), (83, .ireturn, 1), (84, .aload_n 0, 1), (85, .getfield 231, 3), (88, .ireturn, 1), (89, .iconst 0, 1), (90, .istore_n 2, 1), (91, .iconst 0, 1), (92, .istore_n 3, 1), (93, .iload_n 3, 1), (94, .aload_n 0, 1), (95, .getfield 202, 3), (98, .if_icmp .ge 26, 3), (101, .iload_n 2, 1), (102, .aload_n 0, 1), (103, .iload_n 3, 1), (104, .invokevirtual 243, 3), (107, .iload_n 3, 1), (108, .if_icmp .ne 7, 3), (111, .iconst 1, 1), (112, .goto 4, 3), (115, .iconst 0, 1), (116, .iadd, 1), (117, .istore_n 2, 1), (118, .iinc 3 1, 3), (121, .goto (-28), 3), (124, .iload_n 2, 1), (125, .ireturn, 1), (126, .aload_n 0, 1), (127, .getfield 134, 3), (130, .ireturn, 1), (131, .iconst (-1), 1), (132, .ireturn, 1)]
set_option maxRecDepth 100000 in
theorem okX9_count : ∀ q ∈ pX9_count, decode cX9_count q.1 = .ok q.2 := by decide +kernel
def pX9_node : List (Nat × Instr × Nat) := [(0, .aload_n 0, 1), (1, .invokevirtual 228, 3), (4, .iload_n 1, 1), (5, .ifCond .lt 20, 3), (8, .iload_n 1, 1), (9, .aload_n 0, 1), (10, .getfield 202, 3), (13, .if_icmp .ge 12, 3), (16, .iload_n 2, 1), (17, .ifCond .lt 8, 3), (20, .iload_n 2, 1), (21, .iconst 2, 1), (22, .if_icmp .le 5, 3), (25, .iconst (-1), 1), (26, .ireturn, 1), (27, .iload_n 2, 1), (28, .ifCond .ne 12, 3), (31, .aload_n 0, 1), (32, .getfield 40, 3), (35, .iload_n 1, 1), (36, .iaload, 1), (37, .goto 22, 3), (40, .iload_n 2, 1), (41, .iconst 1, 1), (42, .if_icmp .ne 12, 3), (45, .aload_n 0, 1), (46, .getfield 43, 3), (49, .iload_n 1, 1), (50, .iaload, 1), (51, .goto 8, 3), (54, .aload_n 0, 1), (55, .iload_n 1, 1), (56, .invokevirtual 243, 3), (59, .ireturn, 1)]
set_option maxRecDepth 100000 in
theorem okX9_node : ∀ q ∈ pX9_node, decode cX9_node q.1 = .ok q.2 := by decide +kernel
def pX9_literal : List (Nat × Instr × Nat) := [(0, .iload_n 1, 1), (1, .invokestatic 126, 3), (4, .ifCond .eq 12, 3), (7, .aload_n 0, 1), (8, .iload_n 1, 1), (9, .iload_n 2, 1), (10, .invokevirtual 130, 3), (13, .ifCond .ne 5, 3), (16, .iconst (-1), 1), (17, .ireturn, 1), (18, .aload_n 0, 1), (19, .invokevirtual 228, 3), (22, .aload_n 0, 1), (23, .iload_n 1, 1), (24, .iload_n 2, 1), (25, .invokevirtual 214, 3), (28, .ireturn, 1)]
set_option maxRecDepth 100000 in
theorem okX9_literal : ∀ q ∈ pX9_literal, decode cX9_literal q.1 = .ok q.2 := by decide +kernel
def pX9_candidate : List (Nat × Instr × Nat) := [(0, .iconst 0, 1), (1, .istore_n 2, 1), (2, .iload_n 2, 1), (3, .iload_n 1, 1), (4, .if_icmp .ge 32, 3), (7, .aload_n 0, 1), (8, .getfield 58, 3), (11, .iload_n 2, 1), (12, .iaload, 1), (13, .iconst 2, 1), (14, .iload_n 2, 1), (15, .imul, 1), (16, .if_icmp .ne 14, 3), (19, .aload_n 0, 1), (20, .iload_n 1, 1), (21, .iload_n 2, 1), (22, .invokevirtual 240, 3), (25, .ifCond .eq 5, 3), (28, .iload_n 2, 1), (29, .ireturn, 1), (30, .iinc 2 1, 3), (33, .goto (-31), 3), (36, .iconst (-1), 1), (37, .ireturn, 1)]
set_option maxRecDepth 100000 in
theorem okX9_candidate : ∀ q ∈ pX9_candidate, decode cX9_candidate q.1 = .ok q.2 := by decide +kernel
def pX9_sweep : List (Nat × Instr × Nat) := [(0, .aload_n 0, 1), (1, .invokevirtual 228, 3), (4, .aload_n 0, 1), (5, .iconst 0, 1), (6, .putfield 246, 3), (9, .aload_n 0, 1), (10, .iconst 0, 1), (11, .putfield 249, 3), (14, .aload_n 0, 1), (15, .getfield 58, 3), (18, .iconst 0, 1), (19, .iconst 0, 1), (20, .iastore, 1), (21, .iconst 0, 1), (22, .istore_n 1, 1), (23, .iconst 1, 1), (24, .istore_n 2, 1), (25, .iload_n 2, 1), (26, .aload_n 0, 1), (27, .getfield 202, 3), (30, .if_icmp .ge 132, 3), (33, .aload_n 0, 1), (34, .getfield 58, 3), (37, .iload_n 2, 1), (38, .iconst (-1), 1), (39, .iastore, 1), (40, .aload_n 0, 1), (41, .getfield 58, 3), (44, .iload_n 2, 1), (45, .iaload, 1), (46, .iconst (-1), 1), (47, .if_icmp .ne 109, 3), (50, .aload_n 0, 1), (51, .iload_n 2, 1), (52, .invokevirtual 252, 3), (55, .istore_n 3, 1), (56, .iload_n 3, 1), (57, .iconst (-1), 1), (58, .if_icmp .ne 15, 3), (61, .aload_n 0, 1), (62, .getfield 58, 3), (65, .iload_n 2, 1), (66, .iconst 2, 1), (67, .iload_n 2, 1), (68, .imul, 1), (69, .iastore, 1), (70, .goto (-30), 3), (73, .aload_n 0, 1), (74, .dup, 1), (75, .getfield 249, 3), (78, .iconst 1, 1), (79, .iadd, 1), (80, .putfield 249, 3), (83, .aload_n 0, 1), (84, .iload_n 2, 1), (85, .iload_n 3, 1), (86, .invokevirtual 240, 3), (89, .iconst 1, 1), (90, .if_icmp .ne 9, 3), (93, .iconst 2, 1), (94, .iload_n 3, 1), (95, .imul, 1), (96, .goto 8, 3), (99, .iconst 2, 1), (100, .iload_n 3, 1), (101, .imul, 1), (102, .iconst 1, 1), (103, .iadd, 1), (104, .istore 4, 2), (106, .aload_n 0, 1), (107, .iconst 2, 1), (108, .iload_n 2, 1), (109, .imul, 1), (110, .iload 4, 2), (112, .invokevirtual 255, 3), (115, .istore 5, 2), (117, .iload 5, 2), (119, .iconst (-1), 1), (120, .if_icmp .ne 17, 3), (123, .aload_n 0, 1), (124, .getfield 58, 3), (127, .iload_n 2, 1), (128, .iload 4, 2), (130, .iastore, 1), (131, .iinc 1 1, 3), (134, .goto 19, 3), (137, .aload_n 0, 1), (138, .iload 5, 2), (140, .invokevirtual 237, 3), (143, .aload_n 0, 1), (144, .dup, 1), (145, .getfield 246, 3), (148, .iconst 1, 1), (149, .iadd, 1), (150, .putfield 246, 3), (153, .goto (-113), 3), (156, .iinc 2 1, 3), (159, .goto (-134), 3), (162, .aload_n 0, 1), (163, .aload_n 0, 1), (164, .getfield 202, 3), (167, .iload_n 1, 1), (168, .isub, 1), (169, .putfield 258, 3), (172, .aload_n 0, 1), (173, .invokevirtual 261, 3), (176, .aload_n 0, 1), (177, .iconst 1, 1), (178, .putfield 112, 3), (181, .iload_n 1, 1), (182, .ireturn, 1)]
set_option maxRecDepth 100000 in
theorem okX9_sweep : ∀ q ∈ pX9_sweep, decode cX9_sweep q.1 = .ok q.2 := by decide +kernel
def pX9_need : List (Nat × Instr × Nat) := [(0, .iconst 0, 1), (1, .istore_n 1, 1), (2, .iload_n 1, 1), (3, .aload_n 0, 1), (4, .getfield 202, 3), (7, .if_icmp .ge 16, 3), (10, .aload_n 0, 1), (11, .getfield 102, 3), (14, .iload_n 1, 1), (15, .iconst 0, 1), (16, .bastore, 1), (17, .iinc 1 1, 3), (20, .goto (-18), 3), (23, .iconst 0, 1), (24, .istore_n 1, 1), (25, .iload_n 1, 1), (26, .iconst 2, 1), (27, .if_icmp .ge 55, 3), (30, .iconst 0, 1), (31, .istore_n 2, 1), (32, .iload_n 2, 1), (33, .aload_n 0, 1), (34, .getfield 17, 3), (37, .iload_n 1, 1), (38, .iaload, 1), (39, .if_icmp .ge 37, 3), (42, .aload_n 0, 1), (43, .getfield 102, 3), (46, .aload_n 0, 1), (47, .getfield 58, 3), (50, .aload_n 0, 1), (51, .iload_n 1, 1), (52, .aload_n 0, 1), (53, .getfield 34, 3), (56, .iload_n 1, 1), (57, .aaload, 1), (58, .iload_n 2, 1), (59, .iaload, 1), (60, .invokevirtual 214, 3), (63, .iconst 2, 1), (64, .idiv, 1), (65, .iaload, 1), (66, .iconst 2, 1), (67, .idiv, 1), (68, .iconst 1, 1), (69, .bastore, 1), (70, .iinc 2 1, 3), (73, .goto (-41), 3), (76, .iinc 1 1, 3), (79, .goto (-54), 3), (82, .aload_n 0, 1), (83, .iconst 0, 1), (84, .putfield 264, 3), (87, .aload_n 0, 1), (88, .getfield 202, 3), (91, .iconst 1, 1), (92, .isub, 1), (93, .istore_n 1, 1), (94, .iload_n 1, 1), (95, .aload_n 0, 1), (96, .getfield 7, 3), (99, .if_icmp .le 73, 3), (102, .aload_n 0, 1), (103, .getfield 102, 3), (106, .iload_n 1, 1), (107, .baload, 1), (108, .ifCond .ne 6, 3), (111, .goto 55, 3), (114, .aload_n 0, 1), (115, .dup, 1), (116, .getfield 264, 3), (119, .iconst 1, 1), (120, .iadd, 1), (121, .putfield 264, 3), (124, .aload_n 0, 1), (125, .getfield 102, 3), (128, .aload_n 0, 1), (129, .getfield 58, 3), (132, .aload_n 0, 1), (133, .getfield 40, 3), (136, .iload_n 1, 1), (137, .iaload, 1), (138, .iconst 2, 1), (139, .idiv, 1), (140, .iaload, 1), (141, .iconst 2, 1), (142, .idiv, 1), (143, .iconst 1, 1), (144, .bastore, 1), (145, .aload_n 0, 1), (146, .getfield 102, 3), (149, .aload_n 0, 1), (150, .getfield 58, 3), (153, .aload_n 0, 1), (154, .getfield 43, 3), (157, .iload_n 1, 1), (158, .iaload, 1), (159, .iconst 2, 1), (160, .idiv, 1), (161, .iaload, 1), (162, .iconst 2, 1), (163, .idiv, 1), (164, .iconst 1, 1), (165, .bastore, 1), (166, .iinc 1 (-1), 3), (169, .goto (-75), 3), (172, .return_, 1)]
set_option maxRecDepth 100000 in
theorem okX9_need : ∀ q ∈ pX9_need, decode cX9_need q.1 = .ok q.2 := by decide +kernel
def pX9_swept : List (Nat × Instr × Nat) := [(0, .aload_n 0, 1), (1, .getfield 112, 3), (4, .ifCond .eq 24, 3), (7, .iload_n 1, 1), (8, .ifCond .lt 20, 3), (11, .iload_n 1, 1), (12, .aload_n 0, 1), (13, .getfield 202, 3), (16, .if_icmp .ge 12, 3), (19, .aload_n 0, 1), (20, .getfield 58, 3), (23, .iload_n 1, 1), (24, .iaload, 1), (25, .goto 4, 3), (28, .iconst (-1), 1), (29, .ireturn, 1)]
set_option maxRecDepth 100000 in
theorem okX9_swept : ∀ q ∈ pX9_swept, decode cX9_swept q.1 = .ok q.2 := by decide +kernel
def pX9_told : List (Nat × Instr × Nat) := [(0, .aload_n 0, 1), (1, .getfield 112, 3), (4, .ifCond .ne 5, 3), (7, .iconst (-1), 1), (8, .ireturn, 1), (9, .iload_n 1, 1), (10, .tableswitch 50 0 3 #[30, 35, 40, 45], 30), (40, .aload_n 0, 1), (41, .getfield 246, 3), (44, .ireturn, 1), (45, .aload_n 0, 1), (46, .getfield 249, 3), (49, .ireturn, 1), (50, .aload_n 0, 1), (51, .getfield 264, 3), (54, .ireturn, 1), (55, .aload_n 0, 1), (56, .getfield 258, 3), (59, .ireturn, 1), (60, .iconst (-1), 1), (61, .ireturn, 1)]
set_option maxRecDepth 100000 in
theorem okX9_told : ∀ q ∈ pX9_told, decode cX9_told q.1 = .ok q.2 := by decide +kernel
def pX9_both : List (Nat × Instr × Nat) := [(0, .iload_n 1, 1), (1, .ifCond .lt 27, 3), (4, .iload_n 1, 1), (5, .aload_n 0, 1), (6, .getfield 17, 3), (9, .iconst 0, 1), (10, .iaload, 1), (11, .if_icmp .ge 17, 3), (14, .iload_n 1, 1), (15, .aload_n 0, 1), (16, .getfield 17, 3), (19, .iconst 1, 1), (20, .iaload, 1), (21, .if_icmp .ge 7, 3), (24, .iconst 1, 1), (25, .goto 4, 3), (28, .iconst 0, 1), (29, .ireturn, 1)]
set_option maxRecDepth 100000 in
theorem okX9_both : ∀ q ∈ pX9_both, decode cX9_both q.1 = .ok q.2 := by decide +kernel
def pX9_differs : List (Nat × Instr × Nat) := [(0, .aload_n 0, 1), (1, .iload_n 1, 1), (2, .invokevirtual 267, 3), (5, .ifCond .ne 5, 3), (8, .iconst (-1), 1), (9, .ireturn, 1), (10, .aload_n 0, 1), (11, .invokevirtual 228, 3), (14, .aload_n 0, 1), (15, .aload_n 0, 1), (16, .iconst 0, 1), (17, .aload_n 0, 1), (18, .getfield 34, 3), (21, .iconst 0, 1), (22, .aaload, 1), (23, .iload_n 1, 1), (24, .iaload, 1), (25, .invokevirtual 214, 3), (28, .aload_n 0, 1), (29, .iconst 1, 1), (30, .aload_n 0, 1), (31, .getfield 34, 3), (34, .iconst 1, 1), (35, .aaload, 1), (36, .iload_n 1, 1), (37, .iaload, 1), (38, .invokevirtual 214, 3), (41, .invokevirtual 255, 3), (44, .ireturn, 1)]
set_option maxRecDepth 100000 in
theorem okX9_differs : ∀ q ∈ pX9_differs, decode cX9_differs q.1 = .ok q.2 := by decide +kernel
def pX9_same : List (Nat × Instr × Nat) := [(0, .aload_n 0, 1), (1, .iload_n 1, 1), (2, .invokevirtual 267, 3), (5, .ifCond .ne 7, 3), (8, .iconst (-1), 1), (9, .goto 17, 3), (12, .aload_n 0, 1), (13, .iload_n 1, 1), (14, .invokevirtual 270, 3), (17, .iconst (-1), 1), (18, .if_icmp .ne 7, 3), (21, .iconst 1, 1), (22, .goto 4, 3), (25, .iconst 0, 1), (26, .ireturn, 1)]
set_option maxRecDepth 100000 in
theorem okX9_same : ∀ q ∈ pX9_same, decode cX9_same q.1 = .ok q.2 := by decide +kernel
def pX9_verdict : List (Nat × Instr × Nat) := [(0, .aload_n 0, 1), (1, .getfield 17, 3), (4, .iconst 0, 1), (5, .iaload, 1), (6, .aload_n 0, 1), (7, .getfield 17, 3), (10, .iconst 1, 1), (11, .iaload, 1), (12, .if_icmp .eq 5, 3), (15, .iconst (-1), 1), (16, .ireturn, 1), (17, .iconst 0, 1), (18, .istore_n 1, 1), (19, .iload_n 1, 1), (20, .aload_n 0, 1), (21, .getfield 17, 3), (24, .iconst 0, 1), (25, .iaload, 1), (26, .if_icmp .ge 19, 3), (29, .aload_n 0, 1), (30, .iload_n 1, 1), (31, .invokevirtual 273, 3), (34, .ifCond .ne 5, 3), (37, .iconst 0, 1), (38, .ireturn, 1), (39, .iinc 1 1, 3), (42, .goto (-23), 3), (45, .iconst 1, 1), (46, .ireturn, 1)]
set_option maxRecDepth 100000 in
theorem okX9_verdict : ∀ q ∈ pX9_verdict, decode cX9_verdict q.1 = .ok q.2 := by decide +kernel
end
section
def oN : Nat → String := fun o => match o with
  | 0 => RX0
  | 1 => RX1
  | 2 => RX2
  | 3 => RX3
  | 4 => RX4
  | 5 => RX5
  | 6 => RX6
  | 7 => RX7
  | 8 => RX8
  | 9 => RX9
  | 10 => RL
  | 11 => RJ13
  | 12 => RJ9
  | _ => RJ7
def clE (ci : Nat) : vw_C := [(RX0, TX0, 18), (RX1, TX1, 6), (RX2, TX2, 9), (RX3, TX3, 13), (RX4, TX4, 3), (RX5, TX5, 6), (RX6, TX6, 2), (RX7, TX7, 5), (RX8, TX8, 13), (RX9, TX9, 42)].getD ci (RX9, TX9, 42)
abbrev vwCl : List vw_C := [(RX0, TX0, 18), (RX1, TX1, 6), (RX2, TX2, 9), (RX3, TX3, 13), (RX4, TX4, 3), (RX5, TX5, 6), (RX6, TX6, 2), (RX7, TX7, 5), (RX8, TX8, 13), (RX9, TX9, 42)]
abbrev clR (ci : Nat) : String := (clE ci).1
abbrev clT (ci : Nat) : u_T := (clE ci).2.1
abbrev clN (ci : Nat) : Nat := (clE ci).2.2
def fT : Nat → Nat → FieldType := fun ci => match ci with
  | 0 => tyX0
  | 1 => tyX1
  | 2 => tyX2
  | 3 => tyX3
  | 4 => tyX4
  | 5 => tyX5
  | 6 => tyX6
  | 7 => tyX7
  | 8 => tyX8
  | _ => tyX9
/-- a method: its name, bytes, locals, answer, class; the places of its words: code, initialized, instance or static, selects -/
abbrev mRow : Type := MethodName × ByteArray × Nat × Option FieldType × Nat × Nat × Nat × Nat × Nat
def mLaw : mRow := (yL_law, cL_law, 4, some .boolean, 10, 0, 0, 0, 0)
def mR1 : List mRow := [
  (yX0_init, cX0_init, 2, none, 0, 300, 87, 299, 0),
  (yX0_parse, cX0_parse, 2, none, 0, 510, 87, 508, 509),
  (yX0_fail, cX0_fail, 3, none, 0, 537, 87, 535, 536),
  (yX0_andOf, cX0_andOf, 3, some Jvm.ClassFile.FieldType.int, 0, 607, 87, 605, 606),
  (yX0_sideOf, cX0_sideOf, 3, some Jvm.ClassFile.FieldType.int, 0, 599, 87, 597, 598),
  (yX0_startAnew, cX0_startAnew, 2, none, 0, 514, 87, 513, 3),
  (yX0_parseHead, cX0_parseHead, 2, none, 0, 521, 87, 520, 4),
  (yX0_parseHeadNumber, cX0_parseHeadNumber, 2, none, 0, 541, 87, 540, 7),
  (yX0_askHeadNumbers, cX0_askHeadNumbers, 2, none, 0, 554, 87, 553, 9),
  (yX0_isBadHeadNumber, cX0_isBadHeadNumber, 2, some Jvm.ClassFile.FieldType.boolean, 0, 558, 87, 557, 10),
  (yX0_hasTooFewVariables, cX0_hasTooFewVariables, 1, some Jvm.ClassFile.FieldType.boolean, 0, 562, 87, 561, 11),
  (yX0_parseInputLines, cX0_parseInputLines, 2, none, 0, 566, 87, 565, 12),
  (yX0_parseOutLines, cX0_parseOutLines, 2, none, 0, 574, 87, 573, 14),
  (yX0_parseAndLines, cX0_parseAndLines, 2, none, 0, 582, 87, 581, 16),
  (yX0_parseDefinition, cX0_parseDefinition, 4, none, 0, 570, 87, 569, 13),
  (yX0_parseUse, cX0_parseUse, 2, none, 0, 578, 87, 577, 15)]
def mR2 : List mRow := [
  (yX0_parseNumber, cX0_parseNumber, 4, some Jvm.ClassFile.FieldType.int, 0, 545, 87, 544, 8),
  (yX0_expect, cX0_expect, 2, none, 0, 525, 87, 524, 5),
  (yX0_failIf, cX0_failIf, 4, none, 0, 533, 87, 532, 6),
  (yX0_findNotDefined, cX0_findNotDefined, 3, none, 0, 586, 87, 585, 17),
  (yX1_init, cX1_init, 2, none, 1, 371, 88, 370, 0),
  (yX1_arrange, cX1_arrange, 3, none, 1, 590, 88, 588, 589),
  (yX1_fill, cX1_fill, 6, none, 1, 628, 88, 626, 627),
  (yX1_signalOf, cX1_signalOf, 5, some Jvm.ClassFile.FieldType.int, 1, 633, 88, 632, 24),
  (yX1_firstReady, cX1_firstReady, 2, some Jvm.ClassFile.FieldType.int, 1, 595, 88, 594, 18),
  (yX1_isThere, cX1_isThere, 3, some Jvm.ClassFile.FieldType.boolean, 1, 603, 88, 602, 19),
  (yX1_failAtFirstLoop, cX1_failAtFirstLoop, 2, none, 1, 611, 88, 610, 20),
  (yX1_needsItself, cX1_needsItself, 3, some Jvm.ClassFile.FieldType.boolean, 1, 615, 88, 614, 21),
  (yX1_reachSides, cX1_reachSides, 2, none, 1, 619, 88, 618, 22),
  (yX1_reach, cX1_reach, 2, none, 1, 623, 88, 622, 23),
  (yX2_init, cX2_init, 2, none, 2, 105, 81, 104, 0),
  (yX2_reset, cX2_reset, 2, none, 2, 439, 81, 437, 438)]
def mR3 : List mRow := [
  (yX2_hasSignal, cX2_hasSignal, 2, some Jvm.ClassFile.FieldType.boolean, 2, 470, 81, 468, 469),
  (yX2_canTake, cX2_canTake, 6, some Jvm.ClassFile.FieldType.boolean, 2, 466, 81, 464, 465),
  (yX2_addGate, cX2_addGate, 5, some Jvm.ClassFile.FieldType.int, 2, 477, 81, 475, 476),
  (yX2_addOut, cX2_addOut, 2, some Jvm.ClassFile.FieldType.int, 2, 486, 81, 484, 485),
  (yX2_literalOf, cX2_literalOf, 2, some Jvm.ClassFile.FieldType.int, 2, 677, 81, 675, 676),
  (yX2_plain, cX2_plain, 1, some Jvm.ClassFile.FieldType.int, 2, 473, 81, 472, 0),
  (yX3_init, cX3_init, 3, none, 3, 180, 83, 179, 0),
  (yX3_bringUp, cX3_bringUp, 2, none, 3, 650, 83, 648, 649),
  (yX3_isAnd, cX3_isAnd, 2, some Jvm.ClassFile.FieldType.boolean, 3, 761, 83, 759, 760),
  (yX3_bitOf, cX3_bitOf, 3, some Jvm.ClassFile.FieldType.int, 3, 712, 83, 710, 711),
  (yX3_firstWordApart, cX3_firstWordApart, 6, some Jvm.ClassFile.FieldType.int, 3, 786, 83, 784, 785),
  (yX3_likeness, cX3_likeness, 12, some Jvm.ClassFile.FieldType.int, 3, 753, 83, 751, 752),
  (yX3_restart, cX3_restart, 3, none, 3, 654, 83, 653, 26),
  (yX3_makeFalse, cX3_makeFalse, 2, none, 3, 658, 83, 657, 27),
  (yX3_makeInput, cX3_makeInput, 4, none, 3, 666, 83, 665, 29),
  (yX3_makeGate, cX3_makeGate, 6, none, 3, 673, 83, 672, 30)]
def mR4 : List mRow := [
  (yX3_makeKind, cX3_makeKind, 5, some Jvm.ClassFile.FieldType.int, 3, 681, 83, 680, 31),
  (yX3_makeChoice, cX3_makeChoice, 6, some Jvm.ClassFile.FieldType.int, 3, 703, 83, 702, 35),
  (yX3_makeMajority, cX3_makeMajority, 7, some Jvm.ClassFile.FieldType.int, 3, 707, 83, 706, 36),
  (yX3_makeAnd, cX3_makeAnd, 7, some Jvm.ClassFile.FieldType.int, 3, 685, 83, 684, 32),
  (yX3_addAnd, cX3_addAnd, 5, some Jvm.ClassFile.FieldType.int, 3, 695, 83, 694, 33),
  (yX3_addNode, cX3_addNode, 4, none, 3, 662, 83, 661, 28),
  (yX3_wordOf, cX3_wordOf, 5, some Jvm.ClassFile.FieldType.long, 3, 699, 83, 698, 34),
  (yX4_init, cX4_init, 1, none, 4, 235, 84, 234, 0),
  (yX4_find, cX4_find, 4, none, 4, 745, 84, 743, 744),
  (yX4_leaderOf, cX4_leaderOf, 5, some Jvm.ClassFile.FieldType.int, 4, 749, 84, 748, 38),
  (yX5_init, cX5_init, 1, none, 5, 253, 85, 252, 0),
  (yX5_run, cX5_run, 4, none, 5, 773, 85, 771, 772),
  (yX5_representativeOf, cX5_representativeOf, 6, some Jvm.ClassFile.FieldType.int, 5, 777, 85, 776, 39),
  (yX5_askCandidate, cX5_askCandidate, 9, some Jvm.ClassFile.FieldType.int, 5, 781, 85, 780, 40),
  (yX5_findNeeded, cX5_findNeeded, 5, none, 5, 797, 85, 795, 796),
  (yX5_markOuts, cX5_markOuts, 3, none, 5, 801, 85, 800, 41)]
def mR5 : List mRow := [
  (yX5_mark, cX5_mark, 2, none, 5, 806, 85, 805, 42),
  (yX6_init, cX6_init, 1, none, 6, 284, 86, 283, 0),
  (yX6_append, cX6_append, 3, none, 6, 498, 86, 496, 497),
  (yX6_byteAt, cX6_byteAt, 2, some Jvm.ClassFile.FieldType.int, 6, 529, 86, 527, 528),
  (yX6_hasDigitAt, cX6_hasDigitAt, 3, some Jvm.ClassFile.FieldType.boolean, 6, 549, 86, 547, 548),
  (yX7_init, cX7_init, 1, none, 7, 152, 82, 151, 0),
  (yX7_empty, cX7_empty, 1, none, 7, 443, 82, 441, 442),
  (yX7_has, cX7_has, 2, some Jvm.ClassFile.FieldType.boolean, 7, 720, 82, 718, 719),
  (yX7_add, cX7_add, 3, none, 7, 724, 82, 722, 723),
  (yX8_init, cX8_init, 1, none, 8, 97, 80, 96, 0),
  (yX8_inputs, cX8_inputs, 2, some Jvm.ClassFile.FieldType.boolean, 8, 435, 80, 433, 434),
  (yX8_gate, cX8_gate, 8, some Jvm.ClassFile.FieldType.int, 8, 458, 80, 456, 457),
  (yX8_output, cX8_output, 5, some Jvm.ClassFile.FieldType.int, 8, 481, 80, 479, 480),
  (yX8_clear, cX8_clear, 4, some Jvm.ClassFile.FieldType.int, 8, 490, 80, 488, 489),
  (yX8_feed, cX8_feed, 6, some Jvm.ClassFile.FieldType.int, 8, 494, 80, 492, 493),
  (yX8_end, cX8_end, 2, some Jvm.ClassFile.FieldType.int, 8, 502, 80, 500, 501)]
def mR6 : List mRow := [
  (yX8_read, cX8_read, 3, some Jvm.ClassFile.FieldType.int, 8, 506, 80, 504, 505),
  (yX8_place, cX8_place, 1, some Jvm.ClassFile.FieldType.int, 8, 638, 80, 636, 637),
  (yX8_value, cX8_value, 5, some Jvm.ClassFile.FieldType.int, 8, 642, 80, 640, 641),
  (yX8_vector, cX8_vector, 2, some Jvm.ClassFile.FieldType.int, 8, 716, 80, 714, 715),
  (yX8_forget, cX8_forget, 2, some Jvm.ClassFile.FieldType.int, 8, 729, 80, 727, 728),
  (yX8_given, cX8_given, 2, some Jvm.ClassFile.FieldType.int, 8, 733, 80, 731, 732),
  (yX8_count, cX8_count, 2, some Jvm.ClassFile.FieldType.int, 8, 737, 80, 735, 736),
  (yX8_node, cX8_node, 3, some Jvm.ClassFile.FieldType.int, 8, 757, 80, 755, 756),
  (yX8_literal, cX8_literal, 4, some Jvm.ClassFile.FieldType.int, 8, 765, 80, 763, 764),
  (yX8_sweep, cX8_sweep, 1, some Jvm.ClassFile.FieldType.int, 8, 769, 80, 767, 768),
  (yX8_swept, cX8_swept, 2, some Jvm.ClassFile.FieldType.int, 8, 810, 80, 808, 809),
  (yX8_told, cX8_told, 2, some Jvm.ClassFile.FieldType.int, 8, 814, 80, 812, 813),
  (yX8_same, cX8_same, 2, some Jvm.ClassFile.FieldType.int, 8, 818, 80, 816, 817),
  (yX8_differs, cX8_differs, 2, some Jvm.ClassFile.FieldType.int, 8, 831, 80, 829, 830),
  (yX8_verdict, cX8_verdict, 2, some Jvm.ClassFile.FieldType.int, 8, 835, 80, 833, 834),
  (yX8_circuitAt, cX8_circuitAt, 2, some (Jvm.ClassFile.FieldType.object "SweepBench$Circuit"), 8, 462, 80, 461, 2)]
def mR7 : List mRow := [
  (yX8_isInputWord, cX8_isInputWord, 2, some Jvm.ClassFile.FieldType.boolean, 8, 646, 80, 645, 25),
  (yX8_noteMoreOfACircuit, cX8_noteMoreOfACircuit, 1, none, 8, 454, 80, 453, 1),
  (yX8_noteNewCircuit, cX8_noteNewCircuit, 1, none, 8, 450, 80, 449, 0),
  (yX8_bringUpGroups, cX8_bringUpGroups, 1, none, 8, 741, 80, 740, 37),
  (yX8_bothHaveOut, cX8_bothHaveOut, 2, some Jvm.ClassFile.FieldType.boolean, 8, 822, 80, 821, 43),
  (yX8_firstWordApart, cX8_firstWordApart, 4, some Jvm.ClassFile.FieldType.int, 8, 826, 80, 825, 44),
  (yX9_init, cX9_init, 1, none, 9, 840, 89, 839, 0),
  (yX9_words, cX9_words, 1, some Jvm.ClassFile.FieldType.int, 9, 1092, 89, 1091, 63),
  (yX9_isCircuit, cX9_isCircuit, 1, some Jvm.ClassFile.FieldType.boolean, 9, 994, 89, 993, 0),
  (yX9_changed, cX9_changed, 1, none, 9, 983, 89, 982, 46),
  (yX9_empty, cX9_empty, 2, none, 9, 979, 89, 978, 45),
  (yX9_inputs, cX9_inputs, 2, some Jvm.ClassFile.FieldType.boolean, 9, 975, 89, 973, 974),
  (yX9_has, cX9_has, 4, some Jvm.ClassFile.FieldType.boolean, 9, 998, 89, 997, 47),
  (yX9_gate, cX9_gate, 8, some Jvm.ClassFile.FieldType.int, 9, 991, 89, 989, 990),
  (yX9_output, cX9_output, 3, some Jvm.ClassFile.FieldType.int, 9, 1002, 89, 1000, 1001),
  (yX9_clear, cX9_clear, 3, some Jvm.ClassFile.FieldType.int, 9, 1006, 89, 1004, 1005)]
def mR8 : List mRow := [
  (yX9_feed, cX9_feed, 6, some Jvm.ClassFile.FieldType.int, 9, 1010, 89, 1008, 1009),
  (yX9_put, cX9_put, 3, none, 9, 1014, 89, 1013, 48),
  (yX9_end, cX9_end, 2, some Jvm.ClassFile.FieldType.int, 9, 1018, 89, 1016, 1017),
  (yX9_fails, cX9_fails, 3, some Jvm.ClassFile.FieldType.boolean, 9, 1034, 89, 1033, 51),
  (yX9_is, cX9_is, 2, some Jvm.ClassFile.FieldType.boolean, 9, 1030, 89, 1029, 50),
  (yX9_number, cX9_number, 2, some Jvm.ClassFile.FieldType.boolean, 9, 1038, 89, 1037, 52),
  (yX9_firstLine, cX9_firstLine, 4, some Jvm.ClassFile.FieldType.boolean, 9, 1026, 89, 1025, 49),
  (yX9_defines, cX9_defines, 4, some Jvm.ClassFile.FieldType.boolean, 9, 1046, 89, 1045, 54),
  (yX9_uses, cX9_uses, 2, some Jvm.ClassFile.FieldType.boolean, 9, 1050, 89, 1049, 55),
  (yX9_lines, cX9_lines, 3, some Jvm.ClassFile.FieldType.boolean, 9, 1042, 89, 1041, 53),
  (yX9_at0, cX9_at0, 2, some Jvm.ClassFile.FieldType.int, 9, 1054, 89, 1053, 56),
  (yX9_isDefined, cX9_isDefined, 2, some Jvm.ClassFile.FieldType.boolean, 9, 1062, 89, 1061, 58),
  (yX9_allDefined, cX9_allDefined, 3, some Jvm.ClassFile.FieldType.boolean, 9, 1058, 89, 1057, 57),
  (yX9_needsItself, cX9_needsItself, 4, some Jvm.ClassFile.FieldType.boolean, 9, 1066, 89, 1065, 59),
  (yX9_mark, cX9_mark, 5, some Jvm.ClassFile.FieldType.boolean, 9, 1070, 89, 1069, 60),
  (yX9_signalOf, cX9_signalOf, 3, some Jvm.ClassFile.FieldType.int, 9, 1079, 89, 1078, 62)]
def mR9 : List mRow := [
  (yX9_becomes, cX9_becomes, 6, none, 9, 1074, 89, 1073, 61),
  (yX9_read, cX9_read, 4, some Jvm.ClassFile.FieldType.int, 9, 1022, 89, 1020, 1021),
  (yX9_place, cX9_place, 1, some Jvm.ClassFile.FieldType.int, 9, 1084, 89, 1082, 1083),
  (yX9_newNode, cX9_newNode, 3, some Jvm.ClassFile.FieldType.int, 9, 1100, 89, 1099, 65),
  (yX9_bits, cX9_bits, 5, some Jvm.ClassFile.FieldType.long, 9, 1116, 89, 1115, 69),
  (yX9_and, cX9_and, 7, some Jvm.ClassFile.FieldType.int, 9, 1112, 89, 1111, 68),
  (yX9_side, cX9_side, 5, some Jvm.ClassFile.FieldType.int, 9, 1108, 89, 1107, 67),
  (yX9_gateOf, cX9_gateOf, 9, some Jvm.ClassFile.FieldType.int, 9, 1104, 89, 1103, 66),
  (yX9_graph, cX9_graph, 3, none, 9, 1096, 89, 1095, 64),
  (yX9_bit, cX9_bit, 3, some Jvm.ClassFile.FieldType.boolean, 9, 1121, 89, 1120, 70),
  (yX9_unlike, cX9_unlike, 4, some Jvm.ClassFile.FieldType.int, 9, 1170, 89, 1169, 76),
  (yX9_value, cX9_value, 4, some Jvm.ClassFile.FieldType.int, 9, 1088, 89, 1086, 1087),
  (yX9_isGiven, cX9_isGiven, 2, some Jvm.ClassFile.FieldType.boolean, 9, 1129, 89, 1128, 71),
  (yX9_give, cX9_give, 2, none, 9, 1133, 89, 1132, 72),
  (yX9_vector, cX9_vector, 2, some Jvm.ClassFile.FieldType.int, 9, 1125, 89, 1123, 1124),
  (yX9_forget, cX9_forget, 3, some Jvm.ClassFile.FieldType.int, 9, 987, 89, 985, 986)]
def mR10 : List mRow := [
  (yX9_given, cX9_given, 2, some Jvm.ClassFile.FieldType.int, 9, 1138, 89, 1136, 1137),
  (yX9_like, cX9_like, 8, some Jvm.ClassFile.FieldType.int, 9, 1150, 89, 1149, 74),
  (yX9_leastLike, cX9_leastLike, 3, some Jvm.ClassFile.FieldType.int, 9, 1146, 89, 1145, 73),
  (yX9_count, cX9_count, 4, some Jvm.ClassFile.FieldType.int, 9, 1142, 89, 1140, 1141),
  (yX9_node, cX9_node, 3, some Jvm.ClassFile.FieldType.int, 9, 1154, 89, 1152, 1153),
  (yX9_literal, cX9_literal, 3, some Jvm.ClassFile.FieldType.int, 9, 1158, 89, 1156, 1157),
  (yX9_candidate, cX9_candidate, 3, some Jvm.ClassFile.FieldType.int, 9, 1166, 89, 1165, 75),
  (yX9_sweep, cX9_sweep, 6, some Jvm.ClassFile.FieldType.int, 9, 1162, 89, 1160, 1161),
  (yX9_need, cX9_need, 3, none, 9, 1174, 89, 1173, 77),
  (yX9_swept, cX9_swept, 2, some Jvm.ClassFile.FieldType.int, 9, 1178, 89, 1176, 1177),
  (yX9_told, cX9_told, 2, some Jvm.ClassFile.FieldType.int, 9, 1182, 89, 1180, 1181),
  (yX9_both, cX9_both, 2, some Jvm.ClassFile.FieldType.boolean, 9, 1190, 89, 1189, 78),
  (yX9_differs, cX9_differs, 2, some Jvm.ClassFile.FieldType.int, 9, 1186, 89, 1184, 1185),
  (yX9_same, cX9_same, 2, some Jvm.ClassFile.FieldType.int, 9, 1194, 89, 1192, 1193),
  (yX9_verdict, cX9_verdict, 2, some Jvm.ClassFile.FieldType.int, 9, 1199, 89, 1197, 1198),
  (yJ13_bitCount_95d88, cJ13_bitCount_95d88, 2, some Jvm.ClassFile.FieldType.int, 11, 789, 92, 788, 0)]
def mR11 : List mRow := [
  (yJ7_fill_d0a16, cJ7_fill_d0a16, 5, none, 13, 446, 90, 445, 0),
  (yJ7_fill_53178, cJ7_fill_53178, 4, none, 13, 517, 90, 516, 0)]
def mRest : List mRow := mR1 ++ (mR2 ++ (mR3 ++ (mR4 ++ (mR5 ++ (mR6 ++ (mR7 ++ (mR8 ++ (mR9 ++ (mR10 ++ (mR11))))))))))
def mtab : List mRow := mLaw :: mRest
def mE (j : Nat) : mRow := mtab.getD j mLaw
abbrev mY (j : Nat) : MethodName := (mE j).1
abbrev mC (j : Nat) : ByteArray := (mE j).2.1
abbrev mL (j : Nat) : Nat := (mE j).2.2.1
abbrev mRt (j : Nat) : Option FieldType := (mE j).2.2.2.1
abbrev mO (j : Nat) : Nat := (mE j).2.2.2.2.1
def ptab : List (List (Nat × Instr × Nat)) := [pL_law, pX0_init, pX0_parse, pX0_fail, pX0_andOf, pX0_sideOf, pX0_startAnew, pX0_parseHead, pX0_parseHeadNumber, pX0_askHeadNumbers, pX0_isBadHeadNumber, pX0_hasTooFewVariables, pX0_parseInputLines, pX0_parseOutLines, pX0_parseAndLines, pX0_parseDefinition, pX0_parseUse, pX0_parseNumber, pX0_expect, pX0_failIf, pX0_findNotDefined, pX1_init, pX1_arrange, pX1_fill, pX1_signalOf, pX1_firstReady, pX1_isThere, pX1_failAtFirstLoop, pX1_needsItself, pX1_reachSides, pX1_reach, pX2_init, pX2_reset, pX2_hasSignal, pX2_canTake, pX2_addGate, pX2_addOut, pX2_literalOf, pX2_plain, pX3_init, pX3_bringUp, pX3_isAnd, pX3_bitOf, pX3_firstWordApart, pX3_likeness, pX3_restart, pX3_makeFalse, pX3_makeInput, pX3_makeGate, pX3_makeKind, pX3_makeChoice, pX3_makeMajority, pX3_makeAnd, pX3_addAnd, pX3_addNode, pX3_wordOf, pX4_init, pX4_find, pX4_leaderOf, pX5_init, pX5_run, pX5_representativeOf, pX5_askCandidate, pX5_findNeeded, pX5_markOuts, pX5_mark, pX6_init, pX6_append, pX6_byteAt, pX6_hasDigitAt, pX7_init, pX7_empty, pX7_has, pX7_add, pX8_init, pX8_inputs, pX8_gate, pX8_output, pX8_clear, pX8_feed, pX8_end, pX8_read, pX8_place, pX8_value, pX8_vector, pX8_forget, pX8_given, pX8_count, pX8_node, pX8_literal, pX8_sweep, pX8_swept, pX8_told, pX8_same, pX8_differs, pX8_verdict, pX8_circuitAt, pX8_isInputWord, pX8_noteMoreOfACircuit, pX8_noteNewCircuit, pX8_bringUpGroups, pX8_bothHaveOut, pX8_firstWordApart, pX9_init, pX9_words, pX9_isCircuit, pX9_changed, pX9_empty, pX9_inputs, pX9_has, pX9_gate, pX9_output, pX9_clear, pX9_feed, pX9_put, pX9_end, pX9_fails, pX9_is, pX9_number, pX9_firstLine, pX9_defines, pX9_uses, pX9_lines, pX9_at0, pX9_isDefined, pX9_allDefined, pX9_needsItself, pX9_mark, pX9_signalOf, pX9_becomes, pX9_read, pX9_place, pX9_newNode, pX9_bits, pX9_and, pX9_side, pX9_gateOf, pX9_graph, pX9_bit, pX9_unlike, pX9_value, pX9_isGiven, pX9_give, pX9_vector, pX9_forget, pX9_given, pX9_like, pX9_leastLike, pX9_count, pX9_node, pX9_literal, pX9_candidate, pX9_sweep, pX9_need, pX9_swept, pX9_told, pX9_both, pX9_differs, pX9_same, pX9_verdict, pJ13_bitCount_95d88, pJ7_fill_d0a16, pJ7_fill_53178]
def pt (j : Nat) : List (Nat × Instr × Nat) := ptab.getD j []
def ftab : List (Nat × Nat × Nat × Nat) := [(2009, 2, 0, 107), (3121, 2, 0, 108), (2015, 2, 1, 109), (3108, 2, 1, 110), (2018, 2, 2, 111), (3115, 2, 2, 112), (2021, 2, 3, 113), (3118, 2, 3, 114), (2024, 2, 4, 115), (5080, 2, 4, 116), (8230, 2, 4, 117), (2027, 2, 5, 118), (3096, 2, 5, 119), (2030, 2, 6, 120), (3051, 2, 6, 121), (2034, 2, 7, 122), (3043, 2, 7, 123), (8125, 2, 7, 124), (2037, 2, 8, 125), (8114, 2, 8, 126), (5075, 2, 8, 127), (7009, 7, 0, 154), (8170, 7, 0, 155), (7015, 7, 1, 156), (3087, 7, 1, 157), (7019, 7, 2, 158), (3084, 7, 2, 159), (7028, 7, 3, 160), (3079, 7, 3, 161), (7032, 7, 4, 162), (8169, 7, 4, 163), (3032, 3, 0, 182), (3036, 3, 1, 183), (3009, 3, 2, 184), (5066, 3, 2, 185), (8189, 3, 2, 186), (3015, 3, 3, 187), (5072, 3, 3, 188), (8192, 3, 3, 189), (3018, 3, 4, 190), (3021, 3, 5, 191), (3024, 3, 6, 192), (3070, 3, 7, 193), (3062, 3, 8, 194), (5063, 3, 8, 195), (4022, 3, 9, 196), (5029, 3, 9, 197), (3063, 3, 9, 198), (8174, 3, 9, 199), (3039, 3, 10, 200), (3048, 3, 11, 201), (3028, 3, 12, 202), (8224, 3, 12, 203), (4009, 4, 0, 237), (8183, 4, 0, 238), (4015, 4, 1, 239), (4018, 4, 2, 240), (8180, 4, 2, 241), (5009, 5, 0, 255), (8206, 5, 0, 256), (5015, 5, 1, 257), (5019, 5, 2, 258), (8209, 5, 2, 259), (5023, 5, 3, 260), (8212, 5, 3, 261), (5026, 5, 4, 262), (8203, 5, 4, 263), (5060, 5, 5, 264), (8215, 5, 5, 265), (6009, 6, 0, 286), (6015, 6, 1, 287), (54, 6, 1, 288), (8128, 6, 1, 289), (30, 0, 0, 302), (9, 0, 1, 303), (15, 0, 2, 304), (18, 0, 3, 305), (1084, 0, 3, 306), (21, 0, 4, 307), (1072, 0, 4, 308), (24, 0, 5, 309), (27, 0, 6, 310), (1094, 0, 6, 311), (84, 0, 7, 312), (72, 0, 8, 313), (1081, 0, 8, 314), (1069, 0, 9, 315), (75, 0, 9, 316), (1035, 0, 10, 317), (87, 0, 10, 318), (90, 0, 11, 319), (93, 0, 12, 320), (1051, 0, 13, 321), (96, 0, 13, 322), (1041, 0, 14, 323), (66, 0, 14, 324), (8137, 0, 14, 325), (69, 0, 15, 326), (8143, 0, 15, 327), (50, 0, 16, 328), (100, 0, 17, 329), (1025, 1, 0, 373), (1009, 1, 1, 374), (1015, 1, 2, 375), (1018, 1, 3, 376), (1021, 1, 4, 377), (1101, 1, 5, 378), (8018, 8, 0, 392), (8022, 8, 1, 393), (8028, 8, 2, 394), (8037, 8, 3, 395), (8044, 8, 4, 396), (8051, 8, 5, 397), (8058, 8, 6, 398), (8067, 8, 7, 399), (8076, 8, 8, 400), (8009, 8, 9, 401), (8080, 8, 10, 402), (8083, 8, 11, 403), (8087, 8, 12, 404), (9007, 9, 1, 846), (9013, 9, 2, 847), (9017, 9, 3, 848), (9022, 9, 4, 849), (9025, 9, 5, 850), (9028, 9, 6, 851), (9031, 9, 7, 852), (9034, 9, 8, 853), (9037, 9, 9, 854), (9108, 9, 10, 855), (9202, 9, 11, 856), (9040, 9, 12, 857), (9043, 9, 13, 858), (9048, 9, 14, 859), (9051, 9, 15, 860), (9055, 9, 16, 861), (9231, 9, 17, 862), (9112, 9, 18, 863), (9058, 9, 19, 864), (9246, 9, 20, 865), (9249, 9, 21, 866), (9264, 9, 22, 867), (9258, 9, 23, 868), (9061, 9, 24, 869), (9134, 9, 25, 870), (9065, 9, 26, 871), (9143, 9, 27, 872), (9140, 9, 28, 873), (9149, 9, 29, 874), (9068, 9, 30, 875), (9071, 9, 31, 876), (9074, 9, 32, 877), (9077, 9, 33, 878), (9080, 9, 34, 879), (9083, 9, 35, 880), (9086, 9, 36, 881), (9089, 9, 37, 882), (9092, 9, 38, 883), (9096, 9, 39, 884), (9099, 9, 40, 885), (9102, 9, 41, 886)]
def ct1 : List (Nat × Nat × Nat × Nat × Nat) := [(10009, 3, 74, 0, 95), (8003, 4, 0, 0, 98), (8015, 3, 31, 1, 103), (2003, 4, 0, 0, 106), (8027, 5, 70, 0, 150), (7003, 4, 0, 0, 153), (8034, 3, 39, 2, 178), (3003, 4, 0, 0, 181), (8043, 5, 56, 0, 233), (4003, 4, 0, 0, 236), (8050, 5, 59, 0, 251), (5003, 4, 0, 0, 254), (8057, 5, 66, 0, 282), (6003, 4, 0, 0, 285), (8064, 3, 1, 1, 298), (3, 4, 0, 0, 301)]
def ct2 : List (Nat × Nat × Nat × Nat × Nat) := [(8073, 3, 21, 1, 369), (1003, 4, 0, 0, 372), (10013, 1, 75, 1, 432), (8090, 1, 32, 1, 436), (8093, 1, 71, 0, 440), (7022, 2, 161, 2, 444), (8096, 1, 99, 0, 447), (8111, 1, 98, 0, 451), (10018, 1, 76, 5, 455), (8099, 1, 96, 1, 459), (8103, 1, 34, 4, 463), (2044, 1, 33, 1, 467), (2040, 2, 38, 1, 471), (8107, 1, 35, 4, 474), (10023, 1, 77, 2, 478), (8117, 1, 33, 1, 482)]
def ct3 : List (Nat × Nat × Nat × Nat × Nat) := [(8121, 1, 36, 1, 483), (10028, 1, 78, 1, 487), (10033, 1, 79, 5, 491), (8131, 1, 67, 1, 495), (10037, 1, 80, 1, 499), (10041, 1, 81, 1, 503), (8134, 1, 2, 1, 507), (34, 1, 6, 1, 511), (78, 2, 162, 2, 515), (38, 1, 7, 0, 518), (103, 1, 18, 1, 522), (137, 1, 68, 1, 526), (130, 1, 19, 3, 530), (59, 1, 3, 2, 534), (106, 1, 8, 0, 538), (112, 1, 17, 0, 542)]
def ct4 : List (Nat × Nat × Nat × Nat × Nat) := [(134, 1, 69, 1, 546), (6019, 1, 68, 1, 550), (109, 1, 9, 0, 551), (116, 1, 10, 1, 555), (120, 1, 11, 0, 559), (41, 1, 12, 0, 563), (124, 1, 15, 1, 567), (44, 1, 13, 0, 571), (127, 1, 16, 0, 575), (47, 1, 14, 0, 579), (63, 1, 20, 0, 583), (8140, 1, 22, 0, 587), (1029, 2, 162, 2, 591), (1044, 1, 25, 0, 592), (1061, 1, 5, 2, 596), (1087, 1, 26, 1, 600)]
def ct5 : List (Nat × Nat × Nat × Nat × Nat) := [(1078, 1, 4, 1, 604), (1048, 1, 27, 0, 608), (1091, 1, 28, 1, 612), (1104, 1, 29, 1, 616), (1108, 1, 30, 1, 620), (1097, 1, 3, 2, 624), (8146, 1, 23, 1, 625), (1055, 1, 35, 4, 629), (1065, 1, 24, 1, 630), (1075, 1, 36, 1, 634), (10045, 1, 82, 0, 635), (10050, 1, 83, 3, 639), (8150, 1, 97, 1, 643), (8153, 1, 40, 0, 647), (3054, 1, 45, 1, 651), (3090, 1, 46, 0, 655)]
def ct6 : List (Nat × Nat × Nat × Nat × Nat) := [(3099, 1, 54, 2, 659), (3093, 1, 47, 1, 663), (3058, 1, 48, 2, 670), (3111, 1, 37, 1, 674), (3124, 1, 49, 4, 678), (3128, 1, 52, 2, 682), (3139, 7, 0, 0, 686), (3144, 6, 0, 0, 689), (3147, 1, 53, 2, 692), (3066, 1, 55, 2, 696), (3132, 1, 50, 3, 700), (3136, 1, 51, 3, 704), (8156, 1, 37, 1, 708), (8159, 1, 42, 2, 709), (10055, 1, 84, 1, 713), (8163, 1, 72, 1, 717)]
def ct7 : List (Nat × Nat × Nat × Nat × Nat) := [(8166, 1, 73, 1, 721), (7035, 1, 72, 1, 725), (10059, 1, 85, 0, 726), (10063, 1, 86, 1, 730), (10067, 1, 87, 1, 734), (8177, 1, 100, 0, 738), (8227, 1, 57, 2, 742), (4027, 1, 58, 3, 746), (4031, 1, 44, 3, 750), (10071, 1, 88, 2, 754), (8186, 1, 41, 1, 758), (10075, 1, 89, 2, 762), (10079, 1, 90, 0, 766), (8195, 1, 60, 2, 770), (5034, 1, 61, 3, 774), (5038, 1, 62, 4, 778)]
def ct8 : List (Nat × Nat × Nat × Nat × Nat) := [(5042, 1, 44, 3, 782), (5046, 1, 43, 2, 783), (3073, 2, 160, 1, 787), (5050, 1, 73, 1, 793), (8199, 1, 63, 3, 794), (5056, 1, 64, 1, 798), (5083, 1, 37, 1, 802), (5069, 1, 65, 1, 803), (10083, 1, 91, 1, 807), (10087, 1, 92, 1, 811), (10091, 1, 93, 1, 815), (8218, 1, 101, 1, 819), (8221, 1, 102, 1, 823), (8233, 1, 43, 2, 827), (10095, 1, 94, 1, 828), (10099, 1, 95, 0, 832)]
def ct9 : List (Nat × Nat × Nat × Nat × Nat) := [(10012, 3, 103, 0, 838), (9001, 4, 0, 0, 841), (10017, 1, 108, 1, 972), (9118, 1, 107, 1, 976), (9115, 1, 106, 0, 980), (9122, 1, 144, 0, 984), (10022, 1, 110, 5, 988), (9126, 2, 105, 1, 992), (9130, 1, 109, 2, 995), (10027, 1, 111, 2, 999), (10032, 1, 112, 1, 1003), (10036, 1, 113, 5, 1007), (9137, 1, 114, 1, 1011), (10040, 1, 115, 1, 1015), (10044, 1, 130, 1, 1019), (9187, 1, 119, 0, 1023)]
def ct10 : List (Nat × Nat × Nat × Nat × Nat) := [(9152, 1, 117, 1, 1027), (9146, 1, 116, 2, 1031), (9155, 1, 118, 0, 1035), (9190, 1, 122, 0, 1039), (9159, 1, 120, 3, 1043), (9163, 1, 121, 1, 1047), (9166, 1, 123, 1, 1051), (9193, 1, 125, 0, 1055), (9170, 1, 124, 1, 1059), (9196, 1, 126, 1, 1063), (9173, 1, 127, 1, 1067), (9199, 1, 129, 1, 1071), (9176, 1, 110, 5, 1075), (9180, 1, 128, 1, 1076), (9183, 1, 111, 2, 1080), (10049, 1, 131, 0, 1081)]
def ct11 : List (Nat × Nat × Nat × Nat × Nat) := [(10054, 1, 140, 3, 1085), (9222, 1, 104, 0, 1089), (9228, 1, 137, 0, 1093), (9207, 1, 132, 2, 1097), (9219, 1, 136, 2, 1101), (9214, 1, 135, 2, 1105), (9217, 1, 134, 2, 1109), (9210, 1, 133, 2, 1113), (9225, 1, 138, 2, 1118), (10058, 1, 143, 1, 1122), (9234, 1, 141, 1, 1126), (9237, 1, 142, 1, 1130), (10062, 1, 144, 0, 1134), (10066, 1, 145, 1, 1135), (10070, 1, 148, 1, 1139), (9243, 1, 147, 1, 1143)]
def ct12 : List (Nat × Nat × Nat × Nat × Nat) := [(9240, 1, 146, 2, 1147), (10074, 1, 149, 2, 1151), (10078, 1, 150, 2, 1155), (10082, 1, 152, 0, 1159), (9252, 1, 151, 1, 1163), (9255, 1, 139, 2, 1167), (9261, 1, 153, 0, 1171), (10086, 1, 154, 1, 1175), (10090, 1, 155, 1, 1179), (10098, 1, 157, 1, 1183), (9267, 1, 156, 1, 1187), (10094, 1, 158, 1, 1191), (9270, 1, 157, 1, 1195), (10102, 1, 159, 0, 1196), (9273, 1, 158, 1, 1200)]
def ctab : List (Nat × Nat × Nat × Nat × Nat) := ct1 ++ (ct2 ++ (ct3 ++ (ct4 ++ (ct5 ++ (ct6 ++ (ct7 ++ (ct8 ++ (ct9 ++ (ct10 ++ (ct11 ++ (ct12)))))))))))
def ntab : List (Nat × Nat × Nat) := [(10007, 8, 93), (8013, 2, 101), (8025, 7, 148), (8032, 3, 176), (8041, 4, 231), (8048, 5, 249), (8055, 6, 280), (8062, 0, 296), (8071, 1, 367), (10010, 9, 836)]
def ltab : List (Nat × Int64 × Nat) := [(3106, -1, 669), (11314, 6148914691236517205, 790), (11316, 3689348814741910323, 791), (11318, 1085102592571150095, 792), (9205, -1, 1117)]
def gtab : List (Nat × Nat × Nat) := [(9020, 5, 842), (9046, 6, 844)]
def cpos : List (Nat × Nat) := [(297, 87), (368, 88), (102, 81), (177, 83), (232, 84), (250, 85), (281, 86), (149, 82), (94, 80), (837, 89)]
/-- the words that stay -/
def gT : List Cond := lw_tbl.filter goodWord
theorem inG {i : Nat} {w : Cond} (h : lw_tbl[i]? = some w) (hg : goodWord w = true) : w ∈ gT := List.mem_filter.mpr ⟨List.mem_of_getElem? h, hg⟩
theorem gT_good {ws : List Cond} (h : ∀ w ∈ ws, w ∈ gT) : GoodIn gT ws := fun w hw => ⟨h w hw, good_of_word (List.mem_filter.mp (h w hw)).2⟩
set_option maxRecDepth 100000 in
theorem mR1_ok : ∀ e ∈ mR1, plainName e.1.cls = true ∧ lw_tbl[e.2.2.2.2.2.2.1]? = some (.initialized e.1.cls) ∧ oN e.2.2.2.2.1 = e.1.cls ∧ e.1.cls ≠ "java/lang/invoke/MethodHandle" ∧ e.1.cls ≠ "java/lang/invoke/VarHandle" ∧ e.2.2.1 ≤ 21 := by decide +kernel
set_option maxRecDepth 100000 in
theorem mR2_ok : ∀ e ∈ mR2, plainName e.1.cls = true ∧ lw_tbl[e.2.2.2.2.2.2.1]? = some (.initialized e.1.cls) ∧ oN e.2.2.2.2.1 = e.1.cls ∧ e.1.cls ≠ "java/lang/invoke/MethodHandle" ∧ e.1.cls ≠ "java/lang/invoke/VarHandle" ∧ e.2.2.1 ≤ 21 := by decide +kernel
set_option maxRecDepth 100000 in
theorem mR3_ok : ∀ e ∈ mR3, plainName e.1.cls = true ∧ lw_tbl[e.2.2.2.2.2.2.1]? = some (.initialized e.1.cls) ∧ oN e.2.2.2.2.1 = e.1.cls ∧ e.1.cls ≠ "java/lang/invoke/MethodHandle" ∧ e.1.cls ≠ "java/lang/invoke/VarHandle" ∧ e.2.2.1 ≤ 21 := by decide +kernel
set_option maxRecDepth 100000 in
theorem mR4_ok : ∀ e ∈ mR4, plainName e.1.cls = true ∧ lw_tbl[e.2.2.2.2.2.2.1]? = some (.initialized e.1.cls) ∧ oN e.2.2.2.2.1 = e.1.cls ∧ e.1.cls ≠ "java/lang/invoke/MethodHandle" ∧ e.1.cls ≠ "java/lang/invoke/VarHandle" ∧ e.2.2.1 ≤ 21 := by decide +kernel
set_option maxRecDepth 100000 in
theorem mR5_ok : ∀ e ∈ mR5, plainName e.1.cls = true ∧ lw_tbl[e.2.2.2.2.2.2.1]? = some (.initialized e.1.cls) ∧ oN e.2.2.2.2.1 = e.1.cls ∧ e.1.cls ≠ "java/lang/invoke/MethodHandle" ∧ e.1.cls ≠ "java/lang/invoke/VarHandle" ∧ e.2.2.1 ≤ 21 := by decide +kernel
set_option maxRecDepth 100000 in
theorem mR6_ok : ∀ e ∈ mR6, plainName e.1.cls = true ∧ lw_tbl[e.2.2.2.2.2.2.1]? = some (.initialized e.1.cls) ∧ oN e.2.2.2.2.1 = e.1.cls ∧ e.1.cls ≠ "java/lang/invoke/MethodHandle" ∧ e.1.cls ≠ "java/lang/invoke/VarHandle" ∧ e.2.2.1 ≤ 21 := by decide +kernel
set_option maxRecDepth 100000 in
theorem mR7_ok : ∀ e ∈ mR7, plainName e.1.cls = true ∧ lw_tbl[e.2.2.2.2.2.2.1]? = some (.initialized e.1.cls) ∧ oN e.2.2.2.2.1 = e.1.cls ∧ e.1.cls ≠ "java/lang/invoke/MethodHandle" ∧ e.1.cls ≠ "java/lang/invoke/VarHandle" ∧ e.2.2.1 ≤ 21 := by decide +kernel
set_option maxRecDepth 100000 in
theorem mR8_ok : ∀ e ∈ mR8, plainName e.1.cls = true ∧ lw_tbl[e.2.2.2.2.2.2.1]? = some (.initialized e.1.cls) ∧ oN e.2.2.2.2.1 = e.1.cls ∧ e.1.cls ≠ "java/lang/invoke/MethodHandle" ∧ e.1.cls ≠ "java/lang/invoke/VarHandle" ∧ e.2.2.1 ≤ 21 := by decide +kernel
set_option maxRecDepth 100000 in
theorem mR9_ok : ∀ e ∈ mR9, plainName e.1.cls = true ∧ lw_tbl[e.2.2.2.2.2.2.1]? = some (.initialized e.1.cls) ∧ oN e.2.2.2.2.1 = e.1.cls ∧ e.1.cls ≠ "java/lang/invoke/MethodHandle" ∧ e.1.cls ≠ "java/lang/invoke/VarHandle" ∧ e.2.2.1 ≤ 21 := by decide +kernel
set_option maxRecDepth 100000 in
theorem mR10_ok : ∀ e ∈ mR10, plainName e.1.cls = true ∧ lw_tbl[e.2.2.2.2.2.2.1]? = some (.initialized e.1.cls) ∧ oN e.2.2.2.2.1 = e.1.cls ∧ e.1.cls ≠ "java/lang/invoke/MethodHandle" ∧ e.1.cls ≠ "java/lang/invoke/VarHandle" ∧ e.2.2.1 ≤ 21 := by decide +kernel
set_option maxRecDepth 100000 in
theorem mR11_ok : ∀ e ∈ mR11, plainName e.1.cls = true ∧ lw_tbl[e.2.2.2.2.2.2.1]? = some (.initialized e.1.cls) ∧ oN e.2.2.2.2.1 = e.1.cls ∧ e.1.cls ≠ "java/lang/invoke/MethodHandle" ∧ e.1.cls ≠ "java/lang/invoke/VarHandle" ∧ e.2.2.1 ≤ 21 := by decide +kernel
theorem mRest_ok : ∀ e ∈ mRest, plainName e.1.cls = true ∧ lw_tbl[e.2.2.2.2.2.2.1]? = some (.initialized e.1.cls) ∧ oN e.2.2.2.2.1 = e.1.cls ∧ e.1.cls ≠ "java/lang/invoke/MethodHandle" ∧ e.1.cls ≠ "java/lang/invoke/VarHandle" ∧ e.2.2.1 ≤ 21 := List.forall_mem_append.mpr ⟨mR1_ok, List.forall_mem_append.mpr ⟨mR2_ok, List.forall_mem_append.mpr ⟨mR3_ok, List.forall_mem_append.mpr ⟨mR4_ok, List.forall_mem_append.mpr ⟨mR5_ok, List.forall_mem_append.mpr ⟨mR6_ok, List.forall_mem_append.mpr ⟨mR7_ok, List.forall_mem_append.mpr ⟨mR8_ok, List.forall_mem_append.mpr ⟨mR9_ok, List.forall_mem_append.mpr ⟨mR10_ok, mR11_ok⟩⟩⟩⟩⟩⟩⟩⟩⟩⟩
set_option maxRecDepth 100000 in
theorem cw_1 : Cond.code yX0_init cX0_init 2 (none) ∈ gT := List.mem_filter.mpr ⟨List.mem_append_right _ ((List.mem_append_left _ (List.mem_of_getElem? (i := 221) rfl)) : Cond.code yX0_init cX0_init 2 (none) ∈ tables_1), rfl⟩
set_option maxRecDepth 100000 in
theorem cw_2 : Cond.code yX0_parse cX0_parse 2 (none) ∈ gT := List.mem_filter.mpr ⟨List.mem_append_right _ ((List.mem_append_right _ (List.mem_append_left _ (List.mem_of_getElem? (i := 191) rfl))) : Cond.code yX0_parse cX0_parse 2 (none) ∈ tables_1), rfl⟩
set_option maxRecDepth 100000 in
theorem cw_3 : Cond.code yX0_fail cX0_fail 3 (none) ∈ gT := List.mem_filter.mpr ⟨List.mem_append_right _ ((List.mem_append_right _ (List.mem_append_left _ (List.mem_of_getElem? (i := 218) rfl))) : Cond.code yX0_fail cX0_fail 3 (none) ∈ tables_1), rfl⟩
set_option maxRecDepth 100000 in
theorem cw_4 : Cond.code yX0_andOf cX0_andOf 3 (some Jvm.ClassFile.FieldType.int) ∈ gT := List.mem_filter.mpr ⟨List.mem_append_right _ ((List.mem_append_right _ (List.mem_append_right _ (List.mem_append_left _ (List.mem_of_getElem? (i := 48) rfl)))) : Cond.code yX0_andOf cX0_andOf 3 (some Jvm.ClassFile.FieldType.int) ∈ tables_1), rfl⟩
set_option maxRecDepth 100000 in
theorem cw_5 : Cond.code yX0_sideOf cX0_sideOf 3 (some Jvm.ClassFile.FieldType.int) ∈ gT := List.mem_filter.mpr ⟨List.mem_append_right _ ((List.mem_append_right _ (List.mem_append_right _ (List.mem_append_left _ (List.mem_of_getElem? (i := 40) rfl)))) : Cond.code yX0_sideOf cX0_sideOf 3 (some Jvm.ClassFile.FieldType.int) ∈ tables_1), rfl⟩
set_option maxRecDepth 100000 in
theorem cw_6 : Cond.code yX0_startAnew cX0_startAnew 2 (none) ∈ gT := List.mem_filter.mpr ⟨List.mem_append_right _ ((List.mem_append_right _ (List.mem_append_left _ (List.mem_of_getElem? (i := 195) rfl))) : Cond.code yX0_startAnew cX0_startAnew 2 (none) ∈ tables_1), rfl⟩
set_option maxRecDepth 100000 in
theorem cw_7 : Cond.code yX0_parseHead cX0_parseHead 2 (none) ∈ gT := List.mem_filter.mpr ⟨List.mem_append_right _ ((List.mem_append_right _ (List.mem_append_left _ (List.mem_of_getElem? (i := 202) rfl))) : Cond.code yX0_parseHead cX0_parseHead 2 (none) ∈ tables_1), rfl⟩
set_option maxRecDepth 100000 in
theorem cw_8 : Cond.code yX0_parseHeadNumber cX0_parseHeadNumber 2 (none) ∈ gT := List.mem_filter.mpr ⟨List.mem_append_right _ ((List.mem_append_right _ (List.mem_append_left _ (List.mem_of_getElem? (i := 222) rfl))) : Cond.code yX0_parseHeadNumber cX0_parseHeadNumber 2 (none) ∈ tables_1), rfl⟩
set_option maxRecDepth 100000 in
theorem cw_9 : Cond.code yX0_askHeadNumbers cX0_askHeadNumbers 2 (none) ∈ gT := List.mem_filter.mpr ⟨List.mem_append_right _ ((List.mem_append_right _ (List.mem_append_left _ (List.mem_of_getElem? (i := 235) rfl))) : Cond.code yX0_askHeadNumbers cX0_askHeadNumbers 2 (none) ∈ tables_1), rfl⟩
set_option maxRecDepth 100000 in
theorem cw_10 : Cond.code yX0_isBadHeadNumber cX0_isBadHeadNumber 2 (some Jvm.ClassFile.FieldType.boolean) ∈ gT := List.mem_filter.mpr ⟨List.mem_append_right _ ((List.mem_append_right _ (List.mem_append_left _ (List.mem_of_getElem? (i := 239) rfl))) : Cond.code yX0_isBadHeadNumber cX0_isBadHeadNumber 2 (some Jvm.ClassFile.FieldType.boolean) ∈ tables_1), rfl⟩
set_option maxRecDepth 100000 in
theorem cw_11 : Cond.code yX0_hasTooFewVariables cX0_hasTooFewVariables 1 (some Jvm.ClassFile.FieldType.boolean) ∈ gT := List.mem_filter.mpr ⟨List.mem_append_right _ ((List.mem_append_right _ (List.mem_append_right _ (List.mem_append_left _ (List.mem_of_getElem? (i := 3) rfl)))) : Cond.code yX0_hasTooFewVariables cX0_hasTooFewVariables 1 (some Jvm.ClassFile.FieldType.boolean) ∈ tables_1), rfl⟩
set_option maxRecDepth 100000 in
theorem cw_12 : Cond.code yX0_parseInputLines cX0_parseInputLines 2 (none) ∈ gT := List.mem_filter.mpr ⟨List.mem_append_right _ ((List.mem_append_right _ (List.mem_append_right _ (List.mem_append_left _ (List.mem_of_getElem? (i := 7) rfl)))) : Cond.code yX0_parseInputLines cX0_parseInputLines 2 (none) ∈ tables_1), rfl⟩
set_option maxRecDepth 100000 in
theorem cw_13 : Cond.code yX0_parseOutLines cX0_parseOutLines 2 (none) ∈ gT := List.mem_filter.mpr ⟨List.mem_append_right _ ((List.mem_append_right _ (List.mem_append_right _ (List.mem_append_left _ (List.mem_of_getElem? (i := 15) rfl)))) : Cond.code yX0_parseOutLines cX0_parseOutLines 2 (none) ∈ tables_1), rfl⟩
set_option maxRecDepth 100000 in
theorem cw_14 : Cond.code yX0_parseAndLines cX0_parseAndLines 2 (none) ∈ gT := List.mem_filter.mpr ⟨List.mem_append_right _ ((List.mem_append_right _ (List.mem_append_right _ (List.mem_append_left _ (List.mem_of_getElem? (i := 23) rfl)))) : Cond.code yX0_parseAndLines cX0_parseAndLines 2 (none) ∈ tables_1), rfl⟩
set_option maxRecDepth 100000 in
theorem cw_15 : Cond.code yX0_parseDefinition cX0_parseDefinition 4 (none) ∈ gT := List.mem_filter.mpr ⟨List.mem_append_right _ ((List.mem_append_right _ (List.mem_append_right _ (List.mem_append_left _ (List.mem_of_getElem? (i := 11) rfl)))) : Cond.code yX0_parseDefinition cX0_parseDefinition 4 (none) ∈ tables_1), rfl⟩
set_option maxRecDepth 100000 in
theorem cw_16 : Cond.code yX0_parseUse cX0_parseUse 2 (none) ∈ gT := List.mem_filter.mpr ⟨List.mem_append_right _ ((List.mem_append_right _ (List.mem_append_right _ (List.mem_append_left _ (List.mem_of_getElem? (i := 19) rfl)))) : Cond.code yX0_parseUse cX0_parseUse 2 (none) ∈ tables_1), rfl⟩
set_option maxRecDepth 100000 in
theorem cw_17 : Cond.code yX0_parseNumber cX0_parseNumber 4 (some Jvm.ClassFile.FieldType.int) ∈ gT := List.mem_filter.mpr ⟨List.mem_append_right _ ((List.mem_append_right _ (List.mem_append_left _ (List.mem_of_getElem? (i := 226) rfl))) : Cond.code yX0_parseNumber cX0_parseNumber 4 (some Jvm.ClassFile.FieldType.int) ∈ tables_1), rfl⟩
set_option maxRecDepth 100000 in
theorem cw_18 : Cond.code yX0_expect cX0_expect 2 (none) ∈ gT := List.mem_filter.mpr ⟨List.mem_append_right _ ((List.mem_append_right _ (List.mem_append_left _ (List.mem_of_getElem? (i := 206) rfl))) : Cond.code yX0_expect cX0_expect 2 (none) ∈ tables_1), rfl⟩
set_option maxRecDepth 100000 in
theorem cw_19 : Cond.code yX0_failIf cX0_failIf 4 (none) ∈ gT := List.mem_filter.mpr ⟨List.mem_append_right _ ((List.mem_append_right _ (List.mem_append_left _ (List.mem_of_getElem? (i := 214) rfl))) : Cond.code yX0_failIf cX0_failIf 4 (none) ∈ tables_1), rfl⟩
set_option maxRecDepth 100000 in
theorem cw_20 : Cond.code yX0_findNotDefined cX0_findNotDefined 3 (none) ∈ gT := List.mem_filter.mpr ⟨List.mem_append_right _ ((List.mem_append_right _ (List.mem_append_right _ (List.mem_append_left _ (List.mem_of_getElem? (i := 27) rfl)))) : Cond.code yX0_findNotDefined cX0_findNotDefined 3 (none) ∈ tables_1), rfl⟩
set_option maxRecDepth 100000 in
theorem cw_21 : Cond.code yX1_init cX1_init 2 (none) ∈ gT := List.mem_filter.mpr ⟨List.mem_append_right _ ((List.mem_append_right _ (List.mem_append_left _ (List.mem_of_getElem? (i := 52) rfl))) : Cond.code yX1_init cX1_init 2 (none) ∈ tables_1), rfl⟩
set_option maxRecDepth 100000 in
theorem cw_22 : Cond.code yX1_arrange cX1_arrange 3 (none) ∈ gT := List.mem_filter.mpr ⟨List.mem_append_right _ ((List.mem_append_right _ (List.mem_append_right _ (List.mem_append_left _ (List.mem_of_getElem? (i := 31) rfl)))) : Cond.code yX1_arrange cX1_arrange 3 (none) ∈ tables_1), rfl⟩
set_option maxRecDepth 100000 in
theorem cw_23 : Cond.code yX1_fill cX1_fill 6 (none) ∈ gT := List.mem_filter.mpr ⟨List.mem_append_right _ ((List.mem_append_right _ (List.mem_append_right _ (List.mem_append_left _ (List.mem_of_getElem? (i := 69) rfl)))) : Cond.code yX1_fill cX1_fill 6 (none) ∈ tables_1), rfl⟩
set_option maxRecDepth 100000 in
theorem cw_24 : Cond.code yX1_signalOf cX1_signalOf 5 (some Jvm.ClassFile.FieldType.int) ∈ gT := List.mem_filter.mpr ⟨List.mem_append_right _ ((List.mem_append_right _ (List.mem_append_right _ (List.mem_append_left _ (List.mem_of_getElem? (i := 74) rfl)))) : Cond.code yX1_signalOf cX1_signalOf 5 (some Jvm.ClassFile.FieldType.int) ∈ tables_1), rfl⟩
set_option maxRecDepth 100000 in
theorem cw_25 : Cond.code yX1_firstReady cX1_firstReady 2 (some Jvm.ClassFile.FieldType.int) ∈ gT := List.mem_filter.mpr ⟨List.mem_append_right _ ((List.mem_append_right _ (List.mem_append_right _ (List.mem_append_left _ (List.mem_of_getElem? (i := 36) rfl)))) : Cond.code yX1_firstReady cX1_firstReady 2 (some Jvm.ClassFile.FieldType.int) ∈ tables_1), rfl⟩
set_option maxRecDepth 100000 in
theorem cw_26 : Cond.code yX1_isThere cX1_isThere 3 (some Jvm.ClassFile.FieldType.boolean) ∈ gT := List.mem_filter.mpr ⟨List.mem_append_right _ ((List.mem_append_right _ (List.mem_append_right _ (List.mem_append_left _ (List.mem_of_getElem? (i := 44) rfl)))) : Cond.code yX1_isThere cX1_isThere 3 (some Jvm.ClassFile.FieldType.boolean) ∈ tables_1), rfl⟩
set_option maxRecDepth 100000 in
theorem cw_27 : Cond.code yX1_failAtFirstLoop cX1_failAtFirstLoop 2 (none) ∈ gT := List.mem_filter.mpr ⟨List.mem_append_right _ ((List.mem_append_right _ (List.mem_append_right _ (List.mem_append_left _ (List.mem_of_getElem? (i := 52) rfl)))) : Cond.code yX1_failAtFirstLoop cX1_failAtFirstLoop 2 (none) ∈ tables_1), rfl⟩
set_option maxRecDepth 100000 in
theorem cw_28 : Cond.code yX1_needsItself cX1_needsItself 3 (some Jvm.ClassFile.FieldType.boolean) ∈ gT := List.mem_filter.mpr ⟨List.mem_append_right _ ((List.mem_append_right _ (List.mem_append_right _ (List.mem_append_left _ (List.mem_of_getElem? (i := 56) rfl)))) : Cond.code yX1_needsItself cX1_needsItself 3 (some Jvm.ClassFile.FieldType.boolean) ∈ tables_1), rfl⟩
set_option maxRecDepth 100000 in
theorem cw_29 : Cond.code yX1_reachSides cX1_reachSides 2 (none) ∈ gT := List.mem_filter.mpr ⟨List.mem_append_right _ ((List.mem_append_right _ (List.mem_append_right _ (List.mem_append_left _ (List.mem_of_getElem? (i := 60) rfl)))) : Cond.code yX1_reachSides cX1_reachSides 2 (none) ∈ tables_1), rfl⟩
set_option maxRecDepth 100000 in
theorem cw_30 : Cond.code yX1_reach cX1_reach 2 (none) ∈ gT := List.mem_filter.mpr ⟨List.mem_append_right _ ((List.mem_append_right _ (List.mem_append_right _ (List.mem_append_left _ (List.mem_of_getElem? (i := 64) rfl)))) : Cond.code yX1_reach cX1_reach 2 (none) ∈ tables_1), rfl⟩
set_option maxRecDepth 100000 in
theorem cw_31 : Cond.code yX2_init cX2_init 2 (none) ∈ gT := List.mem_filter.mpr ⟨List.mem_append_right _ ((List.mem_append_left _ (List.mem_of_getElem? (i := 26) rfl)) : Cond.code yX2_init cX2_init 2 (none) ∈ tables_1), rfl⟩
set_option maxRecDepth 100000 in
theorem cw_32 : Cond.code yX2_reset cX2_reset 2 (none) ∈ gT := List.mem_filter.mpr ⟨List.mem_append_right _ ((List.mem_append_right _ (List.mem_append_left _ (List.mem_of_getElem? (i := 120) rfl))) : Cond.code yX2_reset cX2_reset 2 (none) ∈ tables_1), rfl⟩
set_option maxRecDepth 100000 in
theorem cw_33 : Cond.code yX2_hasSignal cX2_hasSignal 2 (some Jvm.ClassFile.FieldType.boolean) ∈ gT := List.mem_filter.mpr ⟨List.mem_append_right _ ((List.mem_append_right _ (List.mem_append_left _ (List.mem_of_getElem? (i := 151) rfl))) : Cond.code yX2_hasSignal cX2_hasSignal 2 (some Jvm.ClassFile.FieldType.boolean) ∈ tables_1), rfl⟩
set_option maxRecDepth 100000 in
theorem cw_34 : Cond.code yX2_canTake cX2_canTake 6 (some Jvm.ClassFile.FieldType.boolean) ∈ gT := List.mem_filter.mpr ⟨List.mem_append_right _ ((List.mem_append_right _ (List.mem_append_left _ (List.mem_of_getElem? (i := 147) rfl))) : Cond.code yX2_canTake cX2_canTake 6 (some Jvm.ClassFile.FieldType.boolean) ∈ tables_1), rfl⟩
set_option maxRecDepth 100000 in
theorem cw_35 : Cond.code yX2_addGate cX2_addGate 5 (some Jvm.ClassFile.FieldType.int) ∈ gT := List.mem_filter.mpr ⟨List.mem_append_right _ ((List.mem_append_right _ (List.mem_append_left _ (List.mem_of_getElem? (i := 158) rfl))) : Cond.code yX2_addGate cX2_addGate 5 (some Jvm.ClassFile.FieldType.int) ∈ tables_1), rfl⟩
set_option maxRecDepth 100000 in
theorem cw_36 : Cond.code yX2_addOut cX2_addOut 2 (some Jvm.ClassFile.FieldType.int) ∈ gT := List.mem_filter.mpr ⟨List.mem_append_right _ ((List.mem_append_right _ (List.mem_append_left _ (List.mem_of_getElem? (i := 167) rfl))) : Cond.code yX2_addOut cX2_addOut 2 (some Jvm.ClassFile.FieldType.int) ∈ tables_1), rfl⟩
set_option maxRecDepth 100000 in
theorem cw_37 : Cond.code yX2_literalOf cX2_literalOf 2 (some Jvm.ClassFile.FieldType.int) ∈ gT := List.mem_filter.mpr ⟨List.mem_append_right _ ((List.mem_append_right _ (List.mem_append_right _ (List.mem_append_left _ (List.mem_of_getElem? (i := 118) rfl)))) : Cond.code yX2_literalOf cX2_literalOf 2 (some Jvm.ClassFile.FieldType.int) ∈ tables_1), rfl⟩
set_option maxRecDepth 100000 in
theorem cw_38 : Cond.code yX2_plain cX2_plain 1 (some Jvm.ClassFile.FieldType.int) ∈ gT := List.mem_filter.mpr ⟨List.mem_append_right _ ((List.mem_append_right _ (List.mem_append_left _ (List.mem_of_getElem? (i := 154) rfl))) : Cond.code yX2_plain cX2_plain 1 (some Jvm.ClassFile.FieldType.int) ∈ tables_1), rfl⟩
set_option maxRecDepth 100000 in
theorem cw_39 : Cond.code yX3_init cX3_init 3 (none) ∈ gT := List.mem_filter.mpr ⟨List.mem_append_right _ ((List.mem_append_left _ (List.mem_of_getElem? (i := 101) rfl)) : Cond.code yX3_init cX3_init 3 (none) ∈ tables_1), rfl⟩
set_option maxRecDepth 100000 in
theorem cw_40 : Cond.code yX3_bringUp cX3_bringUp 2 (none) ∈ gT := List.mem_filter.mpr ⟨List.mem_append_right _ ((List.mem_append_right _ (List.mem_append_right _ (List.mem_append_left _ (List.mem_of_getElem? (i := 91) rfl)))) : Cond.code yX3_bringUp cX3_bringUp 2 (none) ∈ tables_1), rfl⟩
set_option maxRecDepth 100000 in
theorem cw_41 : Cond.code yX3_isAnd cX3_isAnd 2 (some Jvm.ClassFile.FieldType.boolean) ∈ gT := List.mem_filter.mpr ⟨List.mem_append_right _ ((List.mem_append_right _ (List.mem_append_right _ (List.mem_append_left _ (List.mem_of_getElem? (i := 202) rfl)))) : Cond.code yX3_isAnd cX3_isAnd 2 (some Jvm.ClassFile.FieldType.boolean) ∈ tables_1), rfl⟩
set_option maxRecDepth 100000 in
theorem cw_42 : Cond.code yX3_bitOf cX3_bitOf 3 (some Jvm.ClassFile.FieldType.int) ∈ gT := List.mem_filter.mpr ⟨List.mem_append_right _ ((List.mem_append_right _ (List.mem_append_right _ (List.mem_append_left _ (List.mem_of_getElem? (i := 153) rfl)))) : Cond.code yX3_bitOf cX3_bitOf 3 (some Jvm.ClassFile.FieldType.int) ∈ tables_1), rfl⟩
set_option maxRecDepth 100000 in
theorem cw_43 : Cond.code yX3_firstWordApart cX3_firstWordApart 6 (some Jvm.ClassFile.FieldType.int) ∈ gT := List.mem_filter.mpr ⟨List.mem_append_right _ ((List.mem_append_right _ (List.mem_append_right _ (List.mem_append_left _ (List.mem_of_getElem? (i := 227) rfl)))) : Cond.code yX3_firstWordApart cX3_firstWordApart 6 (some Jvm.ClassFile.FieldType.int) ∈ tables_1), rfl⟩
set_option maxRecDepth 100000 in
theorem cw_44 : Cond.code yX3_likeness cX3_likeness 12 (some Jvm.ClassFile.FieldType.int) ∈ gT := List.mem_filter.mpr ⟨List.mem_append_right _ ((List.mem_append_right _ (List.mem_append_right _ (List.mem_append_left _ (List.mem_of_getElem? (i := 194) rfl)))) : Cond.code yX3_likeness cX3_likeness 12 (some Jvm.ClassFile.FieldType.int) ∈ tables_1), rfl⟩
set_option maxRecDepth 100000 in
theorem cw_45 : Cond.code yX3_restart cX3_restart 3 (none) ∈ gT := List.mem_filter.mpr ⟨List.mem_append_right _ ((List.mem_append_right _ (List.mem_append_right _ (List.mem_append_left _ (List.mem_of_getElem? (i := 95) rfl)))) : Cond.code yX3_restart cX3_restart 3 (none) ∈ tables_1), rfl⟩
set_option maxRecDepth 100000 in
theorem cw_46 : Cond.code yX3_makeFalse cX3_makeFalse 2 (none) ∈ gT := List.mem_filter.mpr ⟨List.mem_append_right _ ((List.mem_append_right _ (List.mem_append_right _ (List.mem_append_left _ (List.mem_of_getElem? (i := 99) rfl)))) : Cond.code yX3_makeFalse cX3_makeFalse 2 (none) ∈ tables_1), rfl⟩
set_option maxRecDepth 100000 in
theorem cw_47 : Cond.code yX3_makeInput cX3_makeInput 4 (none) ∈ gT := List.mem_filter.mpr ⟨List.mem_append_right _ ((List.mem_append_right _ (List.mem_append_right _ (List.mem_append_left _ (List.mem_of_getElem? (i := 107) rfl)))) : Cond.code yX3_makeInput cX3_makeInput 4 (none) ∈ tables_1), rfl⟩
set_option maxRecDepth 100000 in
theorem cw_48 : Cond.code yX3_makeGate cX3_makeGate 6 (none) ∈ gT := List.mem_filter.mpr ⟨List.mem_append_right _ ((List.mem_append_right _ (List.mem_append_right _ (List.mem_append_left _ (List.mem_of_getElem? (i := 114) rfl)))) : Cond.code yX3_makeGate cX3_makeGate 6 (none) ∈ tables_1), rfl⟩
set_option maxRecDepth 100000 in
theorem cw_49 : Cond.code yX3_makeKind cX3_makeKind 5 (some Jvm.ClassFile.FieldType.int) ∈ gT := List.mem_filter.mpr ⟨List.mem_append_right _ ((List.mem_append_right _ (List.mem_append_right _ (List.mem_append_left _ (List.mem_of_getElem? (i := 122) rfl)))) : Cond.code yX3_makeKind cX3_makeKind 5 (some Jvm.ClassFile.FieldType.int) ∈ tables_1), rfl⟩
set_option maxRecDepth 100000 in
theorem cw_50 : Cond.code yX3_makeChoice cX3_makeChoice 6 (some Jvm.ClassFile.FieldType.int) ∈ gT := List.mem_filter.mpr ⟨List.mem_append_right _ ((List.mem_append_right _ (List.mem_append_right _ (List.mem_append_left _ (List.mem_of_getElem? (i := 144) rfl)))) : Cond.code yX3_makeChoice cX3_makeChoice 6 (some Jvm.ClassFile.FieldType.int) ∈ tables_1), rfl⟩
set_option maxRecDepth 100000 in
theorem cw_51 : Cond.code yX3_makeMajority cX3_makeMajority 7 (some Jvm.ClassFile.FieldType.int) ∈ gT := List.mem_filter.mpr ⟨List.mem_append_right _ ((List.mem_append_right _ (List.mem_append_right _ (List.mem_append_left _ (List.mem_of_getElem? (i := 148) rfl)))) : Cond.code yX3_makeMajority cX3_makeMajority 7 (some Jvm.ClassFile.FieldType.int) ∈ tables_1), rfl⟩
set_option maxRecDepth 100000 in
theorem cw_52 : Cond.code yX3_makeAnd cX3_makeAnd 7 (some Jvm.ClassFile.FieldType.int) ∈ gT := List.mem_filter.mpr ⟨List.mem_append_right _ ((List.mem_append_right _ (List.mem_append_right _ (List.mem_append_left _ (List.mem_of_getElem? (i := 126) rfl)))) : Cond.code yX3_makeAnd cX3_makeAnd 7 (some Jvm.ClassFile.FieldType.int) ∈ tables_1), rfl⟩
set_option maxRecDepth 100000 in
theorem cw_53 : Cond.code yX3_addAnd cX3_addAnd 5 (some Jvm.ClassFile.FieldType.int) ∈ gT := List.mem_filter.mpr ⟨List.mem_append_right _ ((List.mem_append_right _ (List.mem_append_right _ (List.mem_append_left _ (List.mem_of_getElem? (i := 136) rfl)))) : Cond.code yX3_addAnd cX3_addAnd 5 (some Jvm.ClassFile.FieldType.int) ∈ tables_1), rfl⟩
set_option maxRecDepth 100000 in
theorem cw_54 : Cond.code yX3_addNode cX3_addNode 4 (none) ∈ gT := List.mem_filter.mpr ⟨List.mem_append_right _ ((List.mem_append_right _ (List.mem_append_right _ (List.mem_append_left _ (List.mem_of_getElem? (i := 103) rfl)))) : Cond.code yX3_addNode cX3_addNode 4 (none) ∈ tables_1), rfl⟩
set_option maxRecDepth 100000 in
theorem cw_55 : Cond.code yX3_wordOf cX3_wordOf 5 (some Jvm.ClassFile.FieldType.long) ∈ gT := List.mem_filter.mpr ⟨List.mem_append_right _ ((List.mem_append_right _ (List.mem_append_right _ (List.mem_append_left _ (List.mem_of_getElem? (i := 140) rfl)))) : Cond.code yX3_wordOf cX3_wordOf 5 (some Jvm.ClassFile.FieldType.long) ∈ tables_1), rfl⟩
set_option maxRecDepth 100000 in
theorem cw_56 : Cond.code yX4_init cX4_init 1 (none) ∈ gT := List.mem_filter.mpr ⟨List.mem_append_right _ ((List.mem_append_left _ (List.mem_of_getElem? (i := 156) rfl)) : Cond.code yX4_init cX4_init 1 (none) ∈ tables_1), rfl⟩
set_option maxRecDepth 100000 in
theorem cw_57 : Cond.code yX4_find cX4_find 4 (none) ∈ gT := List.mem_filter.mpr ⟨List.mem_append_right _ ((List.mem_append_right _ (List.mem_append_right _ (List.mem_append_left _ (List.mem_of_getElem? (i := 186) rfl)))) : Cond.code yX4_find cX4_find 4 (none) ∈ tables_1), rfl⟩
set_option maxRecDepth 100000 in
theorem cw_58 : Cond.code yX4_leaderOf cX4_leaderOf 5 (some Jvm.ClassFile.FieldType.int) ∈ gT := List.mem_filter.mpr ⟨List.mem_append_right _ ((List.mem_append_right _ (List.mem_append_right _ (List.mem_append_left _ (List.mem_of_getElem? (i := 190) rfl)))) : Cond.code yX4_leaderOf cX4_leaderOf 5 (some Jvm.ClassFile.FieldType.int) ∈ tables_1), rfl⟩
set_option maxRecDepth 100000 in
theorem cw_59 : Cond.code yX5_init cX5_init 1 (none) ∈ gT := List.mem_filter.mpr ⟨List.mem_append_right _ ((List.mem_append_left _ (List.mem_of_getElem? (i := 174) rfl)) : Cond.code yX5_init cX5_init 1 (none) ∈ tables_1), rfl⟩
set_option maxRecDepth 100000 in
theorem cw_60 : Cond.code yX5_run cX5_run 4 (none) ∈ gT := List.mem_filter.mpr ⟨List.mem_append_right _ ((List.mem_append_right _ (List.mem_append_right _ (List.mem_append_left _ (List.mem_of_getElem? (i := 214) rfl)))) : Cond.code yX5_run cX5_run 4 (none) ∈ tables_1), rfl⟩
set_option maxRecDepth 100000 in
theorem cw_61 : Cond.code yX5_representativeOf cX5_representativeOf 6 (some Jvm.ClassFile.FieldType.int) ∈ gT := List.mem_filter.mpr ⟨List.mem_append_right _ ((List.mem_append_right _ (List.mem_append_right _ (List.mem_append_left _ (List.mem_of_getElem? (i := 218) rfl)))) : Cond.code yX5_representativeOf cX5_representativeOf 6 (some Jvm.ClassFile.FieldType.int) ∈ tables_1), rfl⟩
set_option maxRecDepth 100000 in
theorem cw_62 : Cond.code yX5_askCandidate cX5_askCandidate 9 (some Jvm.ClassFile.FieldType.int) ∈ gT := List.mem_filter.mpr ⟨List.mem_append_right _ ((List.mem_append_right _ (List.mem_append_right _ (List.mem_append_left _ (List.mem_of_getElem? (i := 222) rfl)))) : Cond.code yX5_askCandidate cX5_askCandidate 9 (some Jvm.ClassFile.FieldType.int) ∈ tables_1), rfl⟩
set_option maxRecDepth 100000 in
theorem cw_63 : Cond.code yX5_findNeeded cX5_findNeeded 5 (none) ∈ gT := List.mem_filter.mpr ⟨List.mem_append_right _ ((List.mem_append_right _ (List.mem_append_right _ (List.mem_append_left _ (List.mem_of_getElem? (i := 238) rfl)))) : Cond.code yX5_findNeeded cX5_findNeeded 5 (none) ∈ tables_1), rfl⟩
set_option maxRecDepth 100000 in
theorem cw_64 : Cond.code yX5_markOuts cX5_markOuts 3 (none) ∈ gT := List.mem_filter.mpr ⟨List.mem_append_right _ ((List.mem_append_right _ (List.mem_append_right _ (List.mem_append_right _ (List.mem_append_left _ (List.mem_of_getElem? (i := 2) rfl))))) : Cond.code yX5_markOuts cX5_markOuts 3 (none) ∈ tables_1), rfl⟩
set_option maxRecDepth 100000 in
theorem cw_65 : Cond.code yX5_mark cX5_mark 2 (none) ∈ gT := List.mem_filter.mpr ⟨List.mem_append_right _ ((List.mem_append_right _ (List.mem_append_right _ (List.mem_append_right _ (List.mem_append_left _ (List.mem_of_getElem? (i := 7) rfl))))) : Cond.code yX5_mark cX5_mark 2 (none) ∈ tables_1), rfl⟩
set_option maxRecDepth 100000 in
theorem cw_66 : Cond.code yX6_init cX6_init 1 (none) ∈ gT := List.mem_filter.mpr ⟨List.mem_append_right _ ((List.mem_append_left _ (List.mem_of_getElem? (i := 205) rfl)) : Cond.code yX6_init cX6_init 1 (none) ∈ tables_1), rfl⟩
set_option maxRecDepth 100000 in
theorem cw_67 : Cond.code yX6_append cX6_append 3 (none) ∈ gT := List.mem_filter.mpr ⟨List.mem_append_right _ ((List.mem_append_right _ (List.mem_append_left _ (List.mem_of_getElem? (i := 179) rfl))) : Cond.code yX6_append cX6_append 3 (none) ∈ tables_1), rfl⟩
set_option maxRecDepth 100000 in
theorem cw_68 : Cond.code yX6_byteAt cX6_byteAt 2 (some Jvm.ClassFile.FieldType.int) ∈ gT := List.mem_filter.mpr ⟨List.mem_append_right _ ((List.mem_append_right _ (List.mem_append_left _ (List.mem_of_getElem? (i := 210) rfl))) : Cond.code yX6_byteAt cX6_byteAt 2 (some Jvm.ClassFile.FieldType.int) ∈ tables_1), rfl⟩
set_option maxRecDepth 100000 in
theorem cw_69 : Cond.code yX6_hasDigitAt cX6_hasDigitAt 3 (some Jvm.ClassFile.FieldType.boolean) ∈ gT := List.mem_filter.mpr ⟨List.mem_append_right _ ((List.mem_append_right _ (List.mem_append_left _ (List.mem_of_getElem? (i := 230) rfl))) : Cond.code yX6_hasDigitAt cX6_hasDigitAt 3 (some Jvm.ClassFile.FieldType.boolean) ∈ tables_1), rfl⟩
set_option maxRecDepth 100000 in
theorem cw_70 : Cond.code yX7_init cX7_init 1 (none) ∈ gT := List.mem_filter.mpr ⟨List.mem_append_right _ ((List.mem_append_left _ (List.mem_of_getElem? (i := 73) rfl)) : Cond.code yX7_init cX7_init 1 (none) ∈ tables_1), rfl⟩
set_option maxRecDepth 100000 in
theorem cw_71 : Cond.code yX7_empty cX7_empty 1 (none) ∈ gT := List.mem_filter.mpr ⟨List.mem_append_right _ ((List.mem_append_right _ (List.mem_append_left _ (List.mem_of_getElem? (i := 124) rfl))) : Cond.code yX7_empty cX7_empty 1 (none) ∈ tables_1), rfl⟩
set_option maxRecDepth 100000 in
theorem cw_72 : Cond.code yX7_has cX7_has 2 (some Jvm.ClassFile.FieldType.boolean) ∈ gT := List.mem_filter.mpr ⟨List.mem_append_right _ ((List.mem_append_right _ (List.mem_append_right _ (List.mem_append_left _ (List.mem_of_getElem? (i := 161) rfl)))) : Cond.code yX7_has cX7_has 2 (some Jvm.ClassFile.FieldType.boolean) ∈ tables_1), rfl⟩
set_option maxRecDepth 100000 in
theorem cw_73 : Cond.code yX7_add cX7_add 3 (none) ∈ gT := List.mem_filter.mpr ⟨List.mem_append_right _ ((List.mem_append_right _ (List.mem_append_right _ (List.mem_append_left _ (List.mem_of_getElem? (i := 165) rfl)))) : Cond.code yX7_add cX7_add 3 (none) ∈ tables_1), rfl⟩
set_option maxRecDepth 100000 in
theorem cw_74 : Cond.code yX8_init cX8_init 1 (none) ∈ gT := List.mem_filter.mpr ⟨List.mem_append_right _ ((List.mem_append_left _ (List.mem_of_getElem? (i := 18) rfl)) : Cond.code yX8_init cX8_init 1 (none) ∈ tables_1), rfl⟩
set_option maxRecDepth 100000 in
theorem cw_75 : Cond.code yX8_inputs cX8_inputs 2 (some Jvm.ClassFile.FieldType.boolean) ∈ gT := List.mem_filter.mpr ⟨List.mem_append_right _ ((List.mem_append_right _ (List.mem_append_left _ (List.mem_of_getElem? (i := 116) rfl))) : Cond.code yX8_inputs cX8_inputs 2 (some Jvm.ClassFile.FieldType.boolean) ∈ tables_1), rfl⟩
set_option maxRecDepth 100000 in
theorem cw_76 : Cond.code yX8_gate cX8_gate 8 (some Jvm.ClassFile.FieldType.int) ∈ gT := List.mem_filter.mpr ⟨List.mem_append_right _ ((List.mem_append_right _ (List.mem_append_left _ (List.mem_of_getElem? (i := 139) rfl))) : Cond.code yX8_gate cX8_gate 8 (some Jvm.ClassFile.FieldType.int) ∈ tables_1), rfl⟩
set_option maxRecDepth 100000 in
theorem cw_77 : Cond.code yX8_output cX8_output 5 (some Jvm.ClassFile.FieldType.int) ∈ gT := List.mem_filter.mpr ⟨List.mem_append_right _ ((List.mem_append_right _ (List.mem_append_left _ (List.mem_of_getElem? (i := 162) rfl))) : Cond.code yX8_output cX8_output 5 (some Jvm.ClassFile.FieldType.int) ∈ tables_1), rfl⟩
set_option maxRecDepth 100000 in
theorem cw_78 : Cond.code yX8_clear cX8_clear 4 (some Jvm.ClassFile.FieldType.int) ∈ gT := List.mem_filter.mpr ⟨List.mem_append_right _ ((List.mem_append_right _ (List.mem_append_left _ (List.mem_of_getElem? (i := 171) rfl))) : Cond.code yX8_clear cX8_clear 4 (some Jvm.ClassFile.FieldType.int) ∈ tables_1), rfl⟩
set_option maxRecDepth 100000 in
theorem cw_79 : Cond.code yX8_feed cX8_feed 6 (some Jvm.ClassFile.FieldType.int) ∈ gT := List.mem_filter.mpr ⟨List.mem_append_right _ ((List.mem_append_right _ (List.mem_append_left _ (List.mem_of_getElem? (i := 175) rfl))) : Cond.code yX8_feed cX8_feed 6 (some Jvm.ClassFile.FieldType.int) ∈ tables_1), rfl⟩
set_option maxRecDepth 100000 in
theorem cw_80 : Cond.code yX8_end cX8_end 2 (some Jvm.ClassFile.FieldType.int) ∈ gT := List.mem_filter.mpr ⟨List.mem_append_right _ ((List.mem_append_right _ (List.mem_append_left _ (List.mem_of_getElem? (i := 183) rfl))) : Cond.code yX8_end cX8_end 2 (some Jvm.ClassFile.FieldType.int) ∈ tables_1), rfl⟩
set_option maxRecDepth 100000 in
theorem cw_81 : Cond.code yX8_read cX8_read 3 (some Jvm.ClassFile.FieldType.int) ∈ gT := List.mem_filter.mpr ⟨List.mem_append_right _ ((List.mem_append_right _ (List.mem_append_left _ (List.mem_of_getElem? (i := 187) rfl))) : Cond.code yX8_read cX8_read 3 (some Jvm.ClassFile.FieldType.int) ∈ tables_1), rfl⟩
set_option maxRecDepth 100000 in
theorem cw_82 : Cond.code yX8_place cX8_place 1 (some Jvm.ClassFile.FieldType.int) ∈ gT := List.mem_filter.mpr ⟨List.mem_append_right _ ((List.mem_append_right _ (List.mem_append_right _ (List.mem_append_left _ (List.mem_of_getElem? (i := 79) rfl)))) : Cond.code yX8_place cX8_place 1 (some Jvm.ClassFile.FieldType.int) ∈ tables_1), rfl⟩
set_option maxRecDepth 100000 in
theorem cw_83 : Cond.code yX8_value cX8_value 5 (some Jvm.ClassFile.FieldType.int) ∈ gT := List.mem_filter.mpr ⟨List.mem_append_right _ ((List.mem_append_right _ (List.mem_append_right _ (List.mem_append_left _ (List.mem_of_getElem? (i := 83) rfl)))) : Cond.code yX8_value cX8_value 5 (some Jvm.ClassFile.FieldType.int) ∈ tables_1), rfl⟩
set_option maxRecDepth 100000 in
theorem cw_84 : Cond.code yX8_vector cX8_vector 2 (some Jvm.ClassFile.FieldType.int) ∈ gT := List.mem_filter.mpr ⟨List.mem_append_right _ ((List.mem_append_right _ (List.mem_append_right _ (List.mem_append_left _ (List.mem_of_getElem? (i := 157) rfl)))) : Cond.code yX8_vector cX8_vector 2 (some Jvm.ClassFile.FieldType.int) ∈ tables_1), rfl⟩
set_option maxRecDepth 100000 in
theorem cw_85 : Cond.code yX8_forget cX8_forget 2 (some Jvm.ClassFile.FieldType.int) ∈ gT := List.mem_filter.mpr ⟨List.mem_append_right _ ((List.mem_append_right _ (List.mem_append_right _ (List.mem_append_left _ (List.mem_of_getElem? (i := 170) rfl)))) : Cond.code yX8_forget cX8_forget 2 (some Jvm.ClassFile.FieldType.int) ∈ tables_1), rfl⟩
set_option maxRecDepth 100000 in
theorem cw_86 : Cond.code yX8_given cX8_given 2 (some Jvm.ClassFile.FieldType.int) ∈ gT := List.mem_filter.mpr ⟨List.mem_append_right _ ((List.mem_append_right _ (List.mem_append_right _ (List.mem_append_left _ (List.mem_of_getElem? (i := 174) rfl)))) : Cond.code yX8_given cX8_given 2 (some Jvm.ClassFile.FieldType.int) ∈ tables_1), rfl⟩
set_option maxRecDepth 100000 in
theorem cw_87 : Cond.code yX8_count cX8_count 2 (some Jvm.ClassFile.FieldType.int) ∈ gT := List.mem_filter.mpr ⟨List.mem_append_right _ ((List.mem_append_right _ (List.mem_append_right _ (List.mem_append_left _ (List.mem_of_getElem? (i := 178) rfl)))) : Cond.code yX8_count cX8_count 2 (some Jvm.ClassFile.FieldType.int) ∈ tables_1), rfl⟩
set_option maxRecDepth 100000 in
theorem cw_88 : Cond.code yX8_node cX8_node 3 (some Jvm.ClassFile.FieldType.int) ∈ gT := List.mem_filter.mpr ⟨List.mem_append_right _ ((List.mem_append_right _ (List.mem_append_right _ (List.mem_append_left _ (List.mem_of_getElem? (i := 198) rfl)))) : Cond.code yX8_node cX8_node 3 (some Jvm.ClassFile.FieldType.int) ∈ tables_1), rfl⟩
set_option maxRecDepth 100000 in
theorem cw_89 : Cond.code yX8_literal cX8_literal 4 (some Jvm.ClassFile.FieldType.int) ∈ gT := List.mem_filter.mpr ⟨List.mem_append_right _ ((List.mem_append_right _ (List.mem_append_right _ (List.mem_append_left _ (List.mem_of_getElem? (i := 206) rfl)))) : Cond.code yX8_literal cX8_literal 4 (some Jvm.ClassFile.FieldType.int) ∈ tables_1), rfl⟩
set_option maxRecDepth 100000 in
theorem cw_90 : Cond.code yX8_sweep cX8_sweep 1 (some Jvm.ClassFile.FieldType.int) ∈ gT := List.mem_filter.mpr ⟨List.mem_append_right _ ((List.mem_append_right _ (List.mem_append_right _ (List.mem_append_left _ (List.mem_of_getElem? (i := 210) rfl)))) : Cond.code yX8_sweep cX8_sweep 1 (some Jvm.ClassFile.FieldType.int) ∈ tables_1), rfl⟩
set_option maxRecDepth 100000 in
theorem cw_91 : Cond.code yX8_swept cX8_swept 2 (some Jvm.ClassFile.FieldType.int) ∈ gT := List.mem_filter.mpr ⟨List.mem_append_right _ ((List.mem_append_right _ (List.mem_append_right _ (List.mem_append_right _ (List.mem_append_left _ (List.mem_of_getElem? (i := 11) rfl))))) : Cond.code yX8_swept cX8_swept 2 (some Jvm.ClassFile.FieldType.int) ∈ tables_1), rfl⟩
set_option maxRecDepth 100000 in
theorem cw_92 : Cond.code yX8_told cX8_told 2 (some Jvm.ClassFile.FieldType.int) ∈ gT := List.mem_filter.mpr ⟨List.mem_append_right _ ((List.mem_append_right _ (List.mem_append_right _ (List.mem_append_right _ (List.mem_append_left _ (List.mem_of_getElem? (i := 15) rfl))))) : Cond.code yX8_told cX8_told 2 (some Jvm.ClassFile.FieldType.int) ∈ tables_1), rfl⟩
set_option maxRecDepth 100000 in
theorem cw_93 : Cond.code yX8_same cX8_same 2 (some Jvm.ClassFile.FieldType.int) ∈ gT := List.mem_filter.mpr ⟨List.mem_append_right _ ((List.mem_append_right _ (List.mem_append_right _ (List.mem_append_right _ (List.mem_append_left _ (List.mem_of_getElem? (i := 19) rfl))))) : Cond.code yX8_same cX8_same 2 (some Jvm.ClassFile.FieldType.int) ∈ tables_1), rfl⟩
set_option maxRecDepth 100000 in
theorem cw_94 : Cond.code yX8_differs cX8_differs 2 (some Jvm.ClassFile.FieldType.int) ∈ gT := List.mem_filter.mpr ⟨List.mem_append_right _ ((List.mem_append_right _ (List.mem_append_right _ (List.mem_append_right _ (List.mem_append_left _ (List.mem_of_getElem? (i := 32) rfl))))) : Cond.code yX8_differs cX8_differs 2 (some Jvm.ClassFile.FieldType.int) ∈ tables_1), rfl⟩
set_option maxRecDepth 100000 in
theorem cw_95 : Cond.code yX8_verdict cX8_verdict 2 (some Jvm.ClassFile.FieldType.int) ∈ gT := List.mem_filter.mpr ⟨List.mem_append_right _ ((List.mem_append_right _ (List.mem_append_right _ (List.mem_append_right _ (List.mem_append_left _ (List.mem_of_getElem? (i := 36) rfl))))) : Cond.code yX8_verdict cX8_verdict 2 (some Jvm.ClassFile.FieldType.int) ∈ tables_1), rfl⟩
set_option maxRecDepth 100000 in
theorem cw_96 : Cond.code yX8_circuitAt cX8_circuitAt 2 (some (Jvm.ClassFile.FieldType.object "SweepBench$Circuit")) ∈ gT := List.mem_filter.mpr ⟨List.mem_append_right _ ((List.mem_append_right _ (List.mem_append_left _ (List.mem_of_getElem? (i := 143) rfl))) : Cond.code yX8_circuitAt cX8_circuitAt 2 (some (Jvm.ClassFile.FieldType.object "SweepBench$Circuit")) ∈ tables_1), rfl⟩
set_option maxRecDepth 100000 in
theorem cw_97 : Cond.code yX8_isInputWord cX8_isInputWord 2 (some Jvm.ClassFile.FieldType.boolean) ∈ gT := List.mem_filter.mpr ⟨List.mem_append_right _ ((List.mem_append_right _ (List.mem_append_right _ (List.mem_append_left _ (List.mem_of_getElem? (i := 87) rfl)))) : Cond.code yX8_isInputWord cX8_isInputWord 2 (some Jvm.ClassFile.FieldType.boolean) ∈ tables_1), rfl⟩
set_option maxRecDepth 100000 in
theorem cw_98 : Cond.code yX8_noteMoreOfACircuit cX8_noteMoreOfACircuit 1 (none) ∈ gT := List.mem_filter.mpr ⟨List.mem_append_right _ ((List.mem_append_right _ (List.mem_append_left _ (List.mem_of_getElem? (i := 135) rfl))) : Cond.code yX8_noteMoreOfACircuit cX8_noteMoreOfACircuit 1 (none) ∈ tables_1), rfl⟩
set_option maxRecDepth 100000 in
theorem cw_99 : Cond.code yX8_noteNewCircuit cX8_noteNewCircuit 1 (none) ∈ gT := List.mem_filter.mpr ⟨List.mem_append_right _ ((List.mem_append_right _ (List.mem_append_left _ (List.mem_of_getElem? (i := 131) rfl))) : Cond.code yX8_noteNewCircuit cX8_noteNewCircuit 1 (none) ∈ tables_1), rfl⟩
set_option maxRecDepth 100000 in
theorem cw_100 : Cond.code yX8_bringUpGroups cX8_bringUpGroups 1 (none) ∈ gT := List.mem_filter.mpr ⟨List.mem_append_right _ ((List.mem_append_right _ (List.mem_append_right _ (List.mem_append_left _ (List.mem_of_getElem? (i := 182) rfl)))) : Cond.code yX8_bringUpGroups cX8_bringUpGroups 1 (none) ∈ tables_1), rfl⟩
set_option maxRecDepth 100000 in
theorem cw_101 : Cond.code yX8_bothHaveOut cX8_bothHaveOut 2 (some Jvm.ClassFile.FieldType.boolean) ∈ gT := List.mem_filter.mpr ⟨List.mem_append_right _ ((List.mem_append_right _ (List.mem_append_right _ (List.mem_append_right _ (List.mem_append_left _ (List.mem_of_getElem? (i := 23) rfl))))) : Cond.code yX8_bothHaveOut cX8_bothHaveOut 2 (some Jvm.ClassFile.FieldType.boolean) ∈ tables_1), rfl⟩
set_option maxRecDepth 100000 in
theorem cw_102 : Cond.code yX8_firstWordApart cX8_firstWordApart 4 (some Jvm.ClassFile.FieldType.int) ∈ gT := List.mem_filter.mpr ⟨List.mem_append_right _ ((List.mem_append_right _ (List.mem_append_right _ (List.mem_append_right _ (List.mem_append_left _ (List.mem_of_getElem? (i := 27) rfl))))) : Cond.code yX8_firstWordApart cX8_firstWordApart 4 (some Jvm.ClassFile.FieldType.int) ∈ tables_1), rfl⟩
set_option maxRecDepth 100000 in
theorem cw_103 : Cond.code yX9_init cX9_init 1 (none) ∈ gT := List.mem_filter.mpr ⟨List.mem_append_right _ ((List.mem_append_right _ (List.mem_append_right _ (List.mem_append_right _ (List.mem_append_left _ (List.mem_of_getElem? (i := 41) rfl))))) : Cond.code yX9_init cX9_init 1 (none) ∈ tables_1), rfl⟩
set_option maxRecDepth 100000 in
theorem cw_104 : Cond.code yX9_words cX9_words 1 (some Jvm.ClassFile.FieldType.int) ∈ gT := List.mem_filter.mpr ⟨List.mem_append_right _ ((List.mem_append_right _ (List.mem_append_right _ (List.mem_append_right _ (List.mem_append_right _ (List.mem_of_getElem? (i := 53) rfl))))) : Cond.code yX9_words cX9_words 1 (some Jvm.ClassFile.FieldType.int) ∈ tables_1), rfl⟩
set_option maxRecDepth 100000 in
theorem cw_105 : Cond.code yX9_isCircuit cX9_isCircuit 1 (some Jvm.ClassFile.FieldType.boolean) ∈ gT := List.mem_filter.mpr ⟨List.mem_append_right _ ((List.mem_append_right _ (List.mem_append_right _ (List.mem_append_right _ (List.mem_append_left _ (List.mem_of_getElem? (i := 195) rfl))))) : Cond.code yX9_isCircuit cX9_isCircuit 1 (some Jvm.ClassFile.FieldType.boolean) ∈ tables_1), rfl⟩
set_option maxRecDepth 100000 in
theorem cw_106 : Cond.code yX9_changed cX9_changed 1 (none) ∈ gT := List.mem_filter.mpr ⟨List.mem_append_right _ ((List.mem_append_right _ (List.mem_append_right _ (List.mem_append_right _ (List.mem_append_left _ (List.mem_of_getElem? (i := 184) rfl))))) : Cond.code yX9_changed cX9_changed 1 (none) ∈ tables_1), rfl⟩
set_option maxRecDepth 100000 in
theorem cw_107 : Cond.code yX9_empty cX9_empty 2 (none) ∈ gT := List.mem_filter.mpr ⟨List.mem_append_right _ ((List.mem_append_right _ (List.mem_append_right _ (List.mem_append_right _ (List.mem_append_left _ (List.mem_of_getElem? (i := 180) rfl))))) : Cond.code yX9_empty cX9_empty 2 (none) ∈ tables_1), rfl⟩
set_option maxRecDepth 100000 in
theorem cw_108 : Cond.code yX9_inputs cX9_inputs 2 (some Jvm.ClassFile.FieldType.boolean) ∈ gT := List.mem_filter.mpr ⟨List.mem_append_right _ ((List.mem_append_right _ (List.mem_append_right _ (List.mem_append_right _ (List.mem_append_left _ (List.mem_of_getElem? (i := 176) rfl))))) : Cond.code yX9_inputs cX9_inputs 2 (some Jvm.ClassFile.FieldType.boolean) ∈ tables_1), rfl⟩
set_option maxRecDepth 100000 in
theorem cw_109 : Cond.code yX9_has cX9_has 4 (some Jvm.ClassFile.FieldType.boolean) ∈ gT := List.mem_filter.mpr ⟨List.mem_append_right _ ((List.mem_append_right _ (List.mem_append_right _ (List.mem_append_right _ (List.mem_append_left _ (List.mem_of_getElem? (i := 199) rfl))))) : Cond.code yX9_has cX9_has 4 (some Jvm.ClassFile.FieldType.boolean) ∈ tables_1), rfl⟩
set_option maxRecDepth 100000 in
theorem cw_110 : Cond.code yX9_gate cX9_gate 8 (some Jvm.ClassFile.FieldType.int) ∈ gT := List.mem_filter.mpr ⟨List.mem_append_right _ ((List.mem_append_right _ (List.mem_append_right _ (List.mem_append_right _ (List.mem_append_left _ (List.mem_of_getElem? (i := 192) rfl))))) : Cond.code yX9_gate cX9_gate 8 (some Jvm.ClassFile.FieldType.int) ∈ tables_1), rfl⟩
set_option maxRecDepth 100000 in
theorem cw_111 : Cond.code yX9_output cX9_output 3 (some Jvm.ClassFile.FieldType.int) ∈ gT := List.mem_filter.mpr ⟨List.mem_append_right _ ((List.mem_append_right _ (List.mem_append_right _ (List.mem_append_right _ (List.mem_append_left _ (List.mem_of_getElem? (i := 203) rfl))))) : Cond.code yX9_output cX9_output 3 (some Jvm.ClassFile.FieldType.int) ∈ tables_1), rfl⟩
set_option maxRecDepth 100000 in
theorem cw_112 : Cond.code yX9_clear cX9_clear 3 (some Jvm.ClassFile.FieldType.int) ∈ gT := List.mem_filter.mpr ⟨List.mem_append_right _ ((List.mem_append_right _ (List.mem_append_right _ (List.mem_append_right _ (List.mem_append_left _ (List.mem_of_getElem? (i := 207) rfl))))) : Cond.code yX9_clear cX9_clear 3 (some Jvm.ClassFile.FieldType.int) ∈ tables_1), rfl⟩
set_option maxRecDepth 100000 in
theorem cw_113 : Cond.code yX9_feed cX9_feed 6 (some Jvm.ClassFile.FieldType.int) ∈ gT := List.mem_filter.mpr ⟨List.mem_append_right _ ((List.mem_append_right _ (List.mem_append_right _ (List.mem_append_right _ (List.mem_append_left _ (List.mem_of_getElem? (i := 211) rfl))))) : Cond.code yX9_feed cX9_feed 6 (some Jvm.ClassFile.FieldType.int) ∈ tables_1), rfl⟩
set_option maxRecDepth 100000 in
theorem cw_114 : Cond.code yX9_put cX9_put 3 (none) ∈ gT := List.mem_filter.mpr ⟨List.mem_append_right _ ((List.mem_append_right _ (List.mem_append_right _ (List.mem_append_right _ (List.mem_append_left _ (List.mem_of_getElem? (i := 215) rfl))))) : Cond.code yX9_put cX9_put 3 (none) ∈ tables_1), rfl⟩
set_option maxRecDepth 100000 in
theorem cw_115 : Cond.code yX9_end cX9_end 2 (some Jvm.ClassFile.FieldType.int) ∈ gT := List.mem_filter.mpr ⟨List.mem_append_right _ ((List.mem_append_right _ (List.mem_append_right _ (List.mem_append_right _ (List.mem_append_left _ (List.mem_of_getElem? (i := 219) rfl))))) : Cond.code yX9_end cX9_end 2 (some Jvm.ClassFile.FieldType.int) ∈ tables_1), rfl⟩
set_option maxRecDepth 100000 in
theorem cw_116 : Cond.code yX9_fails cX9_fails 3 (some Jvm.ClassFile.FieldType.boolean) ∈ gT := List.mem_filter.mpr ⟨List.mem_append_right _ ((List.mem_append_right _ (List.mem_append_right _ (List.mem_append_right _ (List.mem_append_left _ (List.mem_of_getElem? (i := 235) rfl))))) : Cond.code yX9_fails cX9_fails 3 (some Jvm.ClassFile.FieldType.boolean) ∈ tables_1), rfl⟩
set_option maxRecDepth 100000 in
theorem cw_117 : Cond.code yX9_is cX9_is 2 (some Jvm.ClassFile.FieldType.boolean) ∈ gT := List.mem_filter.mpr ⟨List.mem_append_right _ ((List.mem_append_right _ (List.mem_append_right _ (List.mem_append_right _ (List.mem_append_left _ (List.mem_of_getElem? (i := 231) rfl))))) : Cond.code yX9_is cX9_is 2 (some Jvm.ClassFile.FieldType.boolean) ∈ tables_1), rfl⟩
set_option maxRecDepth 100000 in
theorem cw_118 : Cond.code yX9_number cX9_number 2 (some Jvm.ClassFile.FieldType.boolean) ∈ gT := List.mem_filter.mpr ⟨List.mem_append_right _ ((List.mem_append_right _ (List.mem_append_right _ (List.mem_append_right _ (List.mem_append_left _ (List.mem_of_getElem? (i := 239) rfl))))) : Cond.code yX9_number cX9_number 2 (some Jvm.ClassFile.FieldType.boolean) ∈ tables_1), rfl⟩
set_option maxRecDepth 100000 in
theorem cw_119 : Cond.code yX9_firstLine cX9_firstLine 4 (some Jvm.ClassFile.FieldType.boolean) ∈ gT := List.mem_filter.mpr ⟨List.mem_append_right _ ((List.mem_append_right _ (List.mem_append_right _ (List.mem_append_right _ (List.mem_append_left _ (List.mem_of_getElem? (i := 227) rfl))))) : Cond.code yX9_firstLine cX9_firstLine 4 (some Jvm.ClassFile.FieldType.boolean) ∈ tables_1), rfl⟩
set_option maxRecDepth 100000 in
theorem cw_120 : Cond.code yX9_defines cX9_defines 4 (some Jvm.ClassFile.FieldType.boolean) ∈ gT := List.mem_filter.mpr ⟨List.mem_append_right _ ((List.mem_append_right _ (List.mem_append_right _ (List.mem_append_right _ (List.mem_append_right _ (List.mem_of_getElem? (i := 7) rfl))))) : Cond.code yX9_defines cX9_defines 4 (some Jvm.ClassFile.FieldType.boolean) ∈ tables_1), rfl⟩
set_option maxRecDepth 100000 in
theorem cw_121 : Cond.code yX9_uses cX9_uses 2 (some Jvm.ClassFile.FieldType.boolean) ∈ gT := List.mem_filter.mpr ⟨List.mem_append_right _ ((List.mem_append_right _ (List.mem_append_right _ (List.mem_append_right _ (List.mem_append_right _ (List.mem_of_getElem? (i := 11) rfl))))) : Cond.code yX9_uses cX9_uses 2 (some Jvm.ClassFile.FieldType.boolean) ∈ tables_1), rfl⟩
set_option maxRecDepth 100000 in
theorem cw_122 : Cond.code yX9_lines cX9_lines 3 (some Jvm.ClassFile.FieldType.boolean) ∈ gT := List.mem_filter.mpr ⟨List.mem_append_right _ ((List.mem_append_right _ (List.mem_append_right _ (List.mem_append_right _ (List.mem_append_right _ (List.mem_of_getElem? (i := 3) rfl))))) : Cond.code yX9_lines cX9_lines 3 (some Jvm.ClassFile.FieldType.boolean) ∈ tables_1), rfl⟩
set_option maxRecDepth 100000 in
theorem cw_123 : Cond.code yX9_at0 cX9_at0 2 (some Jvm.ClassFile.FieldType.int) ∈ gT := List.mem_filter.mpr ⟨List.mem_append_right _ ((List.mem_append_right _ (List.mem_append_right _ (List.mem_append_right _ (List.mem_append_right _ (List.mem_of_getElem? (i := 15) rfl))))) : Cond.code yX9_at0 cX9_at0 2 (some Jvm.ClassFile.FieldType.int) ∈ tables_1), rfl⟩
set_option maxRecDepth 100000 in
theorem cw_124 : Cond.code yX9_isDefined cX9_isDefined 2 (some Jvm.ClassFile.FieldType.boolean) ∈ gT := List.mem_filter.mpr ⟨List.mem_append_right _ ((List.mem_append_right _ (List.mem_append_right _ (List.mem_append_right _ (List.mem_append_right _ (List.mem_of_getElem? (i := 23) rfl))))) : Cond.code yX9_isDefined cX9_isDefined 2 (some Jvm.ClassFile.FieldType.boolean) ∈ tables_1), rfl⟩
set_option maxRecDepth 100000 in
theorem cw_125 : Cond.code yX9_allDefined cX9_allDefined 3 (some Jvm.ClassFile.FieldType.boolean) ∈ gT := List.mem_filter.mpr ⟨List.mem_append_right _ ((List.mem_append_right _ (List.mem_append_right _ (List.mem_append_right _ (List.mem_append_right _ (List.mem_of_getElem? (i := 19) rfl))))) : Cond.code yX9_allDefined cX9_allDefined 3 (some Jvm.ClassFile.FieldType.boolean) ∈ tables_1), rfl⟩
set_option maxRecDepth 100000 in
theorem cw_126 : Cond.code yX9_needsItself cX9_needsItself 4 (some Jvm.ClassFile.FieldType.boolean) ∈ gT := List.mem_filter.mpr ⟨List.mem_append_right _ ((List.mem_append_right _ (List.mem_append_right _ (List.mem_append_right _ (List.mem_append_right _ (List.mem_of_getElem? (i := 27) rfl))))) : Cond.code yX9_needsItself cX9_needsItself 4 (some Jvm.ClassFile.FieldType.boolean) ∈ tables_1), rfl⟩
set_option maxRecDepth 100000 in
theorem cw_127 : Cond.code yX9_mark cX9_mark 5 (some Jvm.ClassFile.FieldType.boolean) ∈ gT := List.mem_filter.mpr ⟨List.mem_append_right _ ((List.mem_append_right _ (List.mem_append_right _ (List.mem_append_right _ (List.mem_append_right _ (List.mem_of_getElem? (i := 31) rfl))))) : Cond.code yX9_mark cX9_mark 5 (some Jvm.ClassFile.FieldType.boolean) ∈ tables_1), rfl⟩
set_option maxRecDepth 100000 in
theorem cw_128 : Cond.code yX9_signalOf cX9_signalOf 3 (some Jvm.ClassFile.FieldType.int) ∈ gT := List.mem_filter.mpr ⟨List.mem_append_right _ ((List.mem_append_right _ (List.mem_append_right _ (List.mem_append_right _ (List.mem_append_right _ (List.mem_of_getElem? (i := 40) rfl))))) : Cond.code yX9_signalOf cX9_signalOf 3 (some Jvm.ClassFile.FieldType.int) ∈ tables_1), rfl⟩
set_option maxRecDepth 100000 in
theorem cw_129 : Cond.code yX9_becomes cX9_becomes 6 (none) ∈ gT := List.mem_filter.mpr ⟨List.mem_append_right _ ((List.mem_append_right _ (List.mem_append_right _ (List.mem_append_right _ (List.mem_append_right _ (List.mem_of_getElem? (i := 35) rfl))))) : Cond.code yX9_becomes cX9_becomes 6 (none) ∈ tables_1), rfl⟩
set_option maxRecDepth 100000 in
theorem cw_130 : Cond.code yX9_read cX9_read 4 (some Jvm.ClassFile.FieldType.int) ∈ gT := List.mem_filter.mpr ⟨List.mem_append_right _ ((List.mem_append_right _ (List.mem_append_right _ (List.mem_append_right _ (List.mem_append_left _ (List.mem_of_getElem? (i := 223) rfl))))) : Cond.code yX9_read cX9_read 4 (some Jvm.ClassFile.FieldType.int) ∈ tables_1), rfl⟩
set_option maxRecDepth 100000 in
theorem cw_131 : Cond.code yX9_place cX9_place 1 (some Jvm.ClassFile.FieldType.int) ∈ gT := List.mem_filter.mpr ⟨List.mem_append_right _ ((List.mem_append_right _ (List.mem_append_right _ (List.mem_append_right _ (List.mem_append_right _ (List.mem_of_getElem? (i := 45) rfl))))) : Cond.code yX9_place cX9_place 1 (some Jvm.ClassFile.FieldType.int) ∈ tables_1), rfl⟩
set_option maxRecDepth 100000 in
theorem cw_132 : Cond.code yX9_newNode cX9_newNode 3 (some Jvm.ClassFile.FieldType.int) ∈ gT := List.mem_filter.mpr ⟨List.mem_append_right _ ((List.mem_append_right _ (List.mem_append_right _ (List.mem_append_right _ (List.mem_append_right _ (List.mem_of_getElem? (i := 61) rfl))))) : Cond.code yX9_newNode cX9_newNode 3 (some Jvm.ClassFile.FieldType.int) ∈ tables_1), rfl⟩
set_option maxRecDepth 100000 in
theorem cw_133 : Cond.code yX9_bits cX9_bits 5 (some Jvm.ClassFile.FieldType.long) ∈ gT := List.mem_filter.mpr ⟨List.mem_append_right _ ((List.mem_append_right _ (List.mem_append_right _ (List.mem_append_right _ (List.mem_append_right _ (List.mem_of_getElem? (i := 77) rfl))))) : Cond.code yX9_bits cX9_bits 5 (some Jvm.ClassFile.FieldType.long) ∈ tables_1), rfl⟩
set_option maxRecDepth 100000 in
theorem cw_134 : Cond.code yX9_and cX9_and 7 (some Jvm.ClassFile.FieldType.int) ∈ gT := List.mem_filter.mpr ⟨List.mem_append_right _ ((List.mem_append_right _ (List.mem_append_right _ (List.mem_append_right _ (List.mem_append_right _ (List.mem_of_getElem? (i := 73) rfl))))) : Cond.code yX9_and cX9_and 7 (some Jvm.ClassFile.FieldType.int) ∈ tables_1), rfl⟩
set_option maxRecDepth 100000 in
theorem cw_135 : Cond.code yX9_side cX9_side 5 (some Jvm.ClassFile.FieldType.int) ∈ gT := List.mem_filter.mpr ⟨List.mem_append_right _ ((List.mem_append_right _ (List.mem_append_right _ (List.mem_append_right _ (List.mem_append_right _ (List.mem_of_getElem? (i := 69) rfl))))) : Cond.code yX9_side cX9_side 5 (some Jvm.ClassFile.FieldType.int) ∈ tables_1), rfl⟩
set_option maxRecDepth 100000 in
theorem cw_136 : Cond.code yX9_gateOf cX9_gateOf 9 (some Jvm.ClassFile.FieldType.int) ∈ gT := List.mem_filter.mpr ⟨List.mem_append_right _ ((List.mem_append_right _ (List.mem_append_right _ (List.mem_append_right _ (List.mem_append_right _ (List.mem_of_getElem? (i := 65) rfl))))) : Cond.code yX9_gateOf cX9_gateOf 9 (some Jvm.ClassFile.FieldType.int) ∈ tables_1), rfl⟩
set_option maxRecDepth 100000 in
theorem cw_137 : Cond.code yX9_graph cX9_graph 3 (none) ∈ gT := List.mem_filter.mpr ⟨List.mem_append_right _ ((List.mem_append_right _ (List.mem_append_right _ (List.mem_append_right _ (List.mem_append_right _ (List.mem_of_getElem? (i := 57) rfl))))) : Cond.code yX9_graph cX9_graph 3 (none) ∈ tables_1), rfl⟩
set_option maxRecDepth 100000 in
theorem cw_138 : Cond.code yX9_bit cX9_bit 3 (some Jvm.ClassFile.FieldType.boolean) ∈ gT := List.mem_filter.mpr ⟨List.mem_append_right _ ((List.mem_append_right _ (List.mem_append_right _ (List.mem_append_right _ (List.mem_append_right _ (List.mem_of_getElem? (i := 82) rfl))))) : Cond.code yX9_bit cX9_bit 3 (some Jvm.ClassFile.FieldType.boolean) ∈ tables_1), rfl⟩
set_option maxRecDepth 100000 in
theorem cw_139 : Cond.code yX9_unlike cX9_unlike 4 (some Jvm.ClassFile.FieldType.int) ∈ gT := List.mem_filter.mpr ⟨List.mem_append_right _ ((List.mem_append_right _ (List.mem_append_right _ (List.mem_append_right _ (List.mem_append_right _ (List.mem_of_getElem? (i := 131) rfl))))) : Cond.code yX9_unlike cX9_unlike 4 (some Jvm.ClassFile.FieldType.int) ∈ tables_1), rfl⟩
set_option maxRecDepth 100000 in
theorem cw_140 : Cond.code yX9_value cX9_value 4 (some Jvm.ClassFile.FieldType.int) ∈ gT := List.mem_filter.mpr ⟨List.mem_append_right _ ((List.mem_append_right _ (List.mem_append_right _ (List.mem_append_right _ (List.mem_append_right _ (List.mem_of_getElem? (i := 49) rfl))))) : Cond.code yX9_value cX9_value 4 (some Jvm.ClassFile.FieldType.int) ∈ tables_1), rfl⟩
set_option maxRecDepth 100000 in
theorem cw_141 : Cond.code yX9_isGiven cX9_isGiven 2 (some Jvm.ClassFile.FieldType.boolean) ∈ gT := List.mem_filter.mpr ⟨List.mem_append_right _ ((List.mem_append_right _ (List.mem_append_right _ (List.mem_append_right _ (List.mem_append_right _ (List.mem_of_getElem? (i := 90) rfl))))) : Cond.code yX9_isGiven cX9_isGiven 2 (some Jvm.ClassFile.FieldType.boolean) ∈ tables_1), rfl⟩
set_option maxRecDepth 100000 in
theorem cw_142 : Cond.code yX9_give cX9_give 2 (none) ∈ gT := List.mem_filter.mpr ⟨List.mem_append_right _ ((List.mem_append_right _ (List.mem_append_right _ (List.mem_append_right _ (List.mem_append_right _ (List.mem_of_getElem? (i := 94) rfl))))) : Cond.code yX9_give cX9_give 2 (none) ∈ tables_1), rfl⟩
set_option maxRecDepth 100000 in
theorem cw_143 : Cond.code yX9_vector cX9_vector 2 (some Jvm.ClassFile.FieldType.int) ∈ gT := List.mem_filter.mpr ⟨List.mem_append_right _ ((List.mem_append_right _ (List.mem_append_right _ (List.mem_append_right _ (List.mem_append_right _ (List.mem_of_getElem? (i := 86) rfl))))) : Cond.code yX9_vector cX9_vector 2 (some Jvm.ClassFile.FieldType.int) ∈ tables_1), rfl⟩
set_option maxRecDepth 100000 in
theorem cw_144 : Cond.code yX9_forget cX9_forget 3 (some Jvm.ClassFile.FieldType.int) ∈ gT := List.mem_filter.mpr ⟨List.mem_append_right _ ((List.mem_append_right _ (List.mem_append_right _ (List.mem_append_right _ (List.mem_append_left _ (List.mem_of_getElem? (i := 188) rfl))))) : Cond.code yX9_forget cX9_forget 3 (some Jvm.ClassFile.FieldType.int) ∈ tables_1), rfl⟩
set_option maxRecDepth 100000 in
theorem cw_145 : Cond.code yX9_given cX9_given 2 (some Jvm.ClassFile.FieldType.int) ∈ gT := List.mem_filter.mpr ⟨List.mem_append_right _ ((List.mem_append_right _ (List.mem_append_right _ (List.mem_append_right _ (List.mem_append_right _ (List.mem_of_getElem? (i := 99) rfl))))) : Cond.code yX9_given cX9_given 2 (some Jvm.ClassFile.FieldType.int) ∈ tables_1), rfl⟩
set_option maxRecDepth 100000 in
theorem cw_146 : Cond.code yX9_like cX9_like 8 (some Jvm.ClassFile.FieldType.int) ∈ gT := List.mem_filter.mpr ⟨List.mem_append_right _ ((List.mem_append_right _ (List.mem_append_right _ (List.mem_append_right _ (List.mem_append_right _ (List.mem_of_getElem? (i := 111) rfl))))) : Cond.code yX9_like cX9_like 8 (some Jvm.ClassFile.FieldType.int) ∈ tables_1), rfl⟩
set_option maxRecDepth 100000 in
theorem cw_147 : Cond.code yX9_leastLike cX9_leastLike 3 (some Jvm.ClassFile.FieldType.int) ∈ gT := List.mem_filter.mpr ⟨List.mem_append_right _ ((List.mem_append_right _ (List.mem_append_right _ (List.mem_append_right _ (List.mem_append_right _ (List.mem_of_getElem? (i := 107) rfl))))) : Cond.code yX9_leastLike cX9_leastLike 3 (some Jvm.ClassFile.FieldType.int) ∈ tables_1), rfl⟩
set_option maxRecDepth 100000 in
theorem cw_148 : Cond.code yX9_count cX9_count 4 (some Jvm.ClassFile.FieldType.int) ∈ gT := List.mem_filter.mpr ⟨List.mem_append_right _ ((List.mem_append_right _ (List.mem_append_right _ (List.mem_append_right _ (List.mem_append_right _ (List.mem_of_getElem? (i := 103) rfl))))) : Cond.code yX9_count cX9_count 4 (some Jvm.ClassFile.FieldType.int) ∈ tables_1), rfl⟩
set_option maxRecDepth 100000 in
theorem cw_149 : Cond.code yX9_node cX9_node 3 (some Jvm.ClassFile.FieldType.int) ∈ gT := List.mem_filter.mpr ⟨List.mem_append_right _ ((List.mem_append_right _ (List.mem_append_right _ (List.mem_append_right _ (List.mem_append_right _ (List.mem_of_getElem? (i := 115) rfl))))) : Cond.code yX9_node cX9_node 3 (some Jvm.ClassFile.FieldType.int) ∈ tables_1), rfl⟩
set_option maxRecDepth 100000 in
theorem cw_150 : Cond.code yX9_literal cX9_literal 3 (some Jvm.ClassFile.FieldType.int) ∈ gT := List.mem_filter.mpr ⟨List.mem_append_right _ ((List.mem_append_right _ (List.mem_append_right _ (List.mem_append_right _ (List.mem_append_right _ (List.mem_of_getElem? (i := 119) rfl))))) : Cond.code yX9_literal cX9_literal 3 (some Jvm.ClassFile.FieldType.int) ∈ tables_1), rfl⟩
set_option maxRecDepth 100000 in
theorem cw_151 : Cond.code yX9_candidate cX9_candidate 3 (some Jvm.ClassFile.FieldType.int) ∈ gT := List.mem_filter.mpr ⟨List.mem_append_right _ ((List.mem_append_right _ (List.mem_append_right _ (List.mem_append_right _ (List.mem_append_right _ (List.mem_of_getElem? (i := 127) rfl))))) : Cond.code yX9_candidate cX9_candidate 3 (some Jvm.ClassFile.FieldType.int) ∈ tables_1), rfl⟩
set_option maxRecDepth 100000 in
theorem cw_152 : Cond.code yX9_sweep cX9_sweep 6 (some Jvm.ClassFile.FieldType.int) ∈ gT := List.mem_filter.mpr ⟨List.mem_append_right _ ((List.mem_append_right _ (List.mem_append_right _ (List.mem_append_right _ (List.mem_append_right _ (List.mem_of_getElem? (i := 123) rfl))))) : Cond.code yX9_sweep cX9_sweep 6 (some Jvm.ClassFile.FieldType.int) ∈ tables_1), rfl⟩
set_option maxRecDepth 100000 in
theorem cw_153 : Cond.code yX9_need cX9_need 3 (none) ∈ gT := List.mem_filter.mpr ⟨List.mem_append_right _ ((List.mem_append_right _ (List.mem_append_right _ (List.mem_append_right _ (List.mem_append_right _ (List.mem_of_getElem? (i := 135) rfl))))) : Cond.code yX9_need cX9_need 3 (none) ∈ tables_1), rfl⟩
set_option maxRecDepth 100000 in
theorem cw_154 : Cond.code yX9_swept cX9_swept 2 (some Jvm.ClassFile.FieldType.int) ∈ gT := List.mem_filter.mpr ⟨List.mem_append_right _ ((List.mem_append_right _ (List.mem_append_right _ (List.mem_append_right _ (List.mem_append_right _ (List.mem_of_getElem? (i := 139) rfl))))) : Cond.code yX9_swept cX9_swept 2 (some Jvm.ClassFile.FieldType.int) ∈ tables_1), rfl⟩
set_option maxRecDepth 100000 in
theorem cw_155 : Cond.code yX9_told cX9_told 2 (some Jvm.ClassFile.FieldType.int) ∈ gT := List.mem_filter.mpr ⟨List.mem_append_right _ ((List.mem_append_right _ (List.mem_append_right _ (List.mem_append_right _ (List.mem_append_right _ (List.mem_of_getElem? (i := 143) rfl))))) : Cond.code yX9_told cX9_told 2 (some Jvm.ClassFile.FieldType.int) ∈ tables_1), rfl⟩
set_option maxRecDepth 100000 in
theorem cw_156 : Cond.code yX9_both cX9_both 2 (some Jvm.ClassFile.FieldType.boolean) ∈ gT := List.mem_filter.mpr ⟨List.mem_append_right _ ((List.mem_append_right _ (List.mem_append_right _ (List.mem_append_right _ (List.mem_append_right _ (List.mem_of_getElem? (i := 151) rfl))))) : Cond.code yX9_both cX9_both 2 (some Jvm.ClassFile.FieldType.boolean) ∈ tables_1), rfl⟩
set_option maxRecDepth 100000 in
theorem cw_157 : Cond.code yX9_differs cX9_differs 2 (some Jvm.ClassFile.FieldType.int) ∈ gT := List.mem_filter.mpr ⟨List.mem_append_right _ ((List.mem_append_right _ (List.mem_append_right _ (List.mem_append_right _ (List.mem_append_right _ (List.mem_of_getElem? (i := 147) rfl))))) : Cond.code yX9_differs cX9_differs 2 (some Jvm.ClassFile.FieldType.int) ∈ tables_1), rfl⟩
set_option maxRecDepth 100000 in
theorem cw_158 : Cond.code yX9_same cX9_same 2 (some Jvm.ClassFile.FieldType.int) ∈ gT := List.mem_filter.mpr ⟨List.mem_append_right _ ((List.mem_append_right _ (List.mem_append_right _ (List.mem_append_right _ (List.mem_append_right _ (List.mem_of_getElem? (i := 155) rfl))))) : Cond.code yX9_same cX9_same 2 (some Jvm.ClassFile.FieldType.int) ∈ tables_1), rfl⟩
set_option maxRecDepth 100000 in
theorem cw_159 : Cond.code yX9_verdict cX9_verdict 2 (some Jvm.ClassFile.FieldType.int) ∈ gT := List.mem_filter.mpr ⟨List.mem_append_right _ ((List.mem_append_right _ (List.mem_append_right _ (List.mem_append_right _ (List.mem_append_right _ (List.mem_of_getElem? (i := 160) rfl))))) : Cond.code yX9_verdict cX9_verdict 2 (some Jvm.ClassFile.FieldType.int) ∈ tables_1), rfl⟩
set_option maxRecDepth 100000 in
theorem cw_160 : Cond.code yJ13_bitCount_95d88 cJ13_bitCount_95d88 2 (some Jvm.ClassFile.FieldType.int) ∈ gT := List.mem_filter.mpr ⟨List.mem_append_right _ ((List.mem_append_right _ (List.mem_append_right _ (List.mem_append_left _ (List.mem_of_getElem? (i := 230) rfl)))) : Cond.code yJ13_bitCount_95d88 cJ13_bitCount_95d88 2 (some Jvm.ClassFile.FieldType.int) ∈ tables_1), rfl⟩
set_option maxRecDepth 100000 in
theorem cw_161 : Cond.code yJ7_fill_d0a16 cJ7_fill_d0a16 5 (none) ∈ gT := List.mem_filter.mpr ⟨List.mem_append_right _ ((List.mem_append_right _ (List.mem_append_left _ (List.mem_of_getElem? (i := 127) rfl))) : Cond.code yJ7_fill_d0a16 cJ7_fill_d0a16 5 (none) ∈ tables_1), rfl⟩
set_option maxRecDepth 100000 in
theorem cw_162 : Cond.code yJ7_fill_53178 cJ7_fill_53178 4 (none) ∈ gT := List.mem_filter.mpr ⟨List.mem_append_right _ ((List.mem_append_right _ (List.mem_append_left _ (List.mem_of_getElem? (i := 198) rfl))) : Cond.code yJ7_fill_53178 cJ7_fill_53178 4 (none) ∈ tables_1), rfl⟩
theorem mR1_code : ∀ e ∈ mR1, Cond.code e.1 e.2.1 e.2.2.1 e.2.2.2.1 ∈ gT := List.forall_mem_cons.mpr ⟨cw_1, List.forall_mem_cons.mpr ⟨cw_2, List.forall_mem_cons.mpr ⟨cw_3, List.forall_mem_cons.mpr ⟨cw_4, List.forall_mem_cons.mpr ⟨cw_5, List.forall_mem_cons.mpr ⟨cw_6, List.forall_mem_cons.mpr ⟨cw_7, List.forall_mem_cons.mpr ⟨cw_8, List.forall_mem_cons.mpr ⟨cw_9, List.forall_mem_cons.mpr ⟨cw_10, List.forall_mem_cons.mpr ⟨cw_11, List.forall_mem_cons.mpr ⟨cw_12, List.forall_mem_cons.mpr ⟨cw_13, List.forall_mem_cons.mpr ⟨cw_14, List.forall_mem_cons.mpr ⟨cw_15, List.forall_mem_cons.mpr ⟨cw_16, fun _ h => absurd h List.not_mem_nil⟩⟩⟩⟩⟩⟩⟩⟩⟩⟩⟩⟩⟩⟩⟩⟩
theorem mR2_code : ∀ e ∈ mR2, Cond.code e.1 e.2.1 e.2.2.1 e.2.2.2.1 ∈ gT := List.forall_mem_cons.mpr ⟨cw_17, List.forall_mem_cons.mpr ⟨cw_18, List.forall_mem_cons.mpr ⟨cw_19, List.forall_mem_cons.mpr ⟨cw_20, List.forall_mem_cons.mpr ⟨cw_21, List.forall_mem_cons.mpr ⟨cw_22, List.forall_mem_cons.mpr ⟨cw_23, List.forall_mem_cons.mpr ⟨cw_24, List.forall_mem_cons.mpr ⟨cw_25, List.forall_mem_cons.mpr ⟨cw_26, List.forall_mem_cons.mpr ⟨cw_27, List.forall_mem_cons.mpr ⟨cw_28, List.forall_mem_cons.mpr ⟨cw_29, List.forall_mem_cons.mpr ⟨cw_30, List.forall_mem_cons.mpr ⟨cw_31, List.forall_mem_cons.mpr ⟨cw_32, fun _ h => absurd h List.not_mem_nil⟩⟩⟩⟩⟩⟩⟩⟩⟩⟩⟩⟩⟩⟩⟩⟩
theorem mR3_code : ∀ e ∈ mR3, Cond.code e.1 e.2.1 e.2.2.1 e.2.2.2.1 ∈ gT := List.forall_mem_cons.mpr ⟨cw_33, List.forall_mem_cons.mpr ⟨cw_34, List.forall_mem_cons.mpr ⟨cw_35, List.forall_mem_cons.mpr ⟨cw_36, List.forall_mem_cons.mpr ⟨cw_37, List.forall_mem_cons.mpr ⟨cw_38, List.forall_mem_cons.mpr ⟨cw_39, List.forall_mem_cons.mpr ⟨cw_40, List.forall_mem_cons.mpr ⟨cw_41, List.forall_mem_cons.mpr ⟨cw_42, List.forall_mem_cons.mpr ⟨cw_43, List.forall_mem_cons.mpr ⟨cw_44, List.forall_mem_cons.mpr ⟨cw_45, List.forall_mem_cons.mpr ⟨cw_46, List.forall_mem_cons.mpr ⟨cw_47, List.forall_mem_cons.mpr ⟨cw_48, fun _ h => absurd h List.not_mem_nil⟩⟩⟩⟩⟩⟩⟩⟩⟩⟩⟩⟩⟩⟩⟩⟩
theorem mR4_code : ∀ e ∈ mR4, Cond.code e.1 e.2.1 e.2.2.1 e.2.2.2.1 ∈ gT := List.forall_mem_cons.mpr ⟨cw_49, List.forall_mem_cons.mpr ⟨cw_50, List.forall_mem_cons.mpr ⟨cw_51, List.forall_mem_cons.mpr ⟨cw_52, List.forall_mem_cons.mpr ⟨cw_53, List.forall_mem_cons.mpr ⟨cw_54, List.forall_mem_cons.mpr ⟨cw_55, List.forall_mem_cons.mpr ⟨cw_56, List.forall_mem_cons.mpr ⟨cw_57, List.forall_mem_cons.mpr ⟨cw_58, List.forall_mem_cons.mpr ⟨cw_59, List.forall_mem_cons.mpr ⟨cw_60, List.forall_mem_cons.mpr ⟨cw_61, List.forall_mem_cons.mpr ⟨cw_62, List.forall_mem_cons.mpr ⟨cw_63, List.forall_mem_cons.mpr ⟨cw_64, fun _ h => absurd h List.not_mem_nil⟩⟩⟩⟩⟩⟩⟩⟩⟩⟩⟩⟩⟩⟩⟩⟩
theorem mR5_code : ∀ e ∈ mR5, Cond.code e.1 e.2.1 e.2.2.1 e.2.2.2.1 ∈ gT := List.forall_mem_cons.mpr ⟨cw_65, List.forall_mem_cons.mpr ⟨cw_66, List.forall_mem_cons.mpr ⟨cw_67, List.forall_mem_cons.mpr ⟨cw_68, List.forall_mem_cons.mpr ⟨cw_69, List.forall_mem_cons.mpr ⟨cw_70, List.forall_mem_cons.mpr ⟨cw_71, List.forall_mem_cons.mpr ⟨cw_72, List.forall_mem_cons.mpr ⟨cw_73, List.forall_mem_cons.mpr ⟨cw_74, List.forall_mem_cons.mpr ⟨cw_75, List.forall_mem_cons.mpr ⟨cw_76, List.forall_mem_cons.mpr ⟨cw_77, List.forall_mem_cons.mpr ⟨cw_78, List.forall_mem_cons.mpr ⟨cw_79, List.forall_mem_cons.mpr ⟨cw_80, fun _ h => absurd h List.not_mem_nil⟩⟩⟩⟩⟩⟩⟩⟩⟩⟩⟩⟩⟩⟩⟩⟩
theorem mR6_code : ∀ e ∈ mR6, Cond.code e.1 e.2.1 e.2.2.1 e.2.2.2.1 ∈ gT := List.forall_mem_cons.mpr ⟨cw_81, List.forall_mem_cons.mpr ⟨cw_82, List.forall_mem_cons.mpr ⟨cw_83, List.forall_mem_cons.mpr ⟨cw_84, List.forall_mem_cons.mpr ⟨cw_85, List.forall_mem_cons.mpr ⟨cw_86, List.forall_mem_cons.mpr ⟨cw_87, List.forall_mem_cons.mpr ⟨cw_88, List.forall_mem_cons.mpr ⟨cw_89, List.forall_mem_cons.mpr ⟨cw_90, List.forall_mem_cons.mpr ⟨cw_91, List.forall_mem_cons.mpr ⟨cw_92, List.forall_mem_cons.mpr ⟨cw_93, List.forall_mem_cons.mpr ⟨cw_94, List.forall_mem_cons.mpr ⟨cw_95, List.forall_mem_cons.mpr ⟨cw_96, fun _ h => absurd h List.not_mem_nil⟩⟩⟩⟩⟩⟩⟩⟩⟩⟩⟩⟩⟩⟩⟩⟩
theorem mR7_code : ∀ e ∈ mR7, Cond.code e.1 e.2.1 e.2.2.1 e.2.2.2.1 ∈ gT := List.forall_mem_cons.mpr ⟨cw_97, List.forall_mem_cons.mpr ⟨cw_98, List.forall_mem_cons.mpr ⟨cw_99, List.forall_mem_cons.mpr ⟨cw_100, List.forall_mem_cons.mpr ⟨cw_101, List.forall_mem_cons.mpr ⟨cw_102, List.forall_mem_cons.mpr ⟨cw_103, List.forall_mem_cons.mpr ⟨cw_104, List.forall_mem_cons.mpr ⟨cw_105, List.forall_mem_cons.mpr ⟨cw_106, List.forall_mem_cons.mpr ⟨cw_107, List.forall_mem_cons.mpr ⟨cw_108, List.forall_mem_cons.mpr ⟨cw_109, List.forall_mem_cons.mpr ⟨cw_110, List.forall_mem_cons.mpr ⟨cw_111, List.forall_mem_cons.mpr ⟨cw_112, fun _ h => absurd h List.not_mem_nil⟩⟩⟩⟩⟩⟩⟩⟩⟩⟩⟩⟩⟩⟩⟩⟩
theorem mR8_code : ∀ e ∈ mR8, Cond.code e.1 e.2.1 e.2.2.1 e.2.2.2.1 ∈ gT := List.forall_mem_cons.mpr ⟨cw_113, List.forall_mem_cons.mpr ⟨cw_114, List.forall_mem_cons.mpr ⟨cw_115, List.forall_mem_cons.mpr ⟨cw_116, List.forall_mem_cons.mpr ⟨cw_117, List.forall_mem_cons.mpr ⟨cw_118, List.forall_mem_cons.mpr ⟨cw_119, List.forall_mem_cons.mpr ⟨cw_120, List.forall_mem_cons.mpr ⟨cw_121, List.forall_mem_cons.mpr ⟨cw_122, List.forall_mem_cons.mpr ⟨cw_123, List.forall_mem_cons.mpr ⟨cw_124, List.forall_mem_cons.mpr ⟨cw_125, List.forall_mem_cons.mpr ⟨cw_126, List.forall_mem_cons.mpr ⟨cw_127, List.forall_mem_cons.mpr ⟨cw_128, fun _ h => absurd h List.not_mem_nil⟩⟩⟩⟩⟩⟩⟩⟩⟩⟩⟩⟩⟩⟩⟩⟩
theorem mR9_code : ∀ e ∈ mR9, Cond.code e.1 e.2.1 e.2.2.1 e.2.2.2.1 ∈ gT := List.forall_mem_cons.mpr ⟨cw_129, List.forall_mem_cons.mpr ⟨cw_130, List.forall_mem_cons.mpr ⟨cw_131, List.forall_mem_cons.mpr ⟨cw_132, List.forall_mem_cons.mpr ⟨cw_133, List.forall_mem_cons.mpr ⟨cw_134, List.forall_mem_cons.mpr ⟨cw_135, List.forall_mem_cons.mpr ⟨cw_136, List.forall_mem_cons.mpr ⟨cw_137, List.forall_mem_cons.mpr ⟨cw_138, List.forall_mem_cons.mpr ⟨cw_139, List.forall_mem_cons.mpr ⟨cw_140, List.forall_mem_cons.mpr ⟨cw_141, List.forall_mem_cons.mpr ⟨cw_142, List.forall_mem_cons.mpr ⟨cw_143, List.forall_mem_cons.mpr ⟨cw_144, fun _ h => absurd h List.not_mem_nil⟩⟩⟩⟩⟩⟩⟩⟩⟩⟩⟩⟩⟩⟩⟩⟩
theorem mR10_code : ∀ e ∈ mR10, Cond.code e.1 e.2.1 e.2.2.1 e.2.2.2.1 ∈ gT := List.forall_mem_cons.mpr ⟨cw_145, List.forall_mem_cons.mpr ⟨cw_146, List.forall_mem_cons.mpr ⟨cw_147, List.forall_mem_cons.mpr ⟨cw_148, List.forall_mem_cons.mpr ⟨cw_149, List.forall_mem_cons.mpr ⟨cw_150, List.forall_mem_cons.mpr ⟨cw_151, List.forall_mem_cons.mpr ⟨cw_152, List.forall_mem_cons.mpr ⟨cw_153, List.forall_mem_cons.mpr ⟨cw_154, List.forall_mem_cons.mpr ⟨cw_155, List.forall_mem_cons.mpr ⟨cw_156, List.forall_mem_cons.mpr ⟨cw_157, List.forall_mem_cons.mpr ⟨cw_158, List.forall_mem_cons.mpr ⟨cw_159, List.forall_mem_cons.mpr ⟨cw_160, fun _ h => absurd h List.not_mem_nil⟩⟩⟩⟩⟩⟩⟩⟩⟩⟩⟩⟩⟩⟩⟩⟩
theorem mR11_code : ∀ e ∈ mR11, Cond.code e.1 e.2.1 e.2.2.1 e.2.2.2.1 ∈ gT := List.forall_mem_cons.mpr ⟨cw_161, List.forall_mem_cons.mpr ⟨cw_162, fun _ h => absurd h List.not_mem_nil⟩⟩
theorem mRest_code : ∀ e ∈ mRest, Cond.code e.1 e.2.1 e.2.2.1 e.2.2.2.1 ∈ gT := List.forall_mem_append.mpr ⟨mR1_code, List.forall_mem_append.mpr ⟨mR2_code, List.forall_mem_append.mpr ⟨mR3_code, List.forall_mem_append.mpr ⟨mR4_code, List.forall_mem_append.mpr ⟨mR5_code, List.forall_mem_append.mpr ⟨mR6_code, List.forall_mem_append.mpr ⟨mR7_code, List.forall_mem_append.mpr ⟨mR8_code, List.forall_mem_append.mpr ⟨mR9_code, List.forall_mem_append.mpr ⟨mR10_code, mR11_code⟩⟩⟩⟩⟩⟩⟩⟩⟩⟩
set_option maxRecDepth 100000 in
theorem ftab_ok : ∀ e ∈ ftab, e.2.1 < 10 ∧ e.2.2.1 < clN e.2.1 ∧ lw_tbl[e.2.2.2]? = some (.fieldLink (oN (e.1 / 1000)) (e.1 % 1000) (clT e.2.1 e.2.2.1).1 (clT e.2.1 e.2.2.1).2.1 (clT e.2.1 e.2.2.1).2.2.1) := by decide +kernel
set_option maxRecDepth 100000 in
theorem ntab_ok : ∀ e ∈ ntab, e.2.1 < 10 ∧ lw_tbl[e.2.2]? = some (.classLink (oN (e.1 / 1000)) (e.1 % 1000) (clR e.2.1)) := by decide +kernel
set_option maxRecDepth 100000 in
theorem ltab_ok : ∀ e ∈ ltab, lw_tbl[e.2.2]? = some (.constantLong (oN (e.1 / 1000)) (e.1 % 1000) e.2.1) := by decide +kernel
set_option maxRecDepth 100000 in
theorem cpos_ok : ∀ ci, ci < 10 → lw_tbl[(cpos.getD ci (0, 0)).1]? = some (.instantiable (clR ci) (clN ci)) ∧ lw_tbl[(cpos.getD ci (0, 0)).2]? = some (.initialized (clR ci)) := by decide +kernel

set_option maxRecDepth 100000 in
theorem ct1_ok : ∀ e ∈ ct1, 1 ≤ e.2.1 ∧ e.2.1 ≤ 7 ∧ (e.2.1 = 6 → lw_tbl[e.2.2.2.2]? = some (.methodLink (oN (e.1 / 1000)) (e.1 % 1000) Lib.Math.max.name)) ∧ (e.2.1 = 7 → lw_tbl[e.2.2.2.2]? = some (.methodLink (oN (e.1 / 1000)) (e.1 % 1000) Lib.Math.min.name)) ∧ (e.2.1 = 4 → lw_tbl[e.2.2.2.2]? = some (.methodLink (oN (e.1 / 1000)) (e.1 % 1000) objectInit)) ∧ (e.2.1 ≠ 4 → e.2.1 ≤ 5 → 0 < e.2.2.1 ∧ e.2.2.1 < 163 ∧ (parseMethodDescriptor (mY e.2.2.1).desc).map (fun d => d.parameters.length) = some e.2.2.2.1) ∧
    (e.2.1 = 1 ∨ e.2.1 = 2 ∨ e.2.1 = 3 → lw_tbl[e.2.2.2.2]? = some (.methodLink (oN (e.1 / 1000)) (e.1 % 1000) (mY e.2.2.1))) ∧ (e.2.1 = 5 → lw_tbl[e.2.2.2.2]? = some (.methodLinkNest (oN (e.1 / 1000)) (e.1 % 1000) (mY e.2.2.1) RX8)) ∧
    (e.2.1 = 1 → lw_tbl[(mE e.2.2.1).2.2.2.2.2.2.2.1]? = some (.instanceMethod (mY e.2.2.1)) ∧ lw_tbl[(mE e.2.2.1).2.2.2.2.2.2.2.2]? = some (.selects (mY e.2.2.1).cls (mY e.2.2.1) (mY e.2.2.1))) ∧ (e.2.1 = 2 → lw_tbl[(mE e.2.2.1).2.2.2.2.2.2.2.1]? = some (.static (mY e.2.2.1))) ∧
    (e.2.1 = 3 ∨ e.2.1 = 5 → lw_tbl[(mE e.2.2.1).2.2.2.2.2.2.2.1]? = some (.instanceMethod (mY e.2.2.1)) ∧ (mY e.2.2.1).name = "<init>") := by decide +kernel
set_option maxRecDepth 100000 in
theorem ct2_ok : ∀ e ∈ ct2, 1 ≤ e.2.1 ∧ e.2.1 ≤ 7 ∧ (e.2.1 = 6 → lw_tbl[e.2.2.2.2]? = some (.methodLink (oN (e.1 / 1000)) (e.1 % 1000) Lib.Math.max.name)) ∧ (e.2.1 = 7 → lw_tbl[e.2.2.2.2]? = some (.methodLink (oN (e.1 / 1000)) (e.1 % 1000) Lib.Math.min.name)) ∧ (e.2.1 = 4 → lw_tbl[e.2.2.2.2]? = some (.methodLink (oN (e.1 / 1000)) (e.1 % 1000) objectInit)) ∧ (e.2.1 ≠ 4 → e.2.1 ≤ 5 → 0 < e.2.2.1 ∧ e.2.2.1 < 163 ∧ (parseMethodDescriptor (mY e.2.2.1).desc).map (fun d => d.parameters.length) = some e.2.2.2.1) ∧
    (e.2.1 = 1 ∨ e.2.1 = 2 ∨ e.2.1 = 3 → lw_tbl[e.2.2.2.2]? = some (.methodLink (oN (e.1 / 1000)) (e.1 % 1000) (mY e.2.2.1))) ∧ (e.2.1 = 5 → lw_tbl[e.2.2.2.2]? = some (.methodLinkNest (oN (e.1 / 1000)) (e.1 % 1000) (mY e.2.2.1) RX8)) ∧
    (e.2.1 = 1 → lw_tbl[(mE e.2.2.1).2.2.2.2.2.2.2.1]? = some (.instanceMethod (mY e.2.2.1)) ∧ lw_tbl[(mE e.2.2.1).2.2.2.2.2.2.2.2]? = some (.selects (mY e.2.2.1).cls (mY e.2.2.1) (mY e.2.2.1))) ∧ (e.2.1 = 2 → lw_tbl[(mE e.2.2.1).2.2.2.2.2.2.2.1]? = some (.static (mY e.2.2.1))) ∧
    (e.2.1 = 3 ∨ e.2.1 = 5 → lw_tbl[(mE e.2.2.1).2.2.2.2.2.2.2.1]? = some (.instanceMethod (mY e.2.2.1)) ∧ (mY e.2.2.1).name = "<init>") := by decide +kernel
set_option maxRecDepth 100000 in
theorem ct3_ok : ∀ e ∈ ct3, 1 ≤ e.2.1 ∧ e.2.1 ≤ 7 ∧ (e.2.1 = 6 → lw_tbl[e.2.2.2.2]? = some (.methodLink (oN (e.1 / 1000)) (e.1 % 1000) Lib.Math.max.name)) ∧ (e.2.1 = 7 → lw_tbl[e.2.2.2.2]? = some (.methodLink (oN (e.1 / 1000)) (e.1 % 1000) Lib.Math.min.name)) ∧ (e.2.1 = 4 → lw_tbl[e.2.2.2.2]? = some (.methodLink (oN (e.1 / 1000)) (e.1 % 1000) objectInit)) ∧ (e.2.1 ≠ 4 → e.2.1 ≤ 5 → 0 < e.2.2.1 ∧ e.2.2.1 < 163 ∧ (parseMethodDescriptor (mY e.2.2.1).desc).map (fun d => d.parameters.length) = some e.2.2.2.1) ∧
    (e.2.1 = 1 ∨ e.2.1 = 2 ∨ e.2.1 = 3 → lw_tbl[e.2.2.2.2]? = some (.methodLink (oN (e.1 / 1000)) (e.1 % 1000) (mY e.2.2.1))) ∧ (e.2.1 = 5 → lw_tbl[e.2.2.2.2]? = some (.methodLinkNest (oN (e.1 / 1000)) (e.1 % 1000) (mY e.2.2.1) RX8)) ∧
    (e.2.1 = 1 → lw_tbl[(mE e.2.2.1).2.2.2.2.2.2.2.1]? = some (.instanceMethod (mY e.2.2.1)) ∧ lw_tbl[(mE e.2.2.1).2.2.2.2.2.2.2.2]? = some (.selects (mY e.2.2.1).cls (mY e.2.2.1) (mY e.2.2.1))) ∧ (e.2.1 = 2 → lw_tbl[(mE e.2.2.1).2.2.2.2.2.2.2.1]? = some (.static (mY e.2.2.1))) ∧
    (e.2.1 = 3 ∨ e.2.1 = 5 → lw_tbl[(mE e.2.2.1).2.2.2.2.2.2.2.1]? = some (.instanceMethod (mY e.2.2.1)) ∧ (mY e.2.2.1).name = "<init>") := by decide +kernel
set_option maxRecDepth 100000 in
theorem ct4_ok : ∀ e ∈ ct4, 1 ≤ e.2.1 ∧ e.2.1 ≤ 7 ∧ (e.2.1 = 6 → lw_tbl[e.2.2.2.2]? = some (.methodLink (oN (e.1 / 1000)) (e.1 % 1000) Lib.Math.max.name)) ∧ (e.2.1 = 7 → lw_tbl[e.2.2.2.2]? = some (.methodLink (oN (e.1 / 1000)) (e.1 % 1000) Lib.Math.min.name)) ∧ (e.2.1 = 4 → lw_tbl[e.2.2.2.2]? = some (.methodLink (oN (e.1 / 1000)) (e.1 % 1000) objectInit)) ∧ (e.2.1 ≠ 4 → e.2.1 ≤ 5 → 0 < e.2.2.1 ∧ e.2.2.1 < 163 ∧ (parseMethodDescriptor (mY e.2.2.1).desc).map (fun d => d.parameters.length) = some e.2.2.2.1) ∧
    (e.2.1 = 1 ∨ e.2.1 = 2 ∨ e.2.1 = 3 → lw_tbl[e.2.2.2.2]? = some (.methodLink (oN (e.1 / 1000)) (e.1 % 1000) (mY e.2.2.1))) ∧ (e.2.1 = 5 → lw_tbl[e.2.2.2.2]? = some (.methodLinkNest (oN (e.1 / 1000)) (e.1 % 1000) (mY e.2.2.1) RX8)) ∧
    (e.2.1 = 1 → lw_tbl[(mE e.2.2.1).2.2.2.2.2.2.2.1]? = some (.instanceMethod (mY e.2.2.1)) ∧ lw_tbl[(mE e.2.2.1).2.2.2.2.2.2.2.2]? = some (.selects (mY e.2.2.1).cls (mY e.2.2.1) (mY e.2.2.1))) ∧ (e.2.1 = 2 → lw_tbl[(mE e.2.2.1).2.2.2.2.2.2.2.1]? = some (.static (mY e.2.2.1))) ∧
    (e.2.1 = 3 ∨ e.2.1 = 5 → lw_tbl[(mE e.2.2.1).2.2.2.2.2.2.2.1]? = some (.instanceMethod (mY e.2.2.1)) ∧ (mY e.2.2.1).name = "<init>") := by decide +kernel
set_option maxRecDepth 100000 in
theorem ct5_ok : ∀ e ∈ ct5, 1 ≤ e.2.1 ∧ e.2.1 ≤ 7 ∧ (e.2.1 = 6 → lw_tbl[e.2.2.2.2]? = some (.methodLink (oN (e.1 / 1000)) (e.1 % 1000) Lib.Math.max.name)) ∧ (e.2.1 = 7 → lw_tbl[e.2.2.2.2]? = some (.methodLink (oN (e.1 / 1000)) (e.1 % 1000) Lib.Math.min.name)) ∧ (e.2.1 = 4 → lw_tbl[e.2.2.2.2]? = some (.methodLink (oN (e.1 / 1000)) (e.1 % 1000) objectInit)) ∧ (e.2.1 ≠ 4 → e.2.1 ≤ 5 → 0 < e.2.2.1 ∧ e.2.2.1 < 163 ∧ (parseMethodDescriptor (mY e.2.2.1).desc).map (fun d => d.parameters.length) = some e.2.2.2.1) ∧
    (e.2.1 = 1 ∨ e.2.1 = 2 ∨ e.2.1 = 3 → lw_tbl[e.2.2.2.2]? = some (.methodLink (oN (e.1 / 1000)) (e.1 % 1000) (mY e.2.2.1))) ∧ (e.2.1 = 5 → lw_tbl[e.2.2.2.2]? = some (.methodLinkNest (oN (e.1 / 1000)) (e.1 % 1000) (mY e.2.2.1) RX8)) ∧
    (e.2.1 = 1 → lw_tbl[(mE e.2.2.1).2.2.2.2.2.2.2.1]? = some (.instanceMethod (mY e.2.2.1)) ∧ lw_tbl[(mE e.2.2.1).2.2.2.2.2.2.2.2]? = some (.selects (mY e.2.2.1).cls (mY e.2.2.1) (mY e.2.2.1))) ∧ (e.2.1 = 2 → lw_tbl[(mE e.2.2.1).2.2.2.2.2.2.2.1]? = some (.static (mY e.2.2.1))) ∧
    (e.2.1 = 3 ∨ e.2.1 = 5 → lw_tbl[(mE e.2.2.1).2.2.2.2.2.2.2.1]? = some (.instanceMethod (mY e.2.2.1)) ∧ (mY e.2.2.1).name = "<init>") := by decide +kernel
set_option maxRecDepth 100000 in
theorem ct6_ok : ∀ e ∈ ct6, 1 ≤ e.2.1 ∧ e.2.1 ≤ 7 ∧ (e.2.1 = 6 → lw_tbl[e.2.2.2.2]? = some (.methodLink (oN (e.1 / 1000)) (e.1 % 1000) Lib.Math.max.name)) ∧ (e.2.1 = 7 → lw_tbl[e.2.2.2.2]? = some (.methodLink (oN (e.1 / 1000)) (e.1 % 1000) Lib.Math.min.name)) ∧ (e.2.1 = 4 → lw_tbl[e.2.2.2.2]? = some (.methodLink (oN (e.1 / 1000)) (e.1 % 1000) objectInit)) ∧ (e.2.1 ≠ 4 → e.2.1 ≤ 5 → 0 < e.2.2.1 ∧ e.2.2.1 < 163 ∧ (parseMethodDescriptor (mY e.2.2.1).desc).map (fun d => d.parameters.length) = some e.2.2.2.1) ∧
    (e.2.1 = 1 ∨ e.2.1 = 2 ∨ e.2.1 = 3 → lw_tbl[e.2.2.2.2]? = some (.methodLink (oN (e.1 / 1000)) (e.1 % 1000) (mY e.2.2.1))) ∧ (e.2.1 = 5 → lw_tbl[e.2.2.2.2]? = some (.methodLinkNest (oN (e.1 / 1000)) (e.1 % 1000) (mY e.2.2.1) RX8)) ∧
    (e.2.1 = 1 → lw_tbl[(mE e.2.2.1).2.2.2.2.2.2.2.1]? = some (.instanceMethod (mY e.2.2.1)) ∧ lw_tbl[(mE e.2.2.1).2.2.2.2.2.2.2.2]? = some (.selects (mY e.2.2.1).cls (mY e.2.2.1) (mY e.2.2.1))) ∧ (e.2.1 = 2 → lw_tbl[(mE e.2.2.1).2.2.2.2.2.2.2.1]? = some (.static (mY e.2.2.1))) ∧
    (e.2.1 = 3 ∨ e.2.1 = 5 → lw_tbl[(mE e.2.2.1).2.2.2.2.2.2.2.1]? = some (.instanceMethod (mY e.2.2.1)) ∧ (mY e.2.2.1).name = "<init>") := by decide +kernel
set_option maxRecDepth 100000 in
theorem ct7_ok : ∀ e ∈ ct7, 1 ≤ e.2.1 ∧ e.2.1 ≤ 7 ∧ (e.2.1 = 6 → lw_tbl[e.2.2.2.2]? = some (.methodLink (oN (e.1 / 1000)) (e.1 % 1000) Lib.Math.max.name)) ∧ (e.2.1 = 7 → lw_tbl[e.2.2.2.2]? = some (.methodLink (oN (e.1 / 1000)) (e.1 % 1000) Lib.Math.min.name)) ∧ (e.2.1 = 4 → lw_tbl[e.2.2.2.2]? = some (.methodLink (oN (e.1 / 1000)) (e.1 % 1000) objectInit)) ∧ (e.2.1 ≠ 4 → e.2.1 ≤ 5 → 0 < e.2.2.1 ∧ e.2.2.1 < 163 ∧ (parseMethodDescriptor (mY e.2.2.1).desc).map (fun d => d.parameters.length) = some e.2.2.2.1) ∧
    (e.2.1 = 1 ∨ e.2.1 = 2 ∨ e.2.1 = 3 → lw_tbl[e.2.2.2.2]? = some (.methodLink (oN (e.1 / 1000)) (e.1 % 1000) (mY e.2.2.1))) ∧ (e.2.1 = 5 → lw_tbl[e.2.2.2.2]? = some (.methodLinkNest (oN (e.1 / 1000)) (e.1 % 1000) (mY e.2.2.1) RX8)) ∧
    (e.2.1 = 1 → lw_tbl[(mE e.2.2.1).2.2.2.2.2.2.2.1]? = some (.instanceMethod (mY e.2.2.1)) ∧ lw_tbl[(mE e.2.2.1).2.2.2.2.2.2.2.2]? = some (.selects (mY e.2.2.1).cls (mY e.2.2.1) (mY e.2.2.1))) ∧ (e.2.1 = 2 → lw_tbl[(mE e.2.2.1).2.2.2.2.2.2.2.1]? = some (.static (mY e.2.2.1))) ∧
    (e.2.1 = 3 ∨ e.2.1 = 5 → lw_tbl[(mE e.2.2.1).2.2.2.2.2.2.2.1]? = some (.instanceMethod (mY e.2.2.1)) ∧ (mY e.2.2.1).name = "<init>") := by decide +kernel
set_option maxRecDepth 100000 in
theorem ct8_ok : ∀ e ∈ ct8, 1 ≤ e.2.1 ∧ e.2.1 ≤ 7 ∧ (e.2.1 = 6 → lw_tbl[e.2.2.2.2]? = some (.methodLink (oN (e.1 / 1000)) (e.1 % 1000) Lib.Math.max.name)) ∧ (e.2.1 = 7 → lw_tbl[e.2.2.2.2]? = some (.methodLink (oN (e.1 / 1000)) (e.1 % 1000) Lib.Math.min.name)) ∧ (e.2.1 = 4 → lw_tbl[e.2.2.2.2]? = some (.methodLink (oN (e.1 / 1000)) (e.1 % 1000) objectInit)) ∧ (e.2.1 ≠ 4 → e.2.1 ≤ 5 → 0 < e.2.2.1 ∧ e.2.2.1 < 163 ∧ (parseMethodDescriptor (mY e.2.2.1).desc).map (fun d => d.parameters.length) = some e.2.2.2.1) ∧
    (e.2.1 = 1 ∨ e.2.1 = 2 ∨ e.2.1 = 3 → lw_tbl[e.2.2.2.2]? = some (.methodLink (oN (e.1 / 1000)) (e.1 % 1000) (mY e.2.2.1))) ∧ (e.2.1 = 5 → lw_tbl[e.2.2.2.2]? = some (.methodLinkNest (oN (e.1 / 1000)) (e.1 % 1000) (mY e.2.2.1) RX8)) ∧
    (e.2.1 = 1 → lw_tbl[(mE e.2.2.1).2.2.2.2.2.2.2.1]? = some (.instanceMethod (mY e.2.2.1)) ∧ lw_tbl[(mE e.2.2.1).2.2.2.2.2.2.2.2]? = some (.selects (mY e.2.2.1).cls (mY e.2.2.1) (mY e.2.2.1))) ∧ (e.2.1 = 2 → lw_tbl[(mE e.2.2.1).2.2.2.2.2.2.2.1]? = some (.static (mY e.2.2.1))) ∧
    (e.2.1 = 3 ∨ e.2.1 = 5 → lw_tbl[(mE e.2.2.1).2.2.2.2.2.2.2.1]? = some (.instanceMethod (mY e.2.2.1)) ∧ (mY e.2.2.1).name = "<init>") := by decide +kernel
set_option maxRecDepth 100000 in
theorem ct9_ok : ∀ e ∈ ct9, 1 ≤ e.2.1 ∧ e.2.1 ≤ 7 ∧ (e.2.1 = 6 → lw_tbl[e.2.2.2.2]? = some (.methodLink (oN (e.1 / 1000)) (e.1 % 1000) Lib.Math.max.name)) ∧ (e.2.1 = 7 → lw_tbl[e.2.2.2.2]? = some (.methodLink (oN (e.1 / 1000)) (e.1 % 1000) Lib.Math.min.name)) ∧ (e.2.1 = 4 → lw_tbl[e.2.2.2.2]? = some (.methodLink (oN (e.1 / 1000)) (e.1 % 1000) objectInit)) ∧ (e.2.1 ≠ 4 → e.2.1 ≤ 5 → 0 < e.2.2.1 ∧ e.2.2.1 < 163 ∧ (parseMethodDescriptor (mY e.2.2.1).desc).map (fun d => d.parameters.length) = some e.2.2.2.1) ∧
    (e.2.1 = 1 ∨ e.2.1 = 2 ∨ e.2.1 = 3 → lw_tbl[e.2.2.2.2]? = some (.methodLink (oN (e.1 / 1000)) (e.1 % 1000) (mY e.2.2.1))) ∧ (e.2.1 = 5 → lw_tbl[e.2.2.2.2]? = some (.methodLinkNest (oN (e.1 / 1000)) (e.1 % 1000) (mY e.2.2.1) RX8)) ∧
    (e.2.1 = 1 → lw_tbl[(mE e.2.2.1).2.2.2.2.2.2.2.1]? = some (.instanceMethod (mY e.2.2.1)) ∧ lw_tbl[(mE e.2.2.1).2.2.2.2.2.2.2.2]? = some (.selects (mY e.2.2.1).cls (mY e.2.2.1) (mY e.2.2.1))) ∧ (e.2.1 = 2 → lw_tbl[(mE e.2.2.1).2.2.2.2.2.2.2.1]? = some (.static (mY e.2.2.1))) ∧
    (e.2.1 = 3 ∨ e.2.1 = 5 → lw_tbl[(mE e.2.2.1).2.2.2.2.2.2.2.1]? = some (.instanceMethod (mY e.2.2.1)) ∧ (mY e.2.2.1).name = "<init>") := by decide +kernel
set_option maxRecDepth 100000 in
theorem ct10_ok : ∀ e ∈ ct10, 1 ≤ e.2.1 ∧ e.2.1 ≤ 7 ∧ (e.2.1 = 6 → lw_tbl[e.2.2.2.2]? = some (.methodLink (oN (e.1 / 1000)) (e.1 % 1000) Lib.Math.max.name)) ∧ (e.2.1 = 7 → lw_tbl[e.2.2.2.2]? = some (.methodLink (oN (e.1 / 1000)) (e.1 % 1000) Lib.Math.min.name)) ∧ (e.2.1 = 4 → lw_tbl[e.2.2.2.2]? = some (.methodLink (oN (e.1 / 1000)) (e.1 % 1000) objectInit)) ∧ (e.2.1 ≠ 4 → e.2.1 ≤ 5 → 0 < e.2.2.1 ∧ e.2.2.1 < 163 ∧ (parseMethodDescriptor (mY e.2.2.1).desc).map (fun d => d.parameters.length) = some e.2.2.2.1) ∧
    (e.2.1 = 1 ∨ e.2.1 = 2 ∨ e.2.1 = 3 → lw_tbl[e.2.2.2.2]? = some (.methodLink (oN (e.1 / 1000)) (e.1 % 1000) (mY e.2.2.1))) ∧ (e.2.1 = 5 → lw_tbl[e.2.2.2.2]? = some (.methodLinkNest (oN (e.1 / 1000)) (e.1 % 1000) (mY e.2.2.1) RX8)) ∧
    (e.2.1 = 1 → lw_tbl[(mE e.2.2.1).2.2.2.2.2.2.2.1]? = some (.instanceMethod (mY e.2.2.1)) ∧ lw_tbl[(mE e.2.2.1).2.2.2.2.2.2.2.2]? = some (.selects (mY e.2.2.1).cls (mY e.2.2.1) (mY e.2.2.1))) ∧ (e.2.1 = 2 → lw_tbl[(mE e.2.2.1).2.2.2.2.2.2.2.1]? = some (.static (mY e.2.2.1))) ∧
    (e.2.1 = 3 ∨ e.2.1 = 5 → lw_tbl[(mE e.2.2.1).2.2.2.2.2.2.2.1]? = some (.instanceMethod (mY e.2.2.1)) ∧ (mY e.2.2.1).name = "<init>") := by decide +kernel
set_option maxRecDepth 100000 in
theorem ct11_ok : ∀ e ∈ ct11, 1 ≤ e.2.1 ∧ e.2.1 ≤ 7 ∧ (e.2.1 = 6 → lw_tbl[e.2.2.2.2]? = some (.methodLink (oN (e.1 / 1000)) (e.1 % 1000) Lib.Math.max.name)) ∧ (e.2.1 = 7 → lw_tbl[e.2.2.2.2]? = some (.methodLink (oN (e.1 / 1000)) (e.1 % 1000) Lib.Math.min.name)) ∧ (e.2.1 = 4 → lw_tbl[e.2.2.2.2]? = some (.methodLink (oN (e.1 / 1000)) (e.1 % 1000) objectInit)) ∧ (e.2.1 ≠ 4 → e.2.1 ≤ 5 → 0 < e.2.2.1 ∧ e.2.2.1 < 163 ∧ (parseMethodDescriptor (mY e.2.2.1).desc).map (fun d => d.parameters.length) = some e.2.2.2.1) ∧
    (e.2.1 = 1 ∨ e.2.1 = 2 ∨ e.2.1 = 3 → lw_tbl[e.2.2.2.2]? = some (.methodLink (oN (e.1 / 1000)) (e.1 % 1000) (mY e.2.2.1))) ∧ (e.2.1 = 5 → lw_tbl[e.2.2.2.2]? = some (.methodLinkNest (oN (e.1 / 1000)) (e.1 % 1000) (mY e.2.2.1) RX8)) ∧
    (e.2.1 = 1 → lw_tbl[(mE e.2.2.1).2.2.2.2.2.2.2.1]? = some (.instanceMethod (mY e.2.2.1)) ∧ lw_tbl[(mE e.2.2.1).2.2.2.2.2.2.2.2]? = some (.selects (mY e.2.2.1).cls (mY e.2.2.1) (mY e.2.2.1))) ∧ (e.2.1 = 2 → lw_tbl[(mE e.2.2.1).2.2.2.2.2.2.2.1]? = some (.static (mY e.2.2.1))) ∧
    (e.2.1 = 3 ∨ e.2.1 = 5 → lw_tbl[(mE e.2.2.1).2.2.2.2.2.2.2.1]? = some (.instanceMethod (mY e.2.2.1)) ∧ (mY e.2.2.1).name = "<init>") := by decide +kernel
set_option maxRecDepth 100000 in
theorem ct12_ok : ∀ e ∈ ct12, 1 ≤ e.2.1 ∧ e.2.1 ≤ 7 ∧ (e.2.1 = 6 → lw_tbl[e.2.2.2.2]? = some (.methodLink (oN (e.1 / 1000)) (e.1 % 1000) Lib.Math.max.name)) ∧ (e.2.1 = 7 → lw_tbl[e.2.2.2.2]? = some (.methodLink (oN (e.1 / 1000)) (e.1 % 1000) Lib.Math.min.name)) ∧ (e.2.1 = 4 → lw_tbl[e.2.2.2.2]? = some (.methodLink (oN (e.1 / 1000)) (e.1 % 1000) objectInit)) ∧ (e.2.1 ≠ 4 → e.2.1 ≤ 5 → 0 < e.2.2.1 ∧ e.2.2.1 < 163 ∧ (parseMethodDescriptor (mY e.2.2.1).desc).map (fun d => d.parameters.length) = some e.2.2.2.1) ∧
    (e.2.1 = 1 ∨ e.2.1 = 2 ∨ e.2.1 = 3 → lw_tbl[e.2.2.2.2]? = some (.methodLink (oN (e.1 / 1000)) (e.1 % 1000) (mY e.2.2.1))) ∧ (e.2.1 = 5 → lw_tbl[e.2.2.2.2]? = some (.methodLinkNest (oN (e.1 / 1000)) (e.1 % 1000) (mY e.2.2.1) RX8)) ∧
    (e.2.1 = 1 → lw_tbl[(mE e.2.2.1).2.2.2.2.2.2.2.1]? = some (.instanceMethod (mY e.2.2.1)) ∧ lw_tbl[(mE e.2.2.1).2.2.2.2.2.2.2.2]? = some (.selects (mY e.2.2.1).cls (mY e.2.2.1) (mY e.2.2.1))) ∧ (e.2.1 = 2 → lw_tbl[(mE e.2.2.1).2.2.2.2.2.2.2.1]? = some (.static (mY e.2.2.1))) ∧
    (e.2.1 = 3 ∨ e.2.1 = 5 → lw_tbl[(mE e.2.2.1).2.2.2.2.2.2.2.1]? = some (.instanceMethod (mY e.2.2.1)) ∧ (mY e.2.2.1).name = "<init>") := by decide +kernel
theorem ctab_ok : ∀ e ∈ ctab, 1 ≤ e.2.1 ∧ e.2.1 ≤ 7 ∧ (e.2.1 = 6 → lw_tbl[e.2.2.2.2]? = some (.methodLink (oN (e.1 / 1000)) (e.1 % 1000) Lib.Math.max.name)) ∧ (e.2.1 = 7 → lw_tbl[e.2.2.2.2]? = some (.methodLink (oN (e.1 / 1000)) (e.1 % 1000) Lib.Math.min.name)) ∧ (e.2.1 = 4 → lw_tbl[e.2.2.2.2]? = some (.methodLink (oN (e.1 / 1000)) (e.1 % 1000) objectInit)) ∧ (e.2.1 ≠ 4 → e.2.1 ≤ 5 → 0 < e.2.2.1 ∧ e.2.2.1 < 163 ∧ (parseMethodDescriptor (mY e.2.2.1).desc).map (fun d => d.parameters.length) = some e.2.2.2.1) ∧
    (e.2.1 = 1 ∨ e.2.1 = 2 ∨ e.2.1 = 3 → lw_tbl[e.2.2.2.2]? = some (.methodLink (oN (e.1 / 1000)) (e.1 % 1000) (mY e.2.2.1))) ∧ (e.2.1 = 5 → lw_tbl[e.2.2.2.2]? = some (.methodLinkNest (oN (e.1 / 1000)) (e.1 % 1000) (mY e.2.2.1) RX8)) ∧
    (e.2.1 = 1 → lw_tbl[(mE e.2.2.1).2.2.2.2.2.2.2.1]? = some (.instanceMethod (mY e.2.2.1)) ∧ lw_tbl[(mE e.2.2.1).2.2.2.2.2.2.2.2]? = some (.selects (mY e.2.2.1).cls (mY e.2.2.1) (mY e.2.2.1))) ∧ (e.2.1 = 2 → lw_tbl[(mE e.2.2.1).2.2.2.2.2.2.2.1]? = some (.static (mY e.2.2.1))) ∧
    (e.2.1 = 3 ∨ e.2.1 = 5 → lw_tbl[(mE e.2.2.1).2.2.2.2.2.2.2.1]? = some (.instanceMethod (mY e.2.2.1)) ∧ (mY e.2.2.1).name = "<init>") := List.forall_mem_append.mpr ⟨ct1_ok, List.forall_mem_append.mpr ⟨ct2_ok, List.forall_mem_append.mpr ⟨ct3_ok, List.forall_mem_append.mpr ⟨ct4_ok, List.forall_mem_append.mpr ⟨ct5_ok, List.forall_mem_append.mpr ⟨ct6_ok, List.forall_mem_append.mpr ⟨ct7_ok, List.forall_mem_append.mpr ⟨ct8_ok, List.forall_mem_append.mpr ⟨ct9_ok, List.forall_mem_append.mpr ⟨ct10_ok, List.forall_mem_append.mpr ⟨ct11_ok, ct12_ok⟩⟩⟩⟩⟩⟩⟩⟩⟩⟩⟩
set_option maxRecDepth 100000 in
theorem cl_lays : ∀ ci, ci < 10 → ∀ w ∈ u_ws (clR ci) (clT ci) (clN ci), w ∈ lw_tbl := by decide +kernel
theorem cl_types : ∀ ci, ci < 10 → ∀ k, k < clN ci → parseFieldDescriptor (clT ci k).2.2.1 = some (fT ci k) := by decide +kernel
theorem cl_own : ∀ ci, ci < 10 → ∀ k, k < clN ci → (clT ci k).1 = clR ci := by decide +kernel
theorem cl_names : ∀ ci, ci < 10 → ∀ a, a < clN ci → ∀ b, b < clN ci → a ≠ b → (clT ci a).2.1 ≠ (clT ci b).2.1 := by decide +kernel
theorem cl_at : ∀ ci, ci < 10 → vwCl[ci]? = some (clR ci, clT ci, clN ci) := by
  intro ci h
  match ci, h with
  | 0, _ => rfl
  | 1, _ => rfl
  | 2, _ => rfl
  | 3, _ => rfl
  | 4, _ => rfl
  | 5, _ => rfl
  | 6, _ => rfl
  | 7, _ => rfl
  | 8, _ => rfl
  | 9, _ => rfl
theorem obj_words : lw_tbl[99]? = some (.instanceMethod objectInit) ∧ lw_tbl[100]? = some (.code objectInit ⟨#[0xb1]⟩ 1 none) := by decide +kernel
theorem arr_words : lw_tbl[147]? = some (.arrayClass .int) ∧ lw_tbl[175]? = some (.arrayClass .long) ∧ lw_tbl[295]? = some (.arrayClass .byte) ∧ lw_tbl[279]? = some (.arrayClass .boolean) ∧ lw_tbl[843]? = some (.arrayOver (.array .int)) ∧ lw_tbl[845]? = some (.arrayOver (.array .long)) := by decide +kernel
theorem math_words : lw_tbl[690]? = some (.static Lib.Math.max.name) ∧ lw_tbl[687]? = some (.static Lib.Math.min.name) ∧ lw_tbl[91]? = some (.initialized "java/lang/Math") := by decide +kernel
theorem math_max : lw_tbl[691]? = some (Cond.code Lib.Math.max.name Lib.Math.max.code 2 (some .int)) := by decide +kernel
theorem math_min : lw_tbl[688]? = some (Cond.code Lib.Math.min.name Lib.Math.min.code 2 (some .int)) := by decide +kernel
theorem stat_word : lw_tbl[667]? = some (.fieldLinkNest RX3 103 "SweepBench" "INPUT_PATTERNS" "[J" "SweepBench") := by decide +kernel
theorem gtab_ok : ∀ e ∈ gtab, (e.2.1 = 5 → lw_tbl[e.2.2]? = some (.classLink (oN (e.1 / 1000)) (e.1 % 1000) ("[" ++ (FieldType.array .int).toString))) ∧ (e.2.1 = 6 → lw_tbl[e.2.2]? = some (.classLink (oN (e.1 / 1000)) (e.1 % 1000) ("[" ++ (FieldType.array .long).toString))) := by decide +kernel
def pOk (j : Nat) : Prop := ∀ q ∈ pt j, decode (mC j) q.1 = .ok q.2
theorem pok0 : pOk 0 := okL_law
theorem pok1 : pOk 1 := okX0_init
theorem pok2 : pOk 2 := okX0_parse
theorem pok3 : pOk 3 := okX0_fail
theorem pok4 : pOk 4 := okX0_andOf
theorem pok5 : pOk 5 := okX0_sideOf
theorem pok6 : pOk 6 := okX0_startAnew
theorem pok7 : pOk 7 := okX0_parseHead
theorem pok8 : pOk 8 := okX0_parseHeadNumber
theorem pok9 : pOk 9 := okX0_askHeadNumbers
theorem pok10 : pOk 10 := okX0_isBadHeadNumber
theorem pok11 : pOk 11 := okX0_hasTooFewVariables
theorem pok12 : pOk 12 := okX0_parseInputLines
theorem pok13 : pOk 13 := okX0_parseOutLines
theorem pok14 : pOk 14 := okX0_parseAndLines
theorem pok15 : pOk 15 := okX0_parseDefinition
theorem pok16 : pOk 16 := okX0_parseUse
theorem pok17 : pOk 17 := okX0_parseNumber
theorem pok18 : pOk 18 := okX0_expect
theorem pok19 : pOk 19 := okX0_failIf
theorem pok20 : pOk 20 := okX0_findNotDefined
theorem pok21 : pOk 21 := okX1_init
theorem pok22 : pOk 22 := okX1_arrange
theorem pok23 : pOk 23 := okX1_fill
theorem pok24 : pOk 24 := okX1_signalOf
theorem pok25 : pOk 25 := okX1_firstReady
theorem pok26 : pOk 26 := okX1_isThere
theorem pok27 : pOk 27 := okX1_failAtFirstLoop
theorem pok28 : pOk 28 := okX1_needsItself
theorem pok29 : pOk 29 := okX1_reachSides
theorem pok30 : pOk 30 := okX1_reach
theorem pok31 : pOk 31 := okX2_init
theorem pok32 : pOk 32 := okX2_reset
theorem pok33 : pOk 33 := okX2_hasSignal
theorem pok34 : pOk 34 := okX2_canTake
theorem pok35 : pOk 35 := okX2_addGate
theorem pok36 : pOk 36 := okX2_addOut
theorem pok37 : pOk 37 := okX2_literalOf
theorem pok38 : pOk 38 := okX2_plain
theorem pok39 : pOk 39 := okX3_init
theorem pok40 : pOk 40 := okX3_bringUp
theorem pok41 : pOk 41 := okX3_isAnd
theorem pok42 : pOk 42 := okX3_bitOf
theorem pok43 : pOk 43 := okX3_firstWordApart
theorem pok44 : pOk 44 := okX3_likeness
theorem pok45 : pOk 45 := okX3_restart
theorem pok46 : pOk 46 := okX3_makeFalse
theorem pok47 : pOk 47 := okX3_makeInput
theorem pok48 : pOk 48 := okX3_makeGate
theorem pok49 : pOk 49 := okX3_makeKind
theorem pok50 : pOk 50 := okX3_makeChoice
theorem pok51 : pOk 51 := okX3_makeMajority
theorem pok52 : pOk 52 := okX3_makeAnd
theorem pok53 : pOk 53 := okX3_addAnd
theorem pok54 : pOk 54 := okX3_addNode
theorem pok55 : pOk 55 := okX3_wordOf
theorem pok56 : pOk 56 := okX4_init
theorem pok57 : pOk 57 := okX4_find
theorem pok58 : pOk 58 := okX4_leaderOf
theorem pok59 : pOk 59 := okX5_init
theorem pok60 : pOk 60 := okX5_run
theorem pok61 : pOk 61 := okX5_representativeOf
theorem pok62 : pOk 62 := okX5_askCandidate
theorem pok63 : pOk 63 := okX5_findNeeded
theorem pok64 : pOk 64 := okX5_markOuts
theorem pok65 : pOk 65 := okX5_mark
theorem pok66 : pOk 66 := okX6_init
theorem pok67 : pOk 67 := okX6_append
theorem pok68 : pOk 68 := okX6_byteAt
theorem pok69 : pOk 69 := okX6_hasDigitAt
theorem pok70 : pOk 70 := okX7_init
theorem pok71 : pOk 71 := okX7_empty
theorem pok72 : pOk 72 := okX7_has
theorem pok73 : pOk 73 := okX7_add
theorem pok74 : pOk 74 := okX8_init
theorem pok75 : pOk 75 := okX8_inputs
theorem pok76 : pOk 76 := okX8_gate
theorem pok77 : pOk 77 := okX8_output
theorem pok78 : pOk 78 := okX8_clear
theorem pok79 : pOk 79 := okX8_feed
theorem pok80 : pOk 80 := okX8_end
theorem pok81 : pOk 81 := okX8_read
theorem pok82 : pOk 82 := okX8_place
theorem pok83 : pOk 83 := okX8_value
theorem pok84 : pOk 84 := okX8_vector
theorem pok85 : pOk 85 := okX8_forget
theorem pok86 : pOk 86 := okX8_given
theorem pok87 : pOk 87 := okX8_count
theorem pok88 : pOk 88 := okX8_node
theorem pok89 : pOk 89 := okX8_literal
theorem pok90 : pOk 90 := okX8_sweep
theorem pok91 : pOk 91 := okX8_swept
theorem pok92 : pOk 92 := okX8_told
theorem pok93 : pOk 93 := okX8_same
theorem pok94 : pOk 94 := okX8_differs
theorem pok95 : pOk 95 := okX8_verdict
theorem pok96 : pOk 96 := okX8_circuitAt
theorem pok97 : pOk 97 := okX8_isInputWord
theorem pok98 : pOk 98 := okX8_noteMoreOfACircuit
theorem pok99 : pOk 99 := okX8_noteNewCircuit
theorem pok100 : pOk 100 := okX8_bringUpGroups
theorem pok101 : pOk 101 := okX8_bothHaveOut
theorem pok102 : pOk 102 := okX8_firstWordApart
theorem pok103 : pOk 103 := okX9_init
theorem pok104 : pOk 104 := okX9_words
theorem pok105 : pOk 105 := okX9_isCircuit
theorem pok106 : pOk 106 := okX9_changed
theorem pok107 : pOk 107 := okX9_empty
theorem pok108 : pOk 108 := okX9_inputs
theorem pok109 : pOk 109 := okX9_has
theorem pok110 : pOk 110 := okX9_gate
theorem pok111 : pOk 111 := okX9_output
theorem pok112 : pOk 112 := okX9_clear
theorem pok113 : pOk 113 := okX9_feed
theorem pok114 : pOk 114 := okX9_put
theorem pok115 : pOk 115 := okX9_end
theorem pok116 : pOk 116 := okX9_fails
theorem pok117 : pOk 117 := okX9_is
theorem pok118 : pOk 118 := okX9_number
theorem pok119 : pOk 119 := okX9_firstLine
theorem pok120 : pOk 120 := okX9_defines
theorem pok121 : pOk 121 := okX9_uses
theorem pok122 : pOk 122 := okX9_lines
theorem pok123 : pOk 123 := okX9_at0
theorem pok124 : pOk 124 := okX9_isDefined
theorem pok125 : pOk 125 := okX9_allDefined
theorem pok126 : pOk 126 := okX9_needsItself
theorem pok127 : pOk 127 := okX9_mark
theorem pok128 : pOk 128 := okX9_signalOf
theorem pok129 : pOk 129 := okX9_becomes
theorem pok130 : pOk 130 := okX9_read
theorem pok131 : pOk 131 := okX9_place
theorem pok132 : pOk 132 := okX9_newNode
theorem pok133 : pOk 133 := okX9_bits
theorem pok134 : pOk 134 := okX9_and
theorem pok135 : pOk 135 := okX9_side
theorem pok136 : pOk 136 := okX9_gateOf
theorem pok137 : pOk 137 := okX9_graph
theorem pok138 : pOk 138 := okX9_bit
theorem pok139 : pOk 139 := okX9_unlike
theorem pok140 : pOk 140 := okX9_value
theorem pok141 : pOk 141 := okX9_isGiven
theorem pok142 : pOk 142 := okX9_give
theorem pok143 : pOk 143 := okX9_vector
theorem pok144 : pOk 144 := okX9_forget
theorem pok145 : pOk 145 := okX9_given
theorem pok146 : pOk 146 := okX9_like
theorem pok147 : pOk 147 := okX9_leastLike
theorem pok148 : pOk 148 := okX9_count
theorem pok149 : pOk 149 := okX9_node
theorem pok150 : pOk 150 := okX9_literal
theorem pok151 : pOk 151 := okX9_candidate
theorem pok152 : pOk 152 := okX9_sweep
theorem pok153 : pOk 153 := okX9_need
theorem pok154 : pOk 154 := okX9_swept
theorem pok155 : pOk 155 := okX9_told
theorem pok156 : pOk 156 := okX9_both
theorem pok157 : pOk 157 := okX9_differs
theorem pok158 : pOk 158 := okX9_same
theorem pok159 : pOk 159 := okX9_verdict
theorem pok160 : pOk 160 := okJ13_bitCount_95d88
theorem pok161 : pOk 161 := okJ7_fill_d0a16
theorem pok162 : pOk 162 := okJ7_fill_53178
end
section
/-! ===== a pure machine over the same bytecode: a heap of numbered cells, a step as a predicate of what comes next, least fixed points ===== -/
def u1 {α : Type} (f : Nat → α) (k : Nat) (v : α) : Nat → α := fun j => if j = k then v else f j
def u2 {α : Type} (f : Nat → Nat → α) (k j : Nat) (v : α) : Nat → Nat → α := u1 f k (u1 (f k) j v)
/-- ints, longs and references by cell and place; a cell's kind (0 object, 1 int[], 2 long[], 3 byte[], 4 boolean[], 5 int[][], 6 long[][], 7 the script, 8 the patterns, 9 none) with its class or length; how many cells -/
abbrev hp : Type := (Nat → Nat → Int32) × (Nat → Nat → Int64) × (Nat → Nat → Option Nat) × (Nat → Nat × Nat) × Nat
abbrev hI (h : hp) : Nat → Nat → Int32 := h.1
abbrev hJ (h : hp) : Nat → Nat → Int64 := h.2.1
abbrev hR (h : hp) : Nat → Nat → Option Nat := h.2.2.1
abbrev hK (h : hp) : Nat → Nat × Nat := h.2.2.2.1
abbrev hN (h : hp) : Nat := h.2.2.2.2
def sI (h : hp) (k j : Nat) (v : Int32) : hp := (u2 h.1 k j v, h.2)
def sJ (h : hp) (k j : Nat) (v : Int64) : hp := (h.1, u2 h.2.1 k j v, h.2.2)
def sR (h : hp) (k j : Nat) (v : Option Nat) : hp := (h.1, h.2.1, u2 h.2.2.1 k j v, h.2.2.2)
/-- one more cell, all of it zero -/
def hnew (h : hp) (t n : Nat) : hp := (u1 (hI h) (hN h) (fun _ => 0), u1 (hJ h) (hN h) (fun _ => 0), u1 (hR h) (hN h) (fun _ => none), u1 (hK h) (hN h) (t, n), hN h + 1)
/-- new T[n][m]: the outer row, then n rows of m -/
def hgrid (h : hp) (t ti n m : Nat) : hp :=
  (fun a => if hN h ≤ a ∧ a ≤ hN h + n then (fun _ => 0) else hI h a, fun a => if hN h ≤ a ∧ a ≤ hN h + n then (fun _ => 0) else hJ h a,
   fun a => if a = hN h then (fun i => if i < n then some (hN h + 1 + i) else none) else if hN h < a ∧ a ≤ hN h + n then (fun _ => none) else hR h a,
   fun a => if a = hN h then (t, n) else if hN h < a ∧ a ≤ hN h + n then (ti, m) else hK h a, hN h + 1 + n)
def pval (ty : FieldType) (i : Int32) (j : Int64) (r : Option Nat) : Value := match ty with
  | .long => .long j
  | .object _ => va_rf r
  | .array _ => va_rf r
  | _ => .int i
abbrev cfgP : Type := Nat → List (Nat × Value) → List Value → hp → Nat → Nat → Prop
abbrev resP : Type := Option Value → hp → Prop
abbrev callP : Type := Nat → List Value → hp → Nat → Nat → resP → Prop
def lset1 (ls : List (Nat × Value)) (i : Nat) (v : Value) : List (Nat × Value) := (i, v) :: ls.filter (fun q => !(q.1 == i) && !(q.1 + 1 == i && q.2.category == 2))
def lset2 (ls : List (Nat × Value)) (i : Nat) (v : Value) : List (Nat × Value) := (i, v) :: ls.filter (fun q => !(q.1 == i) && (!(q.1 == i + 1) && !(q.1 + 1 == i && q.2.category == 2)))
def oI (st : List Value) (k : Int32 → List Value → Prop) : Prop := match st with
  | .int x :: r => k x r
  | _ => False
def oII (st : List Value) (k : Int32 → Int32 → List Value → Prop) : Prop := match st with
  | .int y :: .int x :: r => k x y r
  | _ => False
def oJ (st : List Value) (k : Int64 → List Value → Prop) : Prop := match st with
  | .long x :: r => k x r
  | _ => False
def oJJ (st : List Value) (k : Int64 → Int64 → List Value → Prop) : Prop := match st with
  | .long y :: .long x :: r => k x y r
  | _ => False
def oJI (st : List Value) (k : Int64 → Int32 → List Value → Prop) : Prop := match st with
  | .int y :: .long x :: r => k x y r
  | _ => False
def oA (st : List Value) (k : Nat → List Value → Prop) : Prop := match st with
  | .ref a :: r => k a r
  | _ => False
def oAI (st : List Value) (k : Nat → Int32 → List Value → Prop) : Prop := match st with
  | .int i :: .ref a :: r => k a i r
  | _ => False
def oAII (st : List Value) (k : Nat → Int32 → Int32 → List Value → Prop) : Prop := match st with
  | .int x :: .int i :: .ref a :: r => k a i x r
  | _ => False
def oAIJ (st : List Value) (k : Nat → Int32 → Int64 → List Value → Prop) : Prop := match st with
  | .long x :: .int i :: .ref a :: r => k a i x r
  | _ => False
def lI (ls : List (Nat × Value)) (i : Nat) (k : Int32 → Prop) : Prop := match ls.lookup i with
  | some (.int x) => k x
  | _ => False
def lJ (ls : List (Nat × Value)) (i : Nat) (k : Int64 → Prop) : Prop := match ls.lookup i with
  | some (.long x) => k x
  | _ => False
def lA (ls : List (Nat × Value)) (i : Nat) (k : Value → Prop) : Prop := match ls.lookup i with
  | some (.ref x) => k (.ref x)
  | some .null => k .null
  | _ => False
/-- a reference or null off the stack -/
def oV (st : List Value) (k : Value → List Value → Prop) : Prop := match st with
  | .ref a :: r => k (.ref a) r
  | .null :: r => k .null r
  | _ => False
def jmp (pc : Nat) (off : Int) : Nat := ((pc : Int) + off).toNat
def jok (pc : Nat) (off : Int) : Prop := 0 ≤ (pc : Int) + off
def isI (t : Nat) : Bool := t == 1 || t == 7
def isJ (t : Nat) : Bool := t == 2 || t == 8
def cats (st : List Value) : Nat := (st.map fun v => v.category).sum
def cIcmp (c : Jvm.ClassFile.Cond) (x y : Int32) : Prop := match c with
  | .eq => x = y
  | .ne => ¬ x = y
  | .lt => x < y
  | .ge => y ≤ x
  | .gt => y < x
  | .le => x ≤ y
def cIf (c : Jvm.ClassFile.Cond) (x : Int32) : Prop := match c with
  | .eq => x = 0
  | .ne => ¬ x = 0
  | .lt => x < 0
  | .ge => 0 ≤ x
  | .gt => 0 < x
  | .le => x ≤ 0
/-- a call's end: the callee's, then what comes next -/
def callK (C : callP) (X : cfgP) (i : Nat) (as rest : List Value) (pc : Nat) (ls : List (Nat × Value)) (h : hp) (bc bs : Nat) : Prop :=
  cats rest ≤ 8 ∧ ∃ (mc ms : Nat) (Qc : resP), mc ≤ bc ∧ ms ≤ bs ∧ C i as h mc ms Qc ∧ ∀ (v : Option Value) (h' : hp), Qc v h' → X (pc + 3) ls (v.toList ++ rest) h' (bc - mc) (bs - ms)
def putK (ty : FieldType) (v : Value) (h : hp) (a k : Nat) (K : hp → Prop) : Prop := match ty, v with
  | .int, .int x => K (sI h a k x)
  | .boolean, .int x => (x = 0 ∨ x = 1) ∧ K (sI h a k x)
  | .long, .long x => K (sJ h a k x)
  | .object _, .ref q => K (sR h a k (some q))
  | .object _, .null => K (sR h a k none)
  | .array _, .ref q => K (sR h a k (some q))
  | .array _, .null => K (sR h a k none)
  | _, _ => False
def retK (rt : Option FieldType) (ins : Instr) (st : List Value) (K : Option Value → Prop) : Prop := match ins, rt, st with
  | .return_, none, [] => K none
  | .ireturn, some .int, [.int x] => K (some (.int x))
  | .ireturn, some .boolean, [.int x] => (x = 0 ∨ x = 1) ∧ K (some (.int x))
  | .lreturn, some .long, [.long x] => K (some (.long x))
  | .areturn, some (.object _), [.ref a] => K (some (.ref a))
  | .areturn, some (.object _), [.null] => K (some .null)
  | _, _, _ => False
def atag (t : ArrayType) : Nat := match t with
  | .int => 1
  | .long => 2
  | .byte => 3
  | .boolean => 4
  | _ => 9
def fres (o i : Nat) : Nat × Nat × Nat := if i < 1000 then (ftab.lookup (o * 1000 + i)).getD (99, 0, 0) else (99, 0, 0)
def cres (o i : Nat) : Nat × Nat × Nat × Nat := if i < 1000 then (ctab.lookup (o * 1000 + i)).getD (0, 0, 0, 0) else (0, 0, 0, 0)
def nres (o i : Nat) : Nat × Nat := if i < 1000 then (ntab.lookup (o * 1000 + i)).getD (99, 0) else (99, 0)
def lres (o i : Nat) : Option (Int64 × Nat) := if i < 1000 then ltab.lookup (o * 1000 + i) else none
def gres (o i : Nat) : Nat × Nat := if i < 1000 then (gtab.lookup (o * 1000 + i)).getD (0, 0) else (0, 0)
def stepI (C : callP) (j : Nat) (Q : resP) (X : cfgP) (ins : Instr) (len : Nat) (pc : Nat) (ls : List (Nat × Value)) (st : List Value) (h : hp) (bc bs : Nat) : Prop :=
  match ins with
  | .aload_n k => lA ls k fun v => X (pc + 1) ls (v :: st) h bc bs
  | .aload k => lA ls k fun v => X (pc + 2) ls (v :: st) h bc bs
  | .iload_n k => lI ls k fun x => X (pc + 1) ls (.int x :: st) h bc bs
  | .iload k => lI ls k fun x => X (pc + 2) ls (.int x :: st) h bc bs
  | .lload_n k => lJ ls k fun x => X (pc + 1) ls (.long x :: st) h bc bs
  | .lload k => lJ ls k fun x => X (pc + 2) ls (.long x :: st) h bc bs
  | .astore_n k => (k : Nat) < mL j ∧ oV st fun v r => X (pc + 1) (lset1 ls k v) r h bc bs
  | .astore k => k < mL j ∧ oV st fun v r => X (pc + 2) (lset1 ls k v) r h bc bs
  | .istore_n k => (k : Nat) < mL j ∧ oI st fun x r => X (pc + 1) (lset1 ls k (.int x)) r h bc bs
  | .istore k => k < mL j ∧ oI st fun x r => X (pc + 2) (lset1 ls k (.int x)) r h bc bs
  | .lstore_n k => (k : Nat) + 1 < mL j ∧ oJ st fun x r => X (pc + 1) (lset2 ls k (.long x)) r h bc bs
  | .lstore k => k + 1 < mL j ∧ oJ st fun x r => X (pc + 2) (lset2 ls k (.long x)) r h bc bs
  | .iinc k n => k < mL j ∧ lI ls k fun x => X (pc + 3) (lset1 ls k (.int (x + Int32.ofInt n))) st h bc bs
  | .iconst n => X (pc + 1) ls (.int (Int32.ofInt n) :: st) h bc bs
  | .bipush n => X (pc + 2) ls (.int (Int8.ofInt n).toInt32 :: st) h bc bs
  | .sipush n => X (pc + 3) ls (.int (Int16.ofInt n).toInt32 :: st) h bc bs
  | .lconst n => X (pc + 1) ls (.long (Int64.ofNat n) :: st) h bc bs
  | .aconst_null => X (pc + 1) ls (.null :: st) h bc bs
  | .ldc2_w i => ∃ v q, lres (mO j) i = some (v, q) ∧ X (pc + 3) ls (.long v :: st) h bc bs
  | .iadd => oII st fun x y r => X (pc + 1) ls (.int (x + y) :: r) h bc bs
  | .isub => oII st fun x y r => X (pc + 1) ls (.int (x - y) :: r) h bc bs
  | .imul => oII st fun x y r => X (pc + 1) ls (.int (x * y) :: r) h bc bs
  | .idiv => oII st fun x y r => ¬ y = 0 ∧ X (pc + 1) ls (.int (x / y) :: r) h bc bs
  | .irem => oII st fun x y r => ¬ y = 0 ∧ X (pc + 1) ls (.int (x - x / y * y) :: r) h bc bs
  | .iand => oII st fun x y r => X (pc + 1) ls (.int (x &&& y) :: r) h bc bs
  | .ixor => oII st fun x y r => X (pc + 1) ls (.int (x ^^^ y) :: r) h bc bs
  | .ishl => oII st fun x y r => X (pc + 1) ls (.int (x <<< (y &&& 31)) :: r) h bc bs
  | .ishr => oII st fun x y r => X (pc + 1) ls (.int (x >>> (y &&& 31)) :: r) h bc bs
  | .ladd => oJJ st fun x y r => X (pc + 1) ls (.long (x + y) :: r) h bc bs
  | .lsub => oJJ st fun x y r => X (pc + 1) ls (.long (x - y) :: r) h bc bs
  | .land => oJJ st fun x y r => X (pc + 1) ls (.long (x &&& y) :: r) h bc bs
  | .lor => oJJ st fun x y r => X (pc + 1) ls (.long (x ||| y) :: r) h bc bs
  | .lxor => oJJ st fun x y r => X (pc + 1) ls (.long (x ^^^ y) :: r) h bc bs
  | .lneg => oJ st fun x r => X (pc + 1) ls (.long (-x) :: r) h bc bs
  | .lcmp => oJJ st fun x y r => X (pc + 1) ls (.int (lg_cmp x y) :: r) h bc bs
  | .lshl => oJI st fun x y r => X (pc + 1) ls (.long (x <<< (y.toInt64 &&& 63)) :: r) h bc bs
  | .lshr => oJI st fun x y r => X (pc + 1) ls (.long (x >>> (y.toInt64 &&& 63)) :: r) h bc bs
  | .lushr => oJI st fun x y r => X (pc + 1) ls (.long (x.toUInt64 >>> (y.toInt64.toUInt64 &&& Int64.toUInt64 63)).toInt64 :: r) h bc bs
  | .l2i => oJ st fun x r => X (pc + 1) ls (.int x.toInt32 :: r) h bc bs
  | .i2b => oI st fun x r => X (pc + 1) ls (.int x.toInt8.toInt32 :: r) h bc bs
  | .dup => match st with
    | v :: r => v.category = 1 ∧ X (pc + 1) ls (v :: v :: r) h bc bs
    | _ => False
  | .dup2 => match st with
    | v :: w :: r => v.category = 1 ∧ w.category = 1 ∧ X (pc + 1) ls (v :: w :: v :: w :: r) h bc bs
    | _ => False
  | .pop => match st with
    | v :: r => v.category = 1 ∧ X (pc + 1) ls r h bc bs
    | _ => False
  | .goto off => jok pc off ∧ X (jmp pc off) ls st h bc bs
  | .ifCond c off => jok pc off ∧ oI st fun x r => (cIf c x → X (jmp pc off) ls r h bc bs) ∧ (¬ cIf c x → X (pc + 3) ls r h bc bs)
  | .if_icmp c off => jok pc off ∧ oII st fun x y r => (cIcmp c x y → X (jmp pc off) ls r h bc bs) ∧ (¬ cIcmp c x y → X (pc + 3) ls r h bc bs)
  | .ifnull off => jok pc off ∧ oV st fun v r => (v = .null → X (jmp pc off) ls r h bc bs) ∧ (¬ v = .null → X (pc + 3) ls r h bc bs)
  | .ifnonnull off => jok pc off ∧ oV st fun v r => (¬ v = .null → X (jmp pc off) ls r h bc bs) ∧ (v = .null → X (pc + 3) ls r h bc bs)
  | .tableswitch d lo hi offs => oI st fun x r => (x.toInt < lo ∨ hi < x.toInt → jok pc d ∧ X (jmp pc d) ls r h bc bs) ∧
      (¬ x.toInt < lo → ¬ hi < x.toInt → ∃ off, offs[(x.toInt - lo).toNat]? = some off ∧ jok pc off ∧ X (jmp pc off) ls r h bc bs)
  | .iaload => oAI st fun a i r => isI (hK h a).1 = true ∧ vp_in i (hK h a).2 ∧ X (pc + 1) ls (.int (hI h a i.toNatClampNeg) :: r) h bc bs
  | .laload => oAI st fun a i r => isJ (hK h a).1 = true ∧ vp_in i (hK h a).2 ∧ X (pc + 1) ls (.long (hJ h a i.toNatClampNeg) :: r) h bc bs
  | .baload => oAI st fun a i r => ((hK h a).1 = 3 ∨ (hK h a).1 = 4) ∧ vp_in i (hK h a).2 ∧ X (pc + 1) ls (.int (hI h a i.toNatClampNeg) :: r) h bc bs
  | .aaload => oAI st fun a i r => ((hK h a).1 = 5 ∨ (hK h a).1 = 6) ∧ vp_in i (hK h a).2 ∧ X (pc + 1) ls (va_rf (hR h a i.toNatClampNeg) :: r) h bc bs
  | .iastore => oAII st fun a i x r => (hK h a).1 = 1 ∧ vp_in i (hK h a).2 ∧ X (pc + 1) ls r (sI h a i.toNatClampNeg x) bc bs
  | .bastore => oAII st fun a i x r => ((hK h a).1 = 3 ∧ vp_in i (hK h a).2 ∧ X (pc + 1) ls r (sI h a i.toNatClampNeg (vp_nar .byte x)) bc bs) ∨ ((hK h a).1 = 4 ∧ vp_in i (hK h a).2 ∧ X (pc + 1) ls r (sI h a i.toNatClampNeg (vp_nar .boolean x)) bc bs)
  | .lastore => oAIJ st fun a i x r => (hK h a).1 = 2 ∧ vp_in i (hK h a).2 ∧ X (pc + 1) ls r (sJ h a i.toNatClampNeg x) bc bs
  | .arraylength => oA st fun a r => 1 ≤ (hK h a).1 ∧ (hK h a).1 ≤ 8 ∧ X (pc + 1) ls (.int (Int32.ofNat (hK h a).2) :: r) h bc bs
  | .newarray t => oI st fun x r => 1 ≤ atag t ∧ atag t ≤ 4 ∧ ¬ x < 0 ∧ x.toNatClampNeg ≤ 60000000 ∧ 1 ≤ bc ∧ x.toNatClampNeg ≤ bs ∧ X (pc + 2) ls (.ref (hN h) :: r) (hnew h (atag t) x.toNatClampNeg) (bc - 1) (bs - x.toNatClampNeg)
  | .multianewarray i d => d = 2 ∧ oII st fun x y r => ((gres (mO j) i).1 = 5 ∨ (gres (mO j) i).1 = 6) ∧ ¬ x < 0 ∧ ¬ y < 0 ∧ x.toNatClampNeg ≤ 100000 ∧ y.toNatClampNeg ≤ 100000 ∧ 1 + x.toNatClampNeg ≤ bc ∧ x.toNatClampNeg + x.toNatClampNeg * y.toNatClampNeg ≤ bs ∧
      X (pc + 4) ls (.ref (hN h) :: r) (hgrid h (gres (mO j) i).1 ((gres (mO j) i).1 - 4) x.toNatClampNeg y.toNatClampNeg) (bc - (1 + x.toNatClampNeg)) (bs - (x.toNatClampNeg + x.toNatClampNeg * y.toNatClampNeg))
  | .getfield i => oA st fun a r => hK h a = (0, (fres (mO j) i).1) ∧ (fres (mO j) i).1 < 10 ∧ X (pc + 3) ls (pval (fT (fres (mO j) i).1 (fres (mO j) i).2.1) (hI h a (fres (mO j) i).2.1) (hJ h a (fres (mO j) i).2.1) (hR h a (fres (mO j) i).2.1) :: r) h bc bs
  | .putfield i => match st with
    | v :: .ref a :: r => hK h a = (0, (fres (mO j) i).1) ∧ (fres (mO j) i).1 < 10 ∧ ((clT (fres (mO j) i).1 (fres (mO j) i).2.1).2.2.2 = false ∨ ((clT (fres (mO j) i).1 (fres (mO j) i).2.1).2.2.2 = true ∧ (mY j).name = "<init>" ∧ mO j = (fres (mO j) i).1)) ∧
        putK (fT (fres (mO j) i).1 (fres (mO j) i).2.1) v h a (fres (mO j) i).2.1 fun h' => X (pc + 3) ls r h' bc bs
    | _ => False
  | .getstatic i => mO j = 3 ∧ i = 103 ∧ X (pc + 3) ls (.ref 1 :: st) h bc bs
  | .new i => (nres (mO j) i).1 < 10 ∧ 1 ≤ bc ∧ clN (nres (mO j) i).1 ≤ bs ∧ X (pc + 3) ls (.ref (hN h) :: st) (hnew h 0 (nres (mO j) i).1) (bc - 1) (bs - clN (nres (mO j) i).1)
  | .invokevirtual i => (cres (mO j) i).1 = 1 ∧ match st.drop (cres (mO j) i).2.2.1 with
    | .ref a :: r => hK h a = (0, mO (cres (mO j) i).2.1) ∧ callK C X (cres (mO j) i).2.1 (.ref a :: (st.take (cres (mO j) i).2.2.1).reverse) r pc ls h bc bs
    | _ => False
  | .invokestatic i => ((cres (mO j) i).1 = 2 ∧ (cres (mO j) i).2.2.1 ≤ st.length ∧ callK C X (cres (mO j) i).2.1 (st.take (cres (mO j) i).2.2.1).reverse (st.drop (cres (mO j) i).2.2.1) pc ls h bc bs) ∨
      ((cres (mO j) i).1 = 6 ∧ oII st fun x y r => cats r ≤ 8 ∧ X (pc + 3) ls (.int (if x < y then y else x) :: r) h bc bs) ∨ ((cres (mO j) i).1 = 7 ∧ oII st fun x y r => cats r ≤ 8 ∧ X (pc + 3) ls (.int (if y < x then y else x) :: r) h bc bs)
  | .invokespecial i => ((cres (mO j) i).1 = 4 ∧ oA st fun _ r => cats r ≤ 8 ∧ X (pc + 3) ls r h bc bs) ∨ (((cres (mO j) i).1 = 3 ∨ (cres (mO j) i).1 = 5) ∧ match st.drop (cres (mO j) i).2.2.1 with
    | .ref a :: r => callK C X (cres (mO j) i).2.1 (.ref a :: (st.take (cres (mO j) i).2.2.1).reverse) r pc ls h bc bs
    | _ => False)
  | .return_ => retK (mRt j) .return_ st fun v => Q v h
  | .ireturn => retK (mRt j) .ireturn st fun v => Q v h
  | .lreturn => retK (mRt j) .lreturn st fun v => Q v h
  | .areturn => retK (mRt j) .areturn st fun v => Q v h
  | _ => False
/-- an instruction's length; of a switch as the listing has it -/
def ilen (ins : Instr) (len : Nat) : Nat := match ins with
  | .tableswitch _ _ _ _ => len
  | .aload _ | .iload _ | .lload _ | .astore _ | .istore _ | .lstore _ | .bipush _ | .newarray _ => 2
  | .iinc _ _ | .sipush _ | .ldc2_w _ | .goto _ | .ifCond _ _ | .if_icmp _ _ | .ifnull _ | .ifnonnull _ | .getfield _ | .putfield _ | .getstatic _ | .new _ | .invokevirtual _ | .invokestatic _ | .invokespecial _ => 3
  | .multianewarray _ _ => 4
  | _ => 1
def step (C : callP) (j : Nat) (Q : resP) (X : cfgP) (pc : Nat) (ls : List (Nat × Value)) (st : List Value) (h : hp) (bc bs : Nat) : Prop :=
  ∃ (ins : Instr) (len : Nat), (pc, ins, ilen ins len) ∈ pt j ∧ stepI C j Q X ins len pc ls st h bc bs
/-- method j, from here, comes to its end with Q: the least such predicate -/
def Wp (C : callP) (j : Nat) (Q : resP) : cfgP := fun pc ls st h bc bs => ∀ X : cfgP, (∀ Y : cfgP, (∀ pc ls st h bc bs, Y pc ls st h bc bs → X pc ls st h bc bs) → ∀ pc ls st h bc bs, step C j Q Y pc ls st h bc bs → X pc ls st h bc bs) → X pc ls st h bc bs
theorem Wp.go {C : callP} {j : Nat} {Q : resP} {pc : Nat} {ls : List (Nat × Value)} {st : List Value} {h : hp} {bc bs : Nat} {ins : Instr} {len : Nat} (hm : (pc, ins, ilen ins len) ∈ pt j) (hs : stepI C j Q (Wp C j Q) ins len pc ls st h bc bs) : Wp C j Q pc ls st h bc bs :=
  fun X hX => hX (Wp C j Q) (fun _ _ _ _ _ _ hw => hw X hX) pc ls st h bc bs ⟨ins, len, hm, hs⟩
/-- method j, with these arguments and this heap, at most d calls deep and with so many new cells and slots, ends with Q -/
def Ex : Nat → callP
  | 0 => fun _ _ _ _ _ _ => False
  | d + 1 => fun j as h mc ms Q => cats as ≤ mL j ∧ Wp (Ex d) j Q 0 (lv_args 0 as) [] h mc ms
end
section
/-! ===== what a pure heap is in the machine's heap ===== -/
/-- first cell's address, script's, patterns', script's length; the script; the patterns; the classes' numbers and slots; the array classes by kind -/
abbrev wd : Type := (Nat × Nat × Nat × Nat) × (Nat → Int32) × (Nat → Int64) × va_G × (Nat → ClassId)
abbrev wB (w : wd) : Nat := w.1.1
abbrev wS (w : wd) : Nat := w.1.2.1
abbrev wT (w : wd) : Nat := w.1.2.2.1
abbrev wL (w : wd) : Nat := w.1.2.2.2
abbrev wX (w : wd) : Nat → Int32 := w.2.1
abbrev wP (w : wd) : Nat → Int64 := w.2.2.1
abbrev wD (w : wd) : va_G := w.2.2.2.1
abbrev wA (w : wd) : Nat → ClassId := w.2.2.2.2
def adr (w : wd) (k : Nat) : Nat := if k = 0 then wS w else if k = 1 then wT w else wB w + (k - 2)
def cv (w : wd) (v : Value) : Value := match v with
  | .ref k => .ref (adr w k)
  | v => v
def cw (w : wd) (q : Nat × Value) : Nat × Value := (q.1, cv w q.2)
def elt (w : wd) (t : Nat) (i : Int32) (j : Int64) (r : Option Nat) : Value := if t = 2 then .long j else if t = 5 ∨ t = 6 then cv w (va_rf r) else .int i
def HC (w : wd) (h : hp) (H : Heap) (k : Nat) : Prop := if (hK h k).1 = 0
  then t_OB (adr w k) ((wD w).1 (hK h k).2) (clN (hK h k).2) ((wD w).2 (hK h k).2) H (fun j => cv w (pval (fT (hK h k).2 j) (hI h k j) (hJ h k j) (hR h k j)))
  else H[adr w k]? = some (arrV (wA w (hK h k).1) (hK h k).2 (fun j => elt w (hK h k).1 (hI h k j) (hJ h k j) (hR h k j)))
def hshape (w : wd) (h : hp) : Prop := 2 ≤ hN h ∧ hK h 0 = (7, wL w) ∧ hI h 0 = wX w ∧ hK h 1 = (8, 6) ∧ hJ h 1 = wP w ∧ (∀ k, (hK h k).1 = 7 → k = 0) ∧ (∀ k, (hK h k).1 = 8 → k = 1) ∧ (∀ k, hN h ≤ k → (hK h k).1 = 9) ∧ ∀ k, (hK h k).1 = 0 → (hK h k).2 < 10
def HR (w : wd) (h : hp) (H : Heap) : Prop := hshape w h ∧ H.size = wB w + (hN h - 2) ∧ ∀ k, 2 ≤ k → k < hN h → HC w h H k
def wAf (w : wd) : Nat → Prop := fun q => wB w ≤ q
abbrev wTy (w : wd) : List (ClassId × FieldType) := [(wA w 1, .int), (wA w 2, .long), (wA w 3, .byte), (wA w 4, .boolean), (wA w 5, .array .int), (wA w 6, .array .long)]
def SK (w : wd) (U : State) : Prop := va_K (wD w) vwCl (wTy w) U ∧ va_X (wS w) (wL w) (wX w) U U.heap ∧ va_Z "SweepBench" "INPUT_PATTERNS" "[J" (.ref (wT w)) (wAf w) U U.heap ∧ va_T .long (wT w) 6 (fun i => .long (wP w i)) (wAf w) U U.heap ∧ wS w < wB w ∧ wB w ≤ U.heap.size ∧ va_Nw (.fieldLinkNest RX3 103 "SweepBench" "INPUT_PATTERNS" "[J" "SweepBench") U ∧ (∀ e ∈ ctab, e.2.1 = 5 → va_Nw (.methodLinkNest (oN (e.1 / 1000)) (e.1 % 1000) (mY e.2.2.1) RX8) U) ∧ (Cond.arrayOver (.array .int)).before #[] U = true ∧ (Cond.arrayOver (.array .long)).before #[] U = true
theorem u1_s {α : Type} {f : Nat → α} {k : Nat} {v : α} : u1 f k v k = v := if_pos rfl
theorem u1_n {α : Type} {f : Nat → α} {k j : Nat} {v : α} (h : j ≠ k) : u1 f k v j = f j := if_neg h
theorem u2_n {α : Type} {f : Nat → Nat → α} {k j a : Nat} {v : α} (h : a ≠ k) : u2 f k j v a = f a := if_neg h
theorem u2_s {α : Type} {f : Nat → Nat → α} {k j : Nat} {v : α} : u2 f k j v k = u1 (f k) j v := if_pos rfl
theorem adr_ge {w : wd} {k : Nat} (h : 2 ≤ k) : adr w k = wB w + (k - 2) := by
  unfold adr
  rw [if_neg (by omega), if_neg (by omega)]
theorem adr_ne {w : wd} {k a : Nat} (h : 2 ≤ k) (ha : 2 ≤ a) (hn : k ≠ a) : adr w k ≠ adr w a := by
  rw [adr_ge h, adr_ge ha]
  omega
theorem cv_cat (w : wd) (v : Value) : (cv w v).category = v.category := by cases v <;> rfl
theorem cats_cv (w : wd) (st : List Value) : ((st.map (cv w)).map fun v => v.category).sum = cats st := by
  unfold cats
  rw [List.map_map]
  congr 1
  exact List.map_congr_left (fun v _ => cv_cat w v)
/-! locals -/
theorem mem_lookup {ls : List (Nat × Value)} {i : Nat} {v : Value} (h : ls.lookup i = some v) : (i, v) ∈ ls := by
  induction ls with
  | nil => cases h
  | cons q r ih =>
    obtain ⟨a, b⟩ := q
    rw [List.lookup_cons] at h
    by_cases e : i == a
    · rw [e] at h
      have h1 : i = a := by simpa using e
      cases h
      rw [h1]
      exact List.mem_cons_self
    · have e' : (i == a) = false := by simpa using e
      rw [e'] at h
      exact List.mem_cons_of_mem _ (ih h)
theorem has_at {w : wd} {lsA : Array Slot} {n : Nat} {ls : List (Nat × Value)} {i : Nat} {v : Value} (hl : lv_has lsA n (ls.map (cw w))) (h : ls.lookup i = some v) : lsA[i]? = some (.val (cv w v)) :=
  hl.2.2 (i, cv w v) (List.mem_map.mpr ⟨(i, v), mem_lookup h, rfl⟩)
theorem lset1_map (w : wd) (ls : List (Nat × Value)) (i : Nat) (v : Value) : (i, cv w v) :: (ls.map (cw w)).filter (fun q => !(q.1 == i) && !(q.1 + 1 == i && q.2.category == 2)) = (lset1 ls i v).map (cw w) := by
  unfold lset1
  rw [List.map_cons, List.filter_map]
  refine congrArg (fun z => (i, cv w v) :: List.map (cw w) z) ?_
  refine List.filter_congr (fun q _ => ?_)
  show (!(q.1 == i) && !(q.1 + 1 == i && (cv w q.2).category == 2)) = _
  rw [cv_cat]
theorem lset2_map (w : wd) (ls : List (Nat × Value)) (i : Nat) (v : Value) : (i, cv w v) :: (ls.map (cw w)).filter (fun q => !(q.1 == i) && (!(q.1 == i + 1) && !(q.1 + 1 == i && q.2.category == 2))) = (lset2 ls i v).map (cw w) := by
  unfold lset2
  rw [List.map_cons, List.filter_map]
  refine congrArg (fun z => (i, cv w v) :: List.map (cw w) z) ?_
  refine List.filter_congr (fun q _ => ?_)
  show (!(q.1 == i) && (!(q.1 == i + 1) && !(q.1 + 1 == i && (cv w q.2).category == 2))) = _
  rw [cv_cat]
theorem args_map (w : wd) : ∀ (as : List Value) (i : Nat), lv_args i (as.map (cv w)) = (lv_args i as).map (cw w)
  | [], _ => rfl
  | v :: r, i => by
    show (i, cv w v) :: lv_args (if (cv w v).category = 2 then i + 2 else i + 1) (r.map (cv w)) = (i, cv w v) :: (lv_args (if v.category = 2 then i + 2 else i + 1) r).map (cw w)
    rw [cv_cat, args_map w r]
/-! the heap -/
theorem HR.at {w : wd} {h : hp} {H : Heap} {k : Nat} (hr : HR w h H) (h7 : (hK h k).1 ≠ 7) (h8 : (hK h k).1 ≠ 8) (h9 : (hK h k).1 ≠ 9) : 2 ≤ k ∧ k < hN h := by
  obtain ⟨⟨h2, k0, -, k1, -, -, -, kn, -⟩, -, -⟩ := hr
  refine ⟨?_, ?_⟩
  · rcases k with _ | _ | k
    · exact absurd (by rw [k0]) h7
    · exact absurd (by rw [k1]) h8
    · omega
  · rcases Nat.lt_or_ge k (hN h) with q | q
    · exact q
    · exact absurd (kn k q) h9
theorem HR.arr {w : wd} {h : hp} {H : Heap} {k : Nat} (hr : HR w h H) (h0 : (hK h k).1 ≠ 0) (h7 : (hK h k).1 ≠ 7) (h8 : (hK h k).1 ≠ 8) (h9 : (hK h k).1 ≠ 9) : H[adr w k]? = some (arrV (wA w (hK h k).1) (hK h k).2 (fun j => elt w (hK h k).1 (hI h k j) (hJ h k j) (hR h k j))) := by
  obtain ⟨a, b⟩ := hr.at h7 h8 h9
  have hc := hr.2.2 k a b
  unfold HC at hc
  rw [if_neg h0] at hc
  exact hc
theorem HR.obj {w : wd} {h : hp} {H : Heap} {k ci : Nat} (hr : HR w h H) (hk : hK h k = (0, ci)) : t_OB (adr w k) ((wD w).1 ci) (clN ci) ((wD w).2 ci) H (fun j => cv w (pval (fT ci j) (hI h k j) (hJ h k j) (hR h k j))) := by
  obtain ⟨a, b⟩ := hr.at (k := k) (by rw [hk]; exact (by decide : (0 : Nat) ≠ 7)) (by rw [hk]; exact (by decide : (0 : Nat) ≠ 8)) (by rw [hk]; exact (by decide : (0 : Nat) ≠ 9))
  have hc := hr.2.2 k a b
  unfold HC at hc
  rw [hk] at hc
  exact hc
theorem HC.to {w : wd} {h h' : hp} {H H1 : Heap} {k : Nat} (hc : HC w h H k) (eK : hK h' k = hK h k) (eI : hI h' k = hI h k) (eJ : hJ h' k = hJ h k) (eR : hR h' k = hR h k) (hq : H1[adr w k]? = H[adr w k]?) : HC w h' H1 k := by
  unfold HC at hc ⊢
  rw [eK, eI, eJ, eR]
  split at hc
  · next e =>
    rw [if_pos e]
    exact hc.kept hq
  · next e =>
    rw [if_neg e, hq]
    exact hc
theorem HR.put {w : wd} {h h' : hp} {H H1 : Heap} {a : Nat} (hr : HR w h H) (ha : 2 ≤ a) (eK : hK h' = hK h) (eN : hN h' = hN h) (ho : ∀ k, k ≠ a → hI h' k = hI h k ∧ hJ h' k = hJ h k ∧ hR h' k = hR h k) (z : H1.size = H.size) (oq : ∀ q, q ≠ adr w a → H1[q]? = H[q]?) (hc : HC w h' H1 a) : HR w h' H1 := by
  obtain ⟨⟨s1, s2, s3, s4, s5, s6, s7, s8, s9⟩, hz, hcs⟩ := hr
  refine ⟨⟨by rw [eN]; exact s1, by rw [eK]; exact s2, by rw [(ho 0 (by omega)).1]; exact s3, by rw [eK]; exact s4, by rw [(ho 1 (by omega)).2.1]; exact s5, by rw [eK]; exact s6, by rw [eK]; exact s7, by rw [eK, eN]; exact s8, by rw [eK]; exact s9⟩, by rw [z, eN]; exact hz, fun k h2 hn => ?_⟩
  by_cases e : k = a
  · rw [e]
    exact hc
  · obtain ⟨e1, e2, e3⟩ := ho k e
    exact (hcs k h2 (by rw [← eN]; exact hn)).to (by rw [eK]) e1 e2 e3 (oq _ (adr_ne h2 ha e))
theorem HR.push {w : wd} {h : hp} {H H1 : Heap} {t n : Nat} (hr : HR w h H) (ht : t ≤ 6) (hci : t = 0 → n < 10) (z : H1.size = H.size + 1) (oq : ∀ q, q < H.size → H1[q]? = H[q]?) (hc : HC w (hnew h t n) H1 (hN h)) : HR w (hnew h t n) H1 := by
  obtain ⟨⟨s1, s2, s3, s4, s5, s6, s7, s8, s9⟩, hz, hcs⟩ := hr
  have kn : ∀ k, k ≠ hN h → hK (hnew h t n) k = hK h k := fun k e => u1_n e
  have k0 : hK (hnew h t n) (hN h) = (t, n) := u1_s
  have i0 : ∀ k, k ≠ hN h → hI (hnew h t n) k = hI h k := fun k e => u1_n e
  have j0 : ∀ k, k ≠ hN h → hJ (hnew h t n) k = hJ h k := fun k e => u1_n e
  have r0 : ∀ k, k ≠ hN h → hR (hnew h t n) k = hR h k := fun k e => u1_n e
  have eN : hN (hnew h t n) = hN h + 1 := rfl
  refine ⟨⟨by rw [eN]; omega, by rw [kn 0 (by omega)]; exact s2, by rw [i0 0 (by omega)]; exact s3, by rw [kn 1 (by omega)]; exact s4, by rw [j0 1 (by omega)]; exact s5, fun k e => ?_, fun k e => ?_, fun k e => ?_, fun k e => ?_⟩, by rw [z, eN]; omega, fun k h2 hn => ?_⟩
  · by_cases q : k = hN h
    · rw [q, k0] at e
      have e : t = 7 := e
      omega
    · rw [kn k q] at e
      exact s6 k e
  · by_cases q : k = hN h
    · rw [q, k0] at e
      have e : t = 8 := e
      omega
    · rw [kn k q] at e
      exact s7 k e
  · rw [eN] at e
    rw [kn k (by omega)]
    exact s8 k (by omega)
  · by_cases q : k = hN h
    · rw [q, k0] at e ⊢
      exact hci e
    · rw [kn k q] at e ⊢
      exact s9 k e
  · by_cases q : k = hN h
    · rw [q]
      exact hc
    · rw [eN] at hn
      exact (hcs k h2 (by omega)).to (kn k q) (i0 k q) (j0 k q) (r0 k q) (oq _ (by rw [adr_ge h2, hz]; omega))
theorem SK.moved {w : wd} {u U : State} (hW : u.WarmedH U.vm) (hk : ∀ q : Nat, q < u.heap.size → ¬ wAf w q → U.heap[q]? = u.heap[q]?) (hz : u.heap.size ≤ U.heap.size) (h : SK w u) : SK w U := by
  obtain ⟨h1, h2, h3, h4, h5, h6, h7, h8, h9, h10⟩ := h
  have hvm := hW.alike
  have hb : (wS w) < u.heap.size := by
    obtain ⟨scr, hs, -⟩ := h2
    exact (Array.getElem?_eq_some_iff.mp hs).1
  exact ⟨va_K.moved hvm h1, (h2.kept (hk _ hb (by show ¬ wB w ≤ wS w; omega))).moved hvm, (h3.kept hk).moved hvm, (h4.kept hk).moved hvm, h5, Nat.le_trans h6 hz, va_Nw.warmF hW h7, fun e he h5 => va_Nw.warmM hW (h8 e he h5), Jvm.Stand.arrayOver_alikeB hvm h9, Jvm.Stand.arrayOver_alikeB hvm h10⟩
end
section
/-! ===== what a step says, opened ===== -/
theorem oI_inv {st : List Value} {k : Int32 → List Value → Prop} (h : oI st k) : ∃ x r, st = .int x :: r ∧ k x r := by
  unfold oI at h
  split at h
  · exact ⟨_, _, rfl, h⟩
  · exact h.elim
theorem oII_inv {st : List Value} {k : Int32 → Int32 → List Value → Prop} (h : oII st k) : ∃ x y r, st = .int y :: .int x :: r ∧ k x y r := by
  unfold oII at h
  split at h
  · exact ⟨_, _, _, rfl, h⟩
  · exact h.elim
theorem oJ_inv {st : List Value} {k : Int64 → List Value → Prop} (h : oJ st k) : ∃ x r, st = .long x :: r ∧ k x r := by
  unfold oJ at h
  split at h
  · exact ⟨_, _, rfl, h⟩
  · exact h.elim
theorem oJJ_inv {st : List Value} {k : Int64 → Int64 → List Value → Prop} (h : oJJ st k) : ∃ x y r, st = .long y :: .long x :: r ∧ k x y r := by
  unfold oJJ at h
  split at h
  · exact ⟨_, _, _, rfl, h⟩
  · exact h.elim
theorem oJI_inv {st : List Value} {k : Int64 → Int32 → List Value → Prop} (h : oJI st k) : ∃ x y r, st = .int y :: .long x :: r ∧ k x y r := by
  unfold oJI at h
  split at h
  · exact ⟨_, _, _, rfl, h⟩
  · exact h.elim
theorem oA_inv {st : List Value} {k : Nat → List Value → Prop} (h : oA st k) : ∃ a r, st = .ref a :: r ∧ k a r := by
  unfold oA at h
  split at h
  · exact ⟨_, _, rfl, h⟩
  · exact h.elim
theorem oAI_inv {st : List Value} {k : Nat → Int32 → List Value → Prop} (h : oAI st k) : ∃ a i r, st = .int i :: .ref a :: r ∧ k a i r := by
  unfold oAI at h
  split at h
  · exact ⟨_, _, _, rfl, h⟩
  · exact h.elim
theorem oAII_inv {st : List Value} {k : Nat → Int32 → Int32 → List Value → Prop} (h : oAII st k) : ∃ a i x r, st = .int x :: .int i :: .ref a :: r ∧ k a i x r := by
  unfold oAII at h
  split at h
  · exact ⟨_, _, _, _, rfl, h⟩
  · exact h.elim
theorem oAIJ_inv {st : List Value} {k : Nat → Int32 → Int64 → List Value → Prop} (h : oAIJ st k) : ∃ a i x r, st = .long x :: .int i :: .ref a :: r ∧ k a i x r := by
  unfold oAIJ at h
  split at h
  · exact ⟨_, _, _, _, rfl, h⟩
  · exact h.elim
theorem oV_inv {st : List Value} {k : Value → List Value → Prop} (h : oV st k) : (∃ a r, st = .ref a :: r ∧ k (.ref a) r) ∨ ∃ r, st = .null :: r ∧ k .null r := by
  unfold oV at h
  split at h
  · exact Or.inl ⟨_, _, rfl, h⟩
  · exact Or.inr ⟨_, rfl, h⟩
  · exact h.elim
theorem lI_inv {ls : List (Nat × Value)} {i : Nat} {k : Int32 → Prop} (h : lI ls i k) : ∃ x, ls.lookup i = some (.int x) ∧ k x := by
  unfold lI at h
  split at h
  · exact ⟨_, by assumption, h⟩
  · exact h.elim
theorem lJ_inv {ls : List (Nat × Value)} {i : Nat} {k : Int64 → Prop} (h : lJ ls i k) : ∃ x, ls.lookup i = some (.long x) ∧ k x := by
  unfold lJ at h
  split at h
  · exact ⟨_, by assumption, h⟩
  · exact h.elim
theorem lA_inv {ls : List (Nat × Value)} {i : Nat} {k : Value → Prop} (h : lA ls i k) : (∃ x, ls.lookup i = some (.ref x) ∧ k (.ref x)) ∨ (ls.lookup i = some .null ∧ k .null) := by
  unfold lA at h
  split at h
  · exact Or.inl ⟨_, by assumption, h⟩
  · exact Or.inr ⟨by assumption, h⟩
  · exact h.elim
theorem jmp_ok {pc : Nat} {off : Int} (h : jok pc off) : (pc : Int) + off = (jmp pc off : Int) := (Int.toNat_of_nonneg h).symm
theorem mem_lookup2 {β : Type} {l : List (Nat × β)} {i : Nat} {v : β} (h : l.lookup i = some v) : (i, v) ∈ l := by
  induction l with
  | nil => cases h
  | cons q r ih =>
    obtain ⟨a, b⟩ := q
    rw [List.lookup_cons] at h
    by_cases e : i == a
    · rw [e] at h
      have h1 : i = a := by simpa using e
      cases h
      rw [h1]
      exact List.mem_cons_self
    · have e' : (i == a) = false := by simpa using e
      rw [e'] at h
      exact List.mem_cons_of_mem _ (ih h)
theorem key_dm {o i : Nat} (hi : i < 1000) : (o * 1000 + i) / 1000 = o ∧ (o * 1000 + i) % 1000 = i := by omega
theorem fres_in {o i : Nat} (h : (fres o i).1 < 10) : i < 1000 ∧ (o * 1000 + i, fres o i) ∈ ftab := by
  unfold fres at h ⊢
  split at h
  · next hi =>
    rw [if_pos hi]
    refine ⟨hi, ?_⟩
    cases e : ftab.lookup (o * 1000 + i) with
    | none => rw [e] at h; exact absurd h (by decide)
    | some v => exact mem_lookup2 e
  · exact absurd h (by decide)
theorem cres_in {o i : Nat} (h : 1 ≤ (cres o i).1) : i < 1000 ∧ (o * 1000 + i, cres o i) ∈ ctab := by
  unfold cres at h ⊢
  split at h
  · next hi =>
    rw [if_pos hi]
    refine ⟨hi, ?_⟩
    cases e : ctab.lookup (o * 1000 + i) with
    | none => rw [e] at h; exact absurd h (by decide)
    | some v => exact mem_lookup2 e
  · exact absurd h (by decide)
theorem nres_in {o i : Nat} (h : (nres o i).1 < 10) : i < 1000 ∧ (o * 1000 + i, nres o i) ∈ ntab := by
  unfold nres at h ⊢
  split at h
  · next hi =>
    rw [if_pos hi]
    refine ⟨hi, ?_⟩
    cases e : ntab.lookup (o * 1000 + i) with
    | none => rw [e] at h; exact absurd h (by decide)
    | some v => exact mem_lookup2 e
  · exact absurd h (by decide)
theorem gres_in {o i : Nat} (h : 1 ≤ (gres o i).1) : i < 1000 ∧ (o * 1000 + i, gres o i) ∈ gtab := by
  unfold gres at h ⊢
  split at h
  · next hi =>
    rw [if_pos hi]
    refine ⟨hi, ?_⟩
    cases e : gtab.lookup (o * 1000 + i) with
    | none => rw [e] at h; exact absurd h (by decide)
    | some v => exact mem_lookup2 e
  · exact absurd h (by decide)
theorem lres_in {o i : Nat} {v : Int64 × Nat} (h : lres o i = some v) : i < 1000 ∧ (o * 1000 + i, v) ∈ ltab := by
  unfold lres at h
  split at h
  · next hi => exact ⟨hi, mem_lookup2 h⟩
  · cases h
theorem mE_in {i : Nat} (h0 : 0 < i) (h : i < 163) : mE i ∈ mRest := by
  have hl : mtab.length = 163 := by decide +kernel
  unfold mE
  obtain ⟨i, rfl⟩ : ∃ k, i = k + 1 := ⟨i - 1, by omega⟩
  show (mLaw :: mRest).getD (i + 1) mLaw ∈ mRest
  have h2 : i < mRest.length := by
    have : (mLaw :: mRest).length = 163 := hl
    rw [List.length_cons] at this
    omega
  rw [List.getD_cons_succ, List.getD_eq_getElem?_getD, List.getElem?_eq_getElem h2]
  exact List.getElem_mem h2
end
section
/-! ===== a step of the pure machine is a step of the machine ===== -/
def Cx (p : Program) (s : State) (m : MethodId) (args : Array Value) (meth : Method) (c : Code) (j : Nat) (w : wd) : Prop :=
  p.tables.exec = Jvm.exec ∧ c.code = mC j ∧ c.maxLocals = mL j ∧ s.vm.findClass (oN (mO j)) = some m.cls ∧ (∀ x ∈ gT, x.before args s = true) ∧ SK w s ∧ pOk j ∧ ((mY j).name = "<init>" → meth.name = "<init>")
def XM (p : Program) (l : Launch) (e : Env) (R : Room) (s : State) (m : MethodId) (args : Array Value) (below : List Frame) (meth : Method) (c : Code) (Q : State → Prop) (w : wd) (j : Nat) : cfgP := fun pc ls st h bc bs =>
  ∀ (H : Heap) (locs : List Loc) (cells slots : Nat) (lsA : Array Slot), HR w h H → va_S (wAf w) s.heap H locs → lv_has lsA (mL j) (ls.map (cw w)) → cells + bc ≤ R.cells → slots + bs ≤ R.slots → W p l e R s m args below meth c H locs cells slots Q (F0 m pc lsA (st.map (cv w)))
section SND
variable {p : Program} {l : Launch} {e : Env} {R : Room} {s : State} {m : MethodId} {args : Array Value} {below : List Frame} {meth : Method} {c : Code} {Q : State → Prop} {w : wd} {j : Nat}
theorem elt1 (w : wd) (i : Int32) (z : Int64) (r : Option Nat) : elt w 1 i z r = .int i := rfl
theorem elt2 (w : wd) (i : Int32) (z : Int64) (r : Option Nat) : elt w 2 i z r = .long z := rfl
theorem elt3 (w : wd) (i : Int32) (z : Int64) (r : Option Nat) : elt w 3 i z r = .int i := rfl
theorem elt4 (w : wd) (i : Int32) (z : Int64) (r : Option Nat) : elt w 4 i z r = .int i := rfl
theorem elt5 (w : wd) (i : Int32) (z : Int64) (r : Option Nat) : elt w 5 i z r = cv w (va_rf r) := rfl
theorem elt6 (w : wd) (i : Int32) (z : Int64) (r : Option Nat) : elt w 6 i z r = cv w (va_rf r) := rfl
/-- an array's cell, its kind and length known -/
theorem HR.arrT {w : wd} {h : hp} {H : Heap} {k t n : Nat} (hr : HR w h H) (hk : hK h k = (t, n)) (h1 : 1 ≤ t) (h6 : t ≤ 6) : H[adr w k]? = some (arrV (wA w t) n (fun j => elt w t (hI h k j) (hJ h k j) (hR h k j))) ∧ 2 ≤ k := by
  have e : (hK h k).1 = t := by rw [hk]
  have e2 : (hK h k).2 = n := by rw [hk]
  have a := hr.arr (k := k) (by omega) (by omega) (by omega) (by omega)
  rw [e, e2] at a
  exact ⟨a, (hr.at (k := k) (by omega) (by omega) (by omega)).1⟩
theorem in_size {i : Int32} {n : Nat} {cA : ClassId} {f : Nat → Value} (hin : vp_in i n) : ¬ (i < 0 ∨ (arrV cA n f).slots.size ≤ i.toNatClampNeg) := by rw [arrV_size]; exact hin
theorem in_lt {i : Int32} {n : Nat} (hin : vp_in i n) : i.toNatClampNeg < n := Nat.not_le.mp fun q => hin (Or.inr q)
theorem HC_arr {w : wd} {h : hp} {H : Heap} {k t n : Nat} (hk : hK h k = (t, n)) (h1 : 1 ≤ t) (hc : H[adr w k]? = some (arrV (wA w t) n (fun j => elt w t (hI h k j) (hJ h k j) (hR h k j)))) : HC w h H k := by
  unfold HC
  rw [hk, if_neg (by show ¬ t = 0; omega)]
  exact hc
theorem SK.ty {w : wd} {U : State} (h : SK w U) (t0 : Nat) {q : ClassId × FieldType} (hq : (wTy w)[t0]? = some q) (n : Nat) (z : Nat → Value) : U.isArrayOf (arrV q.1 n z) q.2 := (h.1.2 t0 q hq).1 n z
theorem va_S.at {A : Nat → Prop} {H0 H H1 : Heap} {locs : List Loc} {a k : Nat} (h : va_S A H0 H locs) (z : H1.size = H.size) (oq : ∀ q : Nat, q ≠ a → H1[q]? = H[q]?) (ha : A a) : va_S A H0 H1 (locs ++ [⟨a, k⟩]) := va_S.put h z oq ha
theorem wAf_adr {w : wd} {k : Nat} (h : 2 ≤ k) : wAf w (adr w k) := by
  show wB w ≤ adr w k
  rw [adr_ge h]
  omega
set_option maxHeartbeats 4000000 in
theorem sn_plain (cx : Cx p s m args meth c j w) {Y : cfgP} (hY : ∀ pc ls st h bc bs, Y pc ls st h bc bs → XM p l e R s m args below meth c Q w j pc ls st h bc bs) {C : callP} {Qp : resP} {ins : Instr} {len pc : Nat} {ls : List (Nat × Value)} {st : List Value} {h : hp} {bc bs : Nat}
    (hpl : match ins with | .putfield _ | .newarray _ | .multianewarray _ _ | .new _ | .invokevirtual _ | .invokestatic _ | .invokespecial _ | .return_ | .ireturn | .lreturn | .areturn | .iastore | .bastore | .lastore => False | _ => True)
    (hm : (pc, ins, ilen ins len) ∈ pt j) (hs : stepI C j Qp Y ins len pc ls st h bc bs) : XM p l e R s m args below meth c Q w j pc ls st h bc bs := by
  obtain ⟨hx, hb, hml, hown, hts, hsk, hok, hin⟩ := cx
  have hd := hok _ hm
  intro H locs cells slots lsA hr hS hl hbc hbs
  have go : ∀ {pc' : Nat} {st' : List Value}, Y pc' ls st' h bc bs → W p l e R s m args below meth c H locs cells slots Q (F0 m pc' lsA (st'.map (cv w))) := fun hs => hY _ _ _ _ _ _ hs H locs cells slots lsA hr hS hl hbc hbs
  have goL : ∀ {pc' : Nat} {ls' : List (Nat × Value)} {st' : List Value} {lsB : Array Slot}, Y pc' ls' st' h bc bs → lv_has lsB (mL j) (ls'.map (cw w)) → W p l e R s m args below meth c H locs cells slots Q (F0 m pc' lsB (st'.map (cv w))) := fun hs hlB => hY _ _ _ _ _ _ hs H locs cells slots _ hr hS hlB hbc hbs
  cases ins with
  | aload_n k =>
    have hs : lA ls k (fun v => Y (pc + 1) ls (v :: st) h bc bs) := hs
    rcases lA_inv hs with ⟨x, e, hs⟩ | ⟨e, hs⟩
    · exact lv_aload_n hx hb hd rfl (has_at hl e) (go hs)
    · exact lv_aload_nN hx hb hd rfl (has_at hl e) (go hs)
  | aload k =>
    have hs : lA ls k (fun v => Y (pc + 2) ls (v :: st) h bc bs) := hs
    rcases lA_inv hs with ⟨x, e, hs⟩ | ⟨e, hs⟩
    · exact lv_aload hx hb hd (has_at hl e) (go hs)
    · exact lv_aloadN hx hb hd (has_at hl e) (go hs)
  | iload_n k =>
    obtain ⟨x, e, hs⟩ := lI_inv hs
    exact lv_iload_n hx hb hd rfl (has_at hl e) (go hs)
  | iload k =>
    obtain ⟨x, e, hs⟩ := lI_inv hs
    exact lv_iload hx hb hd (has_at hl e) (go hs)
  | lload_n k =>
    obtain ⟨x, e, hs⟩ := lJ_inv hs
    exact lv_lload_n hx hb hd rfl (has_at hl e) (go hs)
  | lload k =>
    obtain ⟨x, e, hs⟩ := lJ_inv hs
    exact lv_lload hx hb hd (has_at hl e) (go hs)
  | astore_n k =>
    obtain ⟨hk, hs⟩ := hs
    rcases oV_inv hs with ⟨x, r, rfl, hs⟩ | ⟨r, rfl, hs⟩
    · exact lv_astore_n hx hb hd rfl hl hk (lset1_map w ls k (.ref x)) (fun lsB hlB => goL hs hlB)
    · exact lv_astore_nN hx hb hd rfl hl hk (lset1_map w ls k .null) (fun lsB hlB => goL hs hlB)
  | astore k =>
    obtain ⟨hk, hs⟩ := hs
    rcases oV_inv hs with ⟨x, r, rfl, hs⟩ | ⟨r, rfl, hs⟩
    · exact lv_astore hx hb hd hl hk (lset1_map w ls k (.ref x)) (fun lsB hlB => goL hs hlB)
    · exact lv_astoreN hx hb hd hl hk (lset1_map w ls k .null) (fun lsB hlB => goL hs hlB)
  | istore_n k =>
    obtain ⟨hk, hs⟩ := hs
    obtain ⟨x, r, rfl, hs⟩ := oI_inv hs
    exact lv_istore_n hx hb hd rfl hl hk (lset1_map w ls k (.int x)) (fun lsB hlB => goL hs hlB)
  | istore k =>
    obtain ⟨hk, hs⟩ := hs
    obtain ⟨x, r, rfl, hs⟩ := oI_inv hs
    exact lv_istore hx hb hd hl hk (lset1_map w ls k (.int x)) (fun lsB hlB => goL hs hlB)
  | lstore_n k =>
    obtain ⟨hk, hs⟩ := hs
    obtain ⟨x, r, rfl, hs⟩ := oJ_inv hs
    exact lv_lstore_n hx hb hd rfl hl hk (lset2_map w ls k (.long x)) (fun lsB hlB => goL hs hlB)
  | lstore k =>
    obtain ⟨hk, hs⟩ := hs
    obtain ⟨x, r, rfl, hs⟩ := oJ_inv hs
    exact lv_lstore hx hb hd hl hk (lset2_map w ls k (.long x)) (fun lsB hlB => goL hs hlB)
  | iinc k n =>
    obtain ⟨hk, hs⟩ := hs
    obtain ⟨x, e, hs⟩ := lI_inv hs
    obtain ⟨q, hq⟩ := List.getElem?_of_mem (List.mem_map.mpr ⟨(k, Value.int x), mem_lookup e, rfl⟩ : cw w (k, .int x) ∈ ls.map (cw w))
    exact lv_iinc hx hb hd hl (k := q) hq rfl hk (lset1_map w ls k (.int (x + Int32.ofInt n))) (fun lsB hlB => goL hs hlB)
  | iconst n => exact lv_iconst hx hb hd rfl (go hs)
  | bipush n => exact lv_bipush hx hb hd rfl (go hs)
  | sipush n => exact lv_sipush hx hb hd rfl (go hs)
  | lconst n => exact lv_lconst hx hb hd rfl (go hs)
  | aconst_null => exact lv_null hx hb hd (go hs)
  | ldc2_w i =>
    obtain ⟨v, q, e, hs⟩ := hs
    obtain ⟨hi, hq⟩ := lres_in e
    have hw := ltab_ok _ hq
    dsimp only at hw
    rw [(key_dm hi).1, (key_dm hi).2] at hw
    exact lv_ldc2 hx hb hown (hts _ (inG hw rfl)) hd (go hs)
  | iadd => obtain ⟨x, y, r, rfl, hs⟩ := oII_inv hs; exact lv_iadd hx hb hd (go hs)
  | isub => obtain ⟨x, y, r, rfl, hs⟩ := oII_inv hs; exact lv_isub hx hb hd (go hs)
  | imul => obtain ⟨x, y, r, rfl, hs⟩ := oII_inv hs; exact lv_imul hx hb hd (go hs)
  | idiv => obtain ⟨x, y, r, rfl, hy, hs⟩ := oII_inv hs; exact lv_idiv hx hb hd hy (go hs)
  | irem => obtain ⟨x, y, r, rfl, hy, hs⟩ := oII_inv hs; exact lv_irem hx hb hd hy (go hs)
  | iand => obtain ⟨x, y, r, rfl, hs⟩ := oII_inv hs; exact lv_iand hx hb hd (go hs)
  | ixor => obtain ⟨x, y, r, rfl, hs⟩ := oII_inv hs; exact lv_ixor hx hb hd (go hs)
  | ishl => obtain ⟨x, y, r, rfl, hs⟩ := oII_inv hs; exact lv_ishl hx hb hd (go hs)
  | ishr => obtain ⟨x, y, r, rfl, hs⟩ := oII_inv hs; exact lv_ishr hx hb hd (go hs)
  | ladd => obtain ⟨x, y, r, rfl, hs⟩ := oJJ_inv hs; exact lv_ladd hx hb hd (go hs)
  | lsub => obtain ⟨x, y, r, rfl, hs⟩ := oJJ_inv hs; exact lv_lsub hx hb hd (go hs)
  | land => obtain ⟨x, y, r, rfl, hs⟩ := oJJ_inv hs; exact lv_land hx hb hd (go hs)
  | lor => obtain ⟨x, y, r, rfl, hs⟩ := oJJ_inv hs; exact lv_lor hx hb hd (go hs)
  | lxor => obtain ⟨x, y, r, rfl, hs⟩ := oJJ_inv hs; exact lv_lxor hx hb hd (go hs)
  | lneg => obtain ⟨x, r, rfl, hs⟩ := oJ_inv hs; exact lv_lneg hx hb hd (go hs)
  | lcmp => obtain ⟨x, y, r, rfl, hs⟩ := oJJ_inv hs; exact W.lcmp hx hb hd (go hs)
  | lshl => obtain ⟨x, y, r, rfl, hs⟩ := oJI_inv hs; exact lv_lshl hx hb hd rfl (go hs)
  | lshr => obtain ⟨x, y, r, rfl, hs⟩ := oJI_inv hs; exact lv_lshr hx hb hd rfl (go hs)
  | lushr => obtain ⟨x, y, r, rfl, hs⟩ := oJI_inv hs; exact lv_lushr hx hb hd rfl (go hs)
  | l2i => obtain ⟨x, r, rfl, hs⟩ := oJ_inv hs; exact lv_l2i hx hb hd rfl (go hs)
  | i2b => obtain ⟨x, r, rfl, hs⟩ := oI_inv hs; exact lv_i2b hx hb hd rfl (go hs)
  | dup =>
    rcases st with _ | ⟨v, r⟩
    · exact hs.elim
    · exact lv_dup hx hb hd (by rw [cv_cat]; exact hs.1) (go hs.2)
  | dup2 =>
    rcases st with _ | ⟨v, _ | ⟨v2, r⟩⟩
    · exact hs.elim
    · exact hs.elim
    · exact lv_dup2_11 hx hb hd (by rw [cv_cat]; exact hs.1) (by rw [cv_cat]; exact hs.2.1) (go hs.2.2)
  | pop =>
    rcases st with _ | ⟨v, r⟩
    · exact hs.elim
    · exact lv_pop hx hb hd (by rw [cv_cat]; exact hs.1) (go hs.2)
  | goto off => exact lv_goto hx hb hd (jmp_ok hs.1) (go hs.2)
  | ifCond cc off =>
    obtain ⟨hj, hs⟩ := hs
    obtain ⟨x, r, rfl, h1, h2⟩ := oI_inv hs
    cases cc with
    | eq => exact lv_if_eq hx hb hd (jmp_ok hj) (fun q => go (h1 q)) (fun q => go (h2 q))
    | ne => exact lv_if_ne hx hb hd (jmp_ok hj) (fun q => go (h1 q)) (fun q => go (h2 (fun z => z q)))
    | lt => exact lv_if_lt hx hb hd (jmp_ok hj) (fun q => go (h1 q)) (fun q => go (h2 q))
    | ge => exact lv_if_ge hx hb hd (jmp_ok hj) (fun q => go (h1 q)) (fun q => go (h2 q))
    | gt => exact lv_if_gt hx hb hd (jmp_ok hj) (fun q => go (h1 q)) (fun q => go (h2 q))
    | le => exact lv_if_le hx hb hd (jmp_ok hj) (fun q => go (h1 q)) (fun q => go (h2 q))
  | if_icmp cc off =>
    obtain ⟨hj, hs⟩ := hs
    obtain ⟨x, y, r, rfl, h1, h2⟩ := oII_inv hs
    cases cc with
    | eq => exact lv_icmp_eq hx hb hd (jmp_ok hj) (fun q => go (h1 q)) (fun q => go (h2 q))
    | ne => exact lv_icmp_ne hx hb hd (jmp_ok hj) (fun q => go (h1 q)) (fun q => go (h2 (fun z => z q)))
    | lt => exact lv_icmp_lt hx hb hd (jmp_ok hj) (fun q => go (h1 q)) (fun q => go (h2 q))
    | ge => exact lv_icmp_ge hx hb hd (jmp_ok hj) (fun q => go (h1 q)) (fun q => go (h2 q))
    | gt => exact lv_icmp_gt hx hb hd (jmp_ok hj) (fun q => go (h1 q)) (fun q => go (h2 q))
    | le => exact lv_icmp_le hx hb hd (jmp_ok hj) (fun q => go (h1 q)) (fun q => go (h2 q))
  | ifnull off =>
    obtain ⟨hj, hs⟩ := hs
    rcases oV_inv hs with ⟨x, r, rfl, h1, h2⟩ | ⟨r, rfl, h1, h2⟩
    · exact lv_ifnull hx hb hd (go (h2 (fun q => by cases q)))
    · exact lv_ifnullN hx hb hd (jmp_ok hj) (go (h1 rfl))
  | ifnonnull off =>
    obtain ⟨hj, hs⟩ := hs
    rcases oV_inv hs with ⟨x, r, rfl, h1, h2⟩ | ⟨r, rfl, h1, h2⟩
    · exact lv_ifnonnull hx hb hd (jmp_ok hj) (go (h1 (fun q => by cases q)))
    · exact lv_ifnonnullN hx hb hd (go (h2 rfl))
  | tableswitch d lo hi offs =>
    obtain ⟨x, r, rfl, h1, h2⟩ := oI_inv hs
    by_cases q1 : x.toInt < lo
    · obtain ⟨a1, a2⟩ := h1 (Or.inl q1)
      exact lv_tableOut hx hb hd (Or.inl q1) (jmp_ok a1) (go a2)
    · by_cases q2 : hi < x.toInt
      · obtain ⟨a1, a2⟩ := h1 (Or.inr q2)
        exact lv_tableOut hx hb hd (Or.inr q2) (jmp_ok a1) (go a2)
      · obtain ⟨off, a0, a1, a2⟩ := h2 q1 q2
        exact lv_tableIn hx hb hd q1 q2 a0 (jmp_ok a1) (go a2)
  | iaload =>
    obtain ⟨a, i, r, rfl, ht, hn, hs⟩ := oAI_inv hs
    rcases hk : hK h a with ⟨t, n⟩
    rw [hk] at ht hn
    by_cases e1 : t = 1
    · subst e1
      have hc := (hr.arrT hk (by omega) (by omega)).1
      exact W.iald (v := .int (hI h a i.toNatClampNeg)) hx hb hc (hsk.ty 0 rfl n _) (fun q => by cases q) (in_size hn) (by rw [arrV_read _ _ (in_lt hn)]; rfl) rfl rfl hd (go hs)
    · have e7 : t = 7 := by
        have : (t == 1 || t == 7) = true := ht
        simp at this
        omega
      subst e7
      have e0 : a = 0 := hr.1.2.2.2.2.2.1 a (by rw [hk])
      subst e0
      have en : n = wL w := by have := hr.1.2.1; rw [hk] at this; exact (Prod.mk.inj this).2
      subst en
      have eI : hI h 0 = wX w := hr.1.2.2.1
      rw [eI] at hs
      have hbl : wS w < s.heap.size := by
        obtain ⟨scr, hs0, -⟩ := hsk.2.1
        exact (Array.getElem?_eq_some_iff.mp hs0).1
      exact va_sld hx hb hsk.2.1 hbl (by show ¬ wB w ≤ wS w; have := hsk.2.2.2.2.1; omega) hS hn hd (go hs)
  | laload =>
    obtain ⟨a, i, r, rfl, ht, hn, hs⟩ := oAI_inv hs
    rcases hk : hK h a with ⟨t, n⟩
    rw [hk] at ht hn
    by_cases e1 : t = 2
    · subst e1
      have hc := (hr.arrT hk (by omega) (by omega)).1
      exact W.lald (v := .long (hJ h a i.toNatClampNeg)) hx hb hc (hsk.ty 1 rfl n _) (fun q => by cases q) (in_size hn) (by rw [arrV_read _ _ (in_lt hn)]; rfl) rfl rfl hd (go hs)
    · have e8 : t = 8 := by
        have : (t == 2 || t == 8) = true := ht
        simp at this
        omega
      subst e8
      have e0 : a = 1 := hr.1.2.2.2.2.2.2.1 a (by rw [hk])
      subst e0
      have en : n = 6 := by have := hr.1.2.2.2.1; rw [hk] at this; exact (Prod.mk.inj this).2
      subst en
      have eJ : hJ h 1 = wP w := hr.1.2.2.2.2.1
      rw [eJ] at hs
      exact va_tl hx hb hsk.2.2.2.1 hS hn rfl hd (go hs)
  | baload =>
    obtain ⟨a, i, r, rfl, ht, hn, hs⟩ := oAI_inv hs
    rcases hk : hK h a with ⟨t, n⟩
    rw [hk] at ht hn
    rcases ht with e1 | e1
    · have e1 : t = 3 := e1
      subst e1
      have hc := (hr.arrT hk (by omega) (by omega)).1
      exact W.bald (v := .int (hI h a i.toNatClampNeg)) hx hb hc (hsk.ty 2 rfl n _) (fun q => by cases q) (in_size hn) (by rw [arrV_read _ _ (in_lt hn)]; rfl) rfl rfl hd (go hs)
    · have e1 : t = 4 := e1
      subst e1
      have hc := (hr.arrT hk (by omega) (by omega)).1
      exact W.zald (v := .int (hI h a i.toNatClampNeg)) hx hb hc (hsk.ty 3 rfl n _) (fun q => by cases q) (in_size hn) (by rw [arrV_read _ _ (in_lt hn)]; rfl) rfl rfl hd (go hs)
  | aaload =>
    obtain ⟨a, i, r, rfl, ht, hn, hs⟩ := oAI_inv hs
    rcases hk : hK h a with ⟨t, n⟩
    rw [hk] at ht hn
    rcases ht with e1 | e1
    · have e1 : t = 5 := e1
      subst e1
      have hc := (hr.arrT hk (by omega) (by omega)).1
      exact W.aald (v := cv w (va_rf (hR h a i.toNatClampNeg))) hx hb hc (hsk.ty 4 rfl n _) rfl (fun q => by cases q) (in_size hn) (by rw [arrV_read _ _ (in_lt hn)]; rfl) rfl rfl hd (go hs)
    · have e1 : t = 6 := e1
      subst e1
      have hc := (hr.arrT hk (by omega) (by omega)).1
      exact W.aald (v := cv w (va_rf (hR h a i.toNatClampNeg))) hx hb hc (hsk.ty 5 rfl n _) rfl (fun q => by cases q) (in_size hn) (by rw [arrV_read _ _ (in_lt hn)]; rfl) rfl rfl hd (go hs)
  | arraylength =>
    obtain ⟨a, r, rfl, h1, h8, hs⟩ := oA_inv hs
    rcases hk : hK h a with ⟨t, n⟩
    rw [hk] at h1 h8 hs
    have h1 : 1 ≤ t := h1
    have h8 : t ≤ 8 := h8
    by_cases e7 : t = 7
    · subst e7
      have e0 : a = 0 := hr.1.2.2.2.2.2.1 a (by rw [hk])
      subst e0
      have en : n = wL w := by have := hr.1.2.1; rw [hk] at this; exact (Prod.mk.inj this).2
      subst en
      have hbl : wS w < s.heap.size := by
        obtain ⟨scr, hs0, -⟩ := hsk.2.1
        exact (Array.getElem?_eq_some_iff.mp hs0).1
      exact va_slen hx hb hsk.2.1 hbl (by show ¬ wB w ≤ wS w; have := hsk.2.2.2.2.1; omega) hS hd (go hs)
    · by_cases e8 : t = 8
      · subst e8
        have e0 : a = 1 := hr.1.2.2.2.2.2.2.1 a (by rw [hk])
        subst e0
        have en : n = 6 := by have := hr.1.2.2.2.1; rw [hk] at this; exact (Prod.mk.inj this).2
        subst en
        exact va_tlen hx hb hsk.2.2.2.1 hS rfl hd (go hs)
      · have hc := (hr.arrT hk (by omega) (by omega)).1
        have hty : ∃ ty, s.isArrayOf (arrV (wA w t) n (fun j => elt w t (hI h a j) (hJ h a j) (hR h a j))) ty := by
          rcases (show t = 1 ∨ t = 2 ∨ t = 3 ∨ t = 4 ∨ t = 5 ∨ t = 6 by omega) with e | e | e | e | e | e <;> subst e
          · exact ⟨_, hsk.ty 0 rfl n _⟩
          · exact ⟨_, hsk.ty 1 rfl n _⟩
          · exact ⟨_, hsk.ty 2 rfl n _⟩
          · exact ⟨_, hsk.ty 3 rfl n _⟩
          · exact ⟨_, hsk.ty 4 rfl n _⟩
          · exact ⟨_, hsk.ty 5 rfl n _⟩
        obtain ⟨ty, hty⟩ := hty
        exact W.alen (n := Int32.ofNat n) hx hb hc hty (by rw [arrV_size]) rfl rfl hd (go hs)
  | getfield i =>
    obtain ⟨a, r, rfl, hk, hci, hs⟩ := oA_inv hs
    obtain ⟨hi, hq⟩ := fres_in hci
    obtain ⟨-, hkN, hw⟩ := ftab_ok _ hq
    dsimp only at hkN hw
    rw [(key_dm hi).1, (key_dm hi).2] at hw
    generalize hf : fres (mO j) i = f at *
    obtain ⟨ci, k, q⟩ := f
    obtain ⟨cell, q1, q2, q3, q4⟩ := hr.obj hk
    obtain ⟨hSl, hfc, kC, hkC, hkind⟩ := hsk.1.1 ci _ (cl_at ci hci)
    obtain ⟨cf, kf, fi, f, hfi, hsl⟩ := hSl k hkN
    exact W.getf hx hb hown (hts _ (inG hw rfl)) hfi (u_facts hfc hkC (u_lays hts (fun x hx => List.mem_filter.mpr ⟨cl_lays ci hci x hx, by
      obtain ⟨z, -, rfl⟩ := List.mem_map.mp hx
      unfold u_lay
      split <;> rfl⟩) hkN) hfi).1 q1 (by rw [q3]; exact fun h => by cases h) (by rw [hsl, q4 k hkN]) rfl rfl hd (go hs)
  | getstatic i =>
    obtain ⟨ho, rfl, hs⟩ := hs
    rw [ho] at hown
    exact va_getsN hx hb hsk.2.2.1 hS hown (va_Nw.use rfl hsk.2.2.2.2.2.2.1) (fun _ h => h) hd (go hs)
  | _ => first | exact hs.elim | exact hpl.elim
end SND
end
section
/-! ===== stores, new cells ===== -/
section SN2
variable {p : Program} {l : Launch} {e : Env} {R : Room} {s : State} {m : MethodId} {args : Array Value} {below : List Frame} {meth : Method} {c : Code} {Q : State → Prop} {w : wd} {j : Nat}
theorem sI_o (h : hp) (a k : Nat) (x : Int32) : ∀ q, q ≠ a → hI (sI h a k x) q = hI h q ∧ hJ (sI h a k x) q = hJ h q ∧ hR (sI h a k x) q = hR h q := fun q hq => ⟨u2_n hq, rfl, rfl⟩
theorem sJ_o (h : hp) (a k : Nat) (x : Int64) : ∀ q, q ≠ a → hI (sJ h a k x) q = hI h q ∧ hJ (sJ h a k x) q = hJ h q ∧ hR (sJ h a k x) q = hR h q := fun q hq => ⟨rfl, u2_n hq, rfl⟩
theorem sR_o (h : hp) (a k : Nat) (x : Option Nat) : ∀ q, q ≠ a → hI (sR h a k x) q = hI h q ∧ hJ (sR h a k x) q = hJ h q ∧ hR (sR h a k x) q = hR h q := fun q hq => ⟨rfl, rfl, u2_n hq⟩
theorem store_cell {w : wd} {t n k : Nat} {f g : Nat → Value} {x : Value} (hf : ∀ q, g q = if q = k then x else f q) : (arrV (wA w t) n f).setSlot k x = arrV (wA w t) n g := by
  rw [arrV_store]
  congr 1
  funext q
  rw [hf q]
  rfl
set_option maxHeartbeats 4000000 in
theorem sn_store (cx : Cx p s m args meth c j w) {Y : cfgP} (hY : ∀ pc ls st h bc bs, Y pc ls st h bc bs → XM p l e R s m args below meth c Q w j pc ls st h bc bs) {C : callP} {Qp : resP} {ins : Instr} {len pc : Nat} {ls : List (Nat × Value)} {st : List Value} {h : hp} {bc bs : Nat}
    (hpl : match ins with | .iastore | .bastore | .lastore => True | _ => False)
    (hm : (pc, ins, ilen ins len) ∈ pt j) (hs : stepI C j Qp Y ins len pc ls st h bc bs) : XM p l e R s m args below meth c Q w j pc ls st h bc bs := by
  obtain ⟨hx, hb, hml, hown, hts, hsk, hok, hin⟩ := cx
  have hd := hok _ hm
  intro H locs cells slots lsA hr hS hl hbc hbs
  cases ins with
  | iastore =>
    obtain ⟨a, i, x, r, rfl, ht, hn, hs⟩ := oAII_inv hs
    rcases hk : hK h a with ⟨t, n⟩
    rw [hk] at ht hn
    have e1 : t = 1 := ht
    subst e1
    obtain ⟨hc, h2⟩ := hr.arrT hk (by omega) (by omega)
    refine W.iast hx hb hc (hsk.ty 0 rfl n _) (fun q => by cases q) (in_size hn) rfl rfl hd fun H1 e1 z oq => ?_
    refine hY _ _ _ _ _ _ hs H1 _ cells slots lsA (hr.put h2 rfl rfl (sI_o h a _ x) z oq (HC_arr hk (by omega) ?_)) (hS.at z oq (wAf_adr h2)) hl hbc hbs
    rw [e1, store_cell (fun q => ?_)]
    show elt w 1 (u2 h.1 a i.toNatClampNeg x a q) _ _ = _
    rw [u2_s, elt1, elt1]
    unfold u1
    split <;> rfl
  | bastore =>
    obtain ⟨a, i, x, r, rfl, hs1⟩ := oAII_inv hs
    rcases hk : hK h a with ⟨t, n⟩
    rw [hk] at hs1
    rcases hs1 with ⟨ht, hn, hs⟩ | ⟨ht, hn, hs⟩
    · have e1 : t = 3 := ht
      subst e1
      obtain ⟨hc, h2⟩ := hr.arrT hk (by omega) (by omega)
      refine W.bast hx hb hc (hsk.ty 2 rfl n _) (fun q => by cases q) (in_size hn) rfl rfl hd fun H1 e1 z oq => ?_
      refine hY _ _ _ _ _ _ hs H1 _ cells slots lsA (hr.put h2 rfl rfl (sI_o h a _ _) z oq (HC_arr hk (by omega) ?_)) (hS.at z oq (wAf_adr h2)) hl hbc hbs
      rw [e1, store_cell (fun q => ?_)]
      show elt w 3 (u2 h.1 a i.toNatClampNeg (vp_nar .byte x) a q) _ _ = _
      rw [u2_s, elt3, elt3]
      unfold u1
      split <;> rfl
    · have e1 : t = 4 := ht
      subst e1
      obtain ⟨hc, h2⟩ := hr.arrT hk (by omega) (by omega)
      refine W.zast hx hb hc (hsk.ty 3 rfl n _) (fun q => by cases q) (in_size hn) rfl rfl hd fun H1 e1 z oq => ?_
      refine hY _ _ _ _ _ _ hs H1 _ cells slots lsA (hr.put h2 rfl rfl (sI_o h a _ _) z oq (HC_arr hk (by omega) ?_)) (hS.at z oq (wAf_adr h2)) hl hbc hbs
      rw [e1, store_cell (fun q => ?_)]
      show elt w 4 (u2 h.1 a i.toNatClampNeg (vp_nar .boolean x) a q) _ _ = _
      rw [u2_s, elt4, elt4]
      unfold u1
      split <;> rfl
  | lastore =>
    obtain ⟨a, i, x, r, rfl, ht, hn, hs⟩ := oAIJ_inv hs
    rcases hk : hK h a with ⟨t, n⟩
    rw [hk] at ht hn
    have e1 : t = 2 := ht
    subst e1
    obtain ⟨hc, h2⟩ := hr.arrT hk (by omega) (by omega)
    refine W.last hx hb hc (hsk.ty 1 rfl n _) (fun q => by cases q) (in_size hn) rfl rfl hd fun H1 e1 z oq => ?_
    refine hY _ _ _ _ _ _ hs H1 _ cells slots lsA (hr.put h2 rfl rfl (sJ_o h a _ x) z oq (HC_arr hk (by omega) ?_)) (hS.at z oq (wAf_adr h2)) hl hbc hbs
    rw [e1, store_cell (fun q => ?_)]
    show elt w 2 _ (u2 h.2.1 a i.toNatClampNeg x a q) _ = _
    rw [u2_s, elt2, elt2]
    unfold u1
    split <;> rfl
  | _ => exact hpl.elim
theorem putK_inv {ty : FieldType} {v : Value} {h : hp} {a k : Nat} {K : hp → Prop} (hp0 : putK ty v h a k K) : ∃ h', K h' ∧ hK h' = hK h ∧ hN h' = hN h ∧ (∀ q, q ≠ a → hI h' q = hI h q ∧ hJ h' q = hJ h q ∧ hR h' q = hR h q) ∧ (∀ w : wd, narrow ty (cv w v) = cv w v ∧ fits ty (cv w v) = true) ∧
    (∀ (f : Nat → FieldType) (q : Nat), f k = ty → pval (f q) (hI h' a q) (hJ h' a q) (hR h' a q) = if q = k then v else pval (f q) (hI h a q) (hJ h a q) (hR h a q)) := by
  have key : ∀ {α : Type} {g : Nat → Nat → α} {x : α} (q : Nat), u2 g a k x a q = if q = k then x else g a q := fun q => by rw [u2_s]; rfl
  unfold putK at hp0
  split at hp0
  · refine ⟨_, hp0, rfl, rfl, sI_o h a k _, fun w => ⟨rfl, rfl⟩, fun f q hf => ?_⟩
    show pval (f q) (u2 h.1 a k _ a q) _ _ = _
    rw [key q]
    by_cases e : q = k
    · subst e
      rw [hf, if_pos rfl, if_pos rfl]
      rfl
    · rw [if_neg e, if_neg e]
      rfl
  · obtain ⟨hx, hp0⟩ := hp0
    refine ⟨_, hp0, rfl, rfl, sI_o h a k _, fun w => ?_, fun f q hf => ?_⟩
    · rcases hx with rfl | rfl
      · show narrow .boolean (Value.int 0) = Value.int 0 ∧ fits .boolean (Value.int 0) = true
        decide
      · show narrow .boolean (Value.int 1) = Value.int 1 ∧ fits .boolean (Value.int 1) = true
        decide
    · show pval (f q) (u2 h.1 a k _ a q) _ _ = _
      rw [key q]
      by_cases e : q = k
      · subst e
        rw [hf, if_pos rfl, if_pos rfl]
        rfl
      · rw [if_neg e, if_neg e]
        rfl
  · refine ⟨_, hp0, rfl, rfl, sJ_o h a k _, fun w => ⟨rfl, rfl⟩, fun f q hf => ?_⟩
    show pval (f q) _ (u2 h.2.1 a k _ a q) _ = _
    rw [key q]
    by_cases e : q = k
    · subst e
      rw [hf, if_pos rfl, if_pos rfl]
      rfl
    · rw [if_neg e, if_neg e]
      rfl
  all_goals first
    | exact hp0.elim
    | (refine ⟨_, hp0, rfl, rfl, sR_o h a k _, fun w => ⟨rfl, rfl⟩, fun f q hf => ?_⟩
       show pval (f q) _ _ (u2 h.2.2.1 a k _ a q) = _
       rw [key q]
       by_cases e : q = k
       · subst e
         rw [hf, if_pos rfl, if_pos rfl]
         rfl
       · rw [if_neg e, if_neg e]
         rfl)
theorem lays_in {ci : Nat} (hci : ci < 10) : ∀ x ∈ u_ws (clR ci) (clT ci) (clN ci), x ∈ gT := fun x hx => List.mem_filter.mpr ⟨cl_lays ci hci x hx, by
  obtain ⟨z, -, rfl⟩ := List.mem_map.mp hx
  unfold u_lay
  split <;> rfl⟩
theorem u2_at {α : Type} {f : Nat → Nat → α} {a k q : Nat} {x : α} : u2 f a k x a q = if q = k then x else f a q := by rw [u2_s]; rfl
set_option maxHeartbeats 4000000 in
theorem sn_put (cx : Cx p s m args meth c j w) {Y : cfgP} (hY : ∀ pc ls st h bc bs, Y pc ls st h bc bs → XM p l e R s m args below meth c Q w j pc ls st h bc bs) {C : callP} {Qp : resP} {i len pc : Nat} {ls : List (Nat × Value)} {st : List Value} {h : hp} {bc bs : Nat}
    (hm : (pc, Instr.putfield i, 3) ∈ pt j) (hs : stepI C j Qp Y (.putfield i) len pc ls st h bc bs) : XM p l e R s m args below meth c Q w j pc ls st h bc bs := by
  obtain ⟨hx, hb, hml, hown, hts, hsk, hok, hin⟩ := cx
  have hd := hok _ hm
  intro H locs cells slots lsA hr hS hl hbc hbs
  have hs : ∃ v a r, st = v :: .ref a :: r ∧ hK h a = (0, (fres (mO j) i).1) ∧ (fres (mO j) i).1 < 10 ∧ ((clT (fres (mO j) i).1 (fres (mO j) i).2.1).2.2.2 = false ∨ ((clT (fres (mO j) i).1 (fres (mO j) i).2.1).2.2.2 = true ∧ (mY j).name = "<init>" ∧ mO j = (fres (mO j) i).1)) ∧
        putK (fT (fres (mO j) i).1 (fres (mO j) i).2.1) v h a (fres (mO j) i).2.1 fun h' => Y (pc + 3) ls r h' bc bs := by
    rcases st with _ | ⟨v, _ | ⟨u, r⟩⟩
    · exact hs.elim
    · exact hs.elim
    · cases u with
      | ref a => exact ⟨v, a, r, rfl, hs⟩
      | _ => exact hs.elim
  obtain ⟨v, a, r, rfl, hk, hci, hfin, hp0⟩ := hs
  obtain ⟨hi, hq⟩ := fres_in hci
  obtain ⟨-, hkN, hw⟩ := ftab_ok _ hq
  dsimp only at hkN hw
  rw [(key_dm hi).1, (key_dm hi).2] at hw
  generalize hf : fres (mO j) i = f at *
  obtain ⟨ci, k, q⟩ := f
  dsimp only at hk hci hfin hp0 hkN hw
  obtain ⟨h', hs, eK, eN, ho, hnf, hpv⟩ := putK_inv hp0
  obtain ⟨hn1, hn2⟩ := hnf w
  have h2 : 2 ≤ a := (hr.at (k := a) (by rw [hk]; exact (by decide : (0 : Nat) ≠ 7)) (by rw [hk]; exact (by decide : (0 : Nat) ≠ 8)) (by rw [hk]; exact (by decide : (0 : Nat) ≠ 9))).1
  obtain ⟨cell, q1, q2, q3, q4⟩ := hr.obj hk
  have hKn := hsk.1.1 ci _ (cl_at ci hci)
  obtain ⟨hSl, hfc, kC, hkC, hkind⟩ := hKn
  obtain ⟨cf, kf, fi, f, hfi, hsl⟩ := hSl k hkN
  have hap := va_apart (own := clR ci) hts (lays_in hci) (fT ci) (cl_types ci hci) (cl_names ci hci) hsk.1 (cl_at ci hci)
  have hst := (u_facts hfc hkC (u_lays hts (lays_in hci) hkN) hfi).1
  have hlay := hts _ (lays_in hci _ (u_in_lay hkN))
  have fin : ∀ H1 : Heap, H1[adr w a]? = some (cell.setSlot f.slot (cv w v)) → H1.size = H.size → (∀ q, q ≠ adr w a → H1[q]? = H[q]?) → W p l e R s m args below meth c H1 (locs ++ [⟨adr w a, f.slot⟩]) cells slots Q (F0 m (pc + 3) lsA (r.map (cv w))) := by
    intro H1 e1 z oq
    refine hY _ _ _ _ _ _ hs H1 _ cells slots lsA (hr.put h2 eK eN ho z oq ?_) (hS.at z oq (wAf_adr h2)) hl hbc hbs
    unfold HC
    rw [eK, hk]
    show t_OB (adr w a) ((wD w).1 ci) (clN ci) ((wD w).2 ci) H1 _
    rw [hsl] at e1
    refine t_OB.to ⟨_, e1, q2, q3, t_set q4 hap hkN (cv w v)⟩ (fun q hq => ?_)
    rw [hpv (fT ci) q rfl]
    unfold updV
    by_cases e : q = k
    · rw [if_pos e, if_pos e]
    · rw [if_neg e, if_neg e]
  rcases hfin with hfin | ⟨hfin, hini, hoj⟩
  · unfold u_lay at hlay
    rw [if_neg (by rw [hfin]; decide)] at hlay
    have h6 := u_store hfc hkC hkind hlay hfi (cl_types ci hci k hkN) hn1 hn2
    exact W.putK hx hb (f := f) ⟨hown, hts _ (inG hw rfl), ⟨_, _, _, hfi⟩, hst⟩ (by rw [q2]; exact h6) q1 q3 (by rw [hsl]; exact k2_hasslot (q4 k hkN)) rfl rfl hd fin
  · unfold u_lay at hlay
    rw [if_pos hfin] at hlay
    have hcf : m.cls = cf := by
      obtain ⟨_, _, c', _, _, _, -, -, hf', -, -, -, hown2, -⟩ := Cond.laysFinal_spec hlay
      have e1 : c' = cf := by have := hfi.symm.trans hf'; simp at this; exact this.1.symm
      rw [cl_own ci hci k hkN] at hown2
      rw [hoj] at hown
      have e2 : oN ci = clR ci := by
        rcases (show ci = 0 ∨ ci = 1 ∨ ci = 2 ∨ ci = 3 ∨ ci = 4 ∨ ci = 5 ∨ ci = 6 ∨ ci = 7 ∨ ci = 8 ∨ ci = 9 by omega) with e | e | e | e | e | e | e | e | e | e <;> subst e <;> rfl
      rw [e2] at hown
      rw [← e1]; exact Option.some.inj (hown.symm.trans hown2)
    have h6 := u_fits hfc hkC hkind (Or.inr hlay) hfi (cl_types ci hci k hkN) hn1 hn2
    exact W.putFinK hx hb hown (hts _ (inG hw rfl)) hfi hst hcf (hin hini) (by rw [q2]; exact h6) q1 q3 (by rw [hsl]; exact k2_hasslot (q4 k hkN)) rfl rfl hd fin
end SN2
end
section
/-! ===== new cells ===== -/
section SN3
variable {p : Program} {l : Launch} {e : Env} {R : Room} {s : State} {m : MethodId} {args : Array Value} {below : List Frame} {meth : Method} {c : Code} {Q : State → Prop} {w : wd} {j : Nat}
theorem cl_nf : ∀ ci, ci < 10 → ∀ k, k < clN ci → fT ci k ≠ .float ∧ fT ci k ≠ .double := by decide +kernel
theorem elt0 (w : wd) (t : Nat) : elt w t 0 0 none = if t = 2 then .long 0 else if t = 5 ∨ t = 6 then .null else .int 0 := rfl
theorem HR.sz {w : wd} {h : hp} {H : Heap} (hr : HR w h H) : H.size = adr w (hN h) := by
  rw [adr_ge hr.1.1]
  exact hr.2.1
theorem va_S.push {A : Nat → Prop} {H0 H H1 : Heap} {locs : List Loc} (h : va_S A H0 H locs) (z : H.size ≤ H1.size) (oq : ∀ q : Nat, q < H.size → H1[q]? = H[q]?) : va_S A H0 H1 locs := ⟨Nat.le_trans h.1 z, fun q h1 h2 => (oq q (Nat.lt_of_lt_of_le h1 h.1)).trans (h.2.1 q h1 h2), h.2.2⟩
set_option maxHeartbeats 4000000 in
theorem sn_newa (cx : Cx p s m args meth c j w) {Y : cfgP} (hY : ∀ pc ls st h bc bs, Y pc ls st h bc bs → XM p l e R s m args below meth c Q w j pc ls st h bc bs) {C : callP} {Qp : resP} {t : ArrayType} {len pc : Nat} {ls : List (Nat × Value)} {st : List Value} {h : hp} {bc bs : Nat}
    (hm : (pc, Instr.newarray t, 2) ∈ pt j) (hs : stepI C j Qp Y (.newarray t) len pc ls st h bc bs) : XM p l e R s m args below meth c Q w j pc ls st h bc bs := by
  obtain ⟨hx, hb, hml, hown, hts, hsk, hok, hin⟩ := cx
  have hd := hok _ hm
  intro H locs cells slots lsA hr hS hl hbc hbs
  obtain ⟨x, r, rfl, ht1, ht4, hn, h60, hc1, hsl, hs⟩ := oI_inv hs
  have word : (Cond.arrayClass (newarray.typeOf t)).before args s = true ∧ componentBytes (newarray.typeOf t) ≤ 8 ∧ (∀ cA, s.vm.findClass ("[" ++ (newarray.typeOf t).toString) = some cA → cA = wA w (atag t)) ∧ defaultValue (newarray.typeOf t) = elt w (atag t) 0 0 none := by
    obtain ⟨w1, w2, w3, w4, -, -⟩ := arr_words
    cases t with
    | int => exact ⟨hts _ (inG w1 rfl), by decide, fun cA h => Option.some.inj (h.symm.trans (hsk.1.2 0 _ rfl).2), rfl⟩
    | long => exact ⟨hts _ (inG w2 rfl), by decide, fun cA h => Option.some.inj (h.symm.trans (hsk.1.2 1 _ rfl).2), rfl⟩
    | byte => exact ⟨hts _ (inG w3 rfl), by decide, fun cA h => Option.some.inj (h.symm.trans (hsk.1.2 2 _ rfl).2), rfl⟩
    | boolean => exact ⟨hts _ (inG w4 rfl), by decide, fun cA h => Option.some.inj (h.symm.trans (hsk.1.2 3 _ rfl).2), rfl⟩
    | _ => exact absurd ht4 (by decide)
  obtain ⟨w1, w2, w3, w4⟩ := word
  refine va_newaK hx hb w1 rfl hd rfl hn rfl (Nat.le_trans (Nat.mul_le_mul h60 w2) (by decide)) (by omega) (by omega) rfl fun H1 cA e1 z1 o1 _ hNm => ?_
  have ecA := w3 cA hNm
  subst ecA
  rw [w4] at e1
  have k0 : hK (hnew h (atag t) x.toNatClampNeg) (hN h) = (atag t, x.toNatClampNeg) := u1_s
  have hr1 : HR w (hnew h (atag t) x.toNatClampNeg) H1 := hr.push (by omega) (fun q => by omega) z1 o1 (HC_arr k0 ht1 (by
    rw [← hr.sz, e1]
    refine congrArg (fun f => some (arrV (wA w (atag t)) x.toNatClampNeg f)) (funext fun q => ?_)
    show _ = elt w (atag t) (u1 (hI h) (hN h) (fun _ => 0) (hN h) q) (u1 (hJ h) (hN h) (fun _ => 0) (hN h) q) (u1 (hR h) (hN h) (fun _ => none) (hN h) q)
    rw [u1_s, u1_s, u1_s]))
  have hW := hY _ _ _ _ _ _ hs H1 locs (cells + 1) (slots + x.toNatClampNeg) lsA hr1 (hS.push (by omega) o1) hl (by omega) (by omega)
  have ea : cv w (.ref (hN h)) = .ref H.size := by rw [hr.sz]; rfl
  rw [List.map_cons, ea] at hW
  exact hW
set_option maxHeartbeats 4000000 in
theorem sn_new (cx : Cx p s m args meth c j w) {Y : cfgP} (hY : ∀ pc ls st h bc bs, Y pc ls st h bc bs → XM p l e R s m args below meth c Q w j pc ls st h bc bs) {C : callP} {Qp : resP} {i : Nat} {len pc : Nat} {ls : List (Nat × Value)} {st : List Value} {h : hp} {bc bs : Nat}
    (hm : (pc, Instr.new i, 3) ∈ pt j) (hs : stepI C j Qp Y (.new i) len pc ls st h bc bs) : XM p l e R s m args below meth c Q w j pc ls st h bc bs := by
  obtain ⟨hx, hb, hml, hown, hts, hsk, hok, hin⟩ := cx
  have hd := hok _ hm
  intro H locs cells slots lsA hr hS hl hbc hbs
  obtain ⟨hci, hc1, hsl, hs⟩ := hs
  obtain ⟨hi, hq⟩ := nres_in hci
  obtain ⟨-, hw⟩ := ntab_ok _ hq
  dsimp only at hw
  rw [(key_dm hi).1, (key_dm hi).2] at hw
  generalize hf : nres (mO j) i = f at *
  obtain ⟨ci, q⟩ := f
  dsimp only at hci hsl hs hw
  obtain ⟨p1, p2⟩ := cpos_ok ci hci
  have hKn := hsk.1.1 ci _ (cl_at ci hci)
  refine W.newcK hx hb hown (hts _ (inG hw rfl)) (hts _ (inG p1 rfl)) (hts _ (inG p2 rfl)) rfl hd (by omega) (by omega) hKn.2.1 rfl fun H1 kC hkC e1 z1 o1 => ?_
  have k0 : hK (hnew h 0 ci) (hN h) = (0, ci) := u1_s
  have hr1 : HR w (hnew h 0 ci) H1 := hr.push (by omega) (fun _ => hci) z1 o1 (by
    unfold HC
    rw [k0]
    show t_OB (adr w (hN h)) ((wD w).1 ci) (clN ci) ((wD w).2 ci) H1 _
    rw [← hr.sz]
    refine (u_born (fT ci) hts (lays_in hci) hKn hkC e1 (cl_types ci hci)).to (fun q hqN => ?_)
    show defaultValue (fT ci q) = cv w (pval (fT ci q) (u1 (hI h) (hN h) (fun _ => 0) (hN h) q) (u1 (hJ h) (hN h) (fun _ => 0) (hN h) q) (u1 (hR h) (hN h) (fun _ => none) (hN h) q))
    rw [u1_s, u1_s, u1_s]
    have hty := cl_nf ci hci q hqN
    cases hq : fT ci q with
    | float => exact absurd hq hty.1
    | double => exact absurd hq hty.2
    | _ => rfl)
  have hW := hY _ _ _ _ _ _ hs H1 locs (cells + 1) (slots + clN ci) lsA hr1 (hS.push (by omega) o1) hl (by omega) (by omega)
  have ea : cv w (.ref (hN h)) = .ref H.size := by rw [hr.sz]; rfl
  rw [List.map_cons, ea] at hW
  exact hW
theorem grid_K (h : hp) (t ti n k : Nat) : hK (hgrid h t ti n k) (hN h) = (t, n) ∧ (∀ i, i < n → hK (hgrid h t ti n k) (hN h + 1 + i) = (ti, k)) ∧ (∀ a, a < hN h → hK (hgrid h t ti n k) a = hK h a) ∧ ∀ a, hN h + n < a → hK (hgrid h t ti n k) a = hK h a := by
  refine ⟨if_pos rfl, fun i hi => ?_, fun a ha => ?_, fun a ha => ?_⟩
  · show (if hN h + 1 + i = hN h then (t, n) else if hN h < hN h + 1 + i ∧ hN h + 1 + i ≤ hN h + n then (ti, k) else hK h (hN h + 1 + i)) = _
    rw [if_neg (by omega), if_pos (by omega)]
  · show (if a = hN h then (t, n) else if hN h < a ∧ a ≤ hN h + n then (ti, k) else hK h a) = _
    rw [if_neg (by omega), if_neg (by omega)]
  · show (if a = hN h then (t, n) else if hN h < a ∧ a ≤ hN h + n then (ti, k) else hK h a) = _
    rw [if_neg (by omega), if_neg (by omega)]
theorem grid_o (h : hp) (t ti n k a : Nat) (ha : a < hN h) : hI (hgrid h t ti n k) a = hI h a ∧ hJ (hgrid h t ti n k) a = hJ h a ∧ hR (hgrid h t ti n k) a = hR h a := by
  refine ⟨if_neg (by omega), if_neg (by omega), ?_⟩
  show (if a = hN h then _ else if hN h < a ∧ a ≤ hN h + n then _ else hR h a) = _
  rw [if_neg (by omega), if_neg (by omega)]
theorem outer_cell (cA : ClassId) (N h0 : Nat) : ∀ i : Nat, Jvm.Free.Multi.outerC cA N h0 i = arrV cA N (fun q => va_rf (if q < i then some (h0 + 1 + q) else none))
  | 0 => by
    show ({ cls := cA, slots := Array.replicate N .null, vm := .none } : Cell) = _
    rw [arrV_new]
    refine congrArg (arrV cA N) (funext fun q => ?_)
    rw [if_neg (Nat.not_lt_zero q)]
    rfl
  | i + 1 => by
    show (Jvm.Free.Multi.outerC cA N h0 i).setSlot i (.ref (h0 + 1 + i)) = _
    rw [outer_cell cA N h0 i, arrV_store]
    refine congrArg (arrV cA N) (funext fun q => ?_)
    unfold updV
    by_cases e : q = i
    · rw [if_pos e, if_pos (by omega), e]
      rfl
    · rw [if_neg e]
      show va_rf (if q < i then some (h0 + 1 + q) else none) = _
      by_cases h : q < i
      · rw [if_pos h, if_pos (by omega)]
      · rw [if_neg h, if_neg (by omega)]
set_option maxHeartbeats 4000000 in
theorem sn_grid (cx : Cx p s m args meth c j w) {Y : cfgP} (hY : ∀ pc ls st h bc bs, Y pc ls st h bc bs → XM p l e R s m args below meth c Q w j pc ls st h bc bs) {C : callP} {Qp : resP} {i dm : Nat} {len pc : Nat} {ls : List (Nat × Value)} {st : List Value} {h : hp} {bc bs : Nat}
    (hm : (pc, Instr.multianewarray i dm, 4) ∈ pt j) (hs : stepI C j Qp Y (.multianewarray i dm) len pc ls st h bc bs) : XM p l e R s m args below meth c Q w j pc ls st h bc bs := by
  obtain ⟨hx, hb, hml, hown, hts, hsk, hok, hin⟩ := cx
  have hd := hok _ hm
  intro H locs cells slots lsA hr hS hl hbc hbs
  obtain ⟨hd2, hs⟩ := hs
  subst hd2
  obtain ⟨x, y, r, rfl, hg, hx0, hy0, hx1, hy1, hc1, hsl, hs⟩ := oII_inv hs
  obtain ⟨hi, hq⟩ := gres_in (o := mO j) (i := i) (by rcases hg with e | e <;> rw [e] <;> decide)
  obtain ⟨g5, g6⟩ := gtab_ok _ hq
  dsimp only at g5 g6
  rw [(key_dm hi).1, (key_dm hi).2] at g5 g6
  generalize hf : gres (mO j) i = f at *
  obtain ⟨t, q0⟩ := f
  dsimp only at hg hs g5 g6
  have word : ∃ ty : FieldType, (Cond.classLink (oN (mO j)) i ("[" ++ (FieldType.array ty).toString)).before args s = true ∧ (Cond.arrayOver (.array ty)).before args s = true ∧ (Cond.arrayClass ty).before args s = true ∧ componentBytes ty ≤ 8 ∧ fits ty (defaultValue ty) = true ∧ (defaultValue ty).isDefault = true ∧
      (∀ cA, s.vm.findClass ("[" ++ (FieldType.array ty).toString) = some cA → cA = wA w t) ∧ (∀ cA, s.vm.findClass (FieldType.array ty).toString = some cA → cA = wA w (t - 4)) ∧ defaultValue ty = elt w (t - 4) 0 0 none := by
    obtain ⟨w1, w2, w3, w4, -, -⟩ := arr_words
    rcases hg with rfl | rfl
    · exact ⟨.int, hts _ (inG (g5 rfl) rfl), hsk.2.2.2.2.2.2.2.2.1, hts _ (inG w1 rfl), by decide, rfl, rfl, fun cA h => Option.some.inj (h.symm.trans (hsk.1.2 4 _ rfl).2), fun cA h => Option.some.inj (h.symm.trans (hsk.1.2 0 _ rfl).2), rfl⟩
    · exact ⟨.long, hts _ (inG (g6 rfl) rfl), hsk.2.2.2.2.2.2.2.2.2, hts _ (inG w2 rfl), by decide, rfl, rfl, fun cA h => Option.some.inj (h.symm.trans (hsk.1.2 5 _ rfl).2), fun cA h => Option.some.inj (h.symm.trans (hsk.1.2 1 _ rfl).2), rfl⟩
  obtain ⟨ty, a1, a2, a3, a4, a5, a6, a7, a8, a9⟩ := word
  intro T hT Xs
  obtain ⟨vm₁, cA, comp, -, fA, fC, -, -, X', step⟩ := Xs.multianewarray2F hx hown a1 a2 a3 (g := F0 m pc lsA (.int y :: .int x :: r.map (cv w))) rfl (by rw [hb]; exact hd) rfl hx0 hy0 (by omega) (Nat.le_trans (Nat.mul_le_mul hy1 a4) (by decide)) (by omega) a5 a6 (by omega) (by omega)
  have e1 := a7 cA fA
  subst e1
  have e2 := a8 comp fC
  subst e2
  generalize hF : Jvm.Free.Multi.fill (T.setVm vm₁) (wA w t) (wA w (t - 4)) x.toNatClampNeg y.toNatClampNeg (defaultValue ty) x.toNatClampNeg = F at X' step
  have hTh : (T.setVm vm₁).heap = H := hT
  obtain ⟨f1, f2, -, -⟩ := Jvm.Free.Multi.fill_facts (T.setVm vm₁) (wA w t) (wA w (t - 4)) x.toNatClampNeg y.toNatClampNeg (defaultValue ty) x.toNatClampNeg
  rw [hF, hTh] at f1 f2
  have hold : ∀ q : Nat, q < H.size → F.heap[q]? = H[q]? := fun q hq => by
    have := Jvm.Free.Multi.fill_old (T.setVm vm₁) (wA w t) (wA w (t - 4)) x.toNatClampNeg y.toNatClampNeg (defaultValue ty) (a := q) (by rw [hTh]; exact hq) x.toNatClampNeg
    rw [hF, hTh] at this
    exact this
  have hrow : ∀ q : Nat, q < x.toNatClampNeg → F.heap[H.size + 1 + q]? = some (arrV (wA w (t - 4)) y.toNatClampNeg (fun _ => defaultValue ty)) := fun q hq => by
    have := Jvm.Free.Multi.fill_inner (T.setVm vm₁) (wA w t) (wA w (t - 4)) x.toNatClampNeg y.toNatClampNeg (defaultValue ty) x.toNatClampNeg q hq
    rw [hF, hTh] at this
    rw [this, ← arrV_new]
    rfl
  rw [outer_cell] at f2
  obtain ⟨k1, k2, k3, k4⟩ := grid_K h t (t - 4) x.toNatClampNeg y.toNatClampNeg
  have hsz := hr.sz
  have hsz2 : H.size = wB w + (hN h - 2) := hr.2.1
  have hr1 : HR w (hgrid h t (t - 4) x.toNatClampNeg y.toNatClampNeg) F.heap := by
    obtain ⟨⟨s1, s2, s3, s4, s5, s6, s7, s8, s9⟩, hz, hcs⟩ := hr
    have eN : hN (hgrid h t (t - 4) x.toNatClampNeg y.toNatClampNeg) = hN h + 1 + x.toNatClampNeg := rfl
    have tri : ∀ a, a < hN h ∨ a = hN h ∨ (∃ q, q < x.toNatClampNeg ∧ a = hN h + 1 + q) ∨ hN h + x.toNatClampNeg < a := fun a => by
      by_cases b1 : a < hN h
      · exact Or.inl b1
      · by_cases b2 : a = hN h
        · exact Or.inr (Or.inl b2)
        · by_cases b3 : a ≤ hN h + x.toNatClampNeg
          · exact Or.inr (Or.inr (Or.inl ⟨a - (hN h + 1), by omega, by omega⟩))
          · exact Or.inr (Or.inr (Or.inr (by omega)))
    have tag : ∀ a, hK (hgrid h t (t - 4) x.toNatClampNeg y.toNatClampNeg) a = hK h a ∨ (1 ≤ (hK (hgrid h t (t - 4) x.toNatClampNeg y.toNatClampNeg) a).1 ∧ (hK (hgrid h t (t - 4) x.toNatClampNeg y.toNatClampNeg) a).1 ≤ 6) := fun a => by
      rcases tri a with b | b | ⟨q, hq, b⟩ | b
      · exact Or.inl (k3 a b)
      · rw [b, k1]
        exact Or.inr ⟨by show 1 ≤ t; omega, by show t ≤ 6; omega⟩
      · rw [b, k2 q hq]
        exact Or.inr ⟨by show 1 ≤ t - 4; omega, by show t - 4 ≤ 6; omega⟩
      · exact Or.inl (k4 a b)
    refine ⟨⟨by rw [eN]; omega, by rw [k3 0 (by omega)]; exact s2, by rw [(grid_o h t (t - 4) _ _ 0 (by omega)).1]; exact s3, by rw [k3 1 (by omega)]; exact s4, by rw [(grid_o h t (t - 4) _ _ 1 (by omega)).2.1]; exact s5, fun a ea => ?_, fun a ea => ?_, fun a ea => ?_, fun a ea => ?_⟩, by rw [f1, eN]; omega, fun a h2 hn => ?_⟩
    · rcases tag a with b | b
      · rw [b] at ea; exact s6 a ea
      · omega
    · rcases tag a with b | b
      · rw [b] at ea; exact s7 a ea
      · omega
    · rw [eN] at ea
      rw [k4 a (by omega)]
      exact s8 a (by omega)
    · rcases tag a with b | b
      · rw [b] at ea ⊢; exact s9 a ea
      · omega
    · rcases tri a with b | b | ⟨q, hq, b⟩ | b
      · obtain ⟨i1, i2, i3⟩ := grid_o h t (t - 4) x.toNatClampNeg y.toNatClampNeg a b
        exact (hcs a h2 b).to (k3 a b) i1 i2 i3 (hold _ (by rw [adr_ge h2, hz]; omega))
      · subst b
        refine HC_arr k1 (by omega) ?_
        rw [← hsz, f2]
        refine congrArg (fun f => some (arrV (wA w t) x.toNatClampNeg f)) (funext fun q => ?_)
        have e5 : ∀ rr, elt w t (hI (hgrid h t (t - 4) x.toNatClampNeg y.toNatClampNeg) (hN h) q) (hJ (hgrid h t (t - 4) x.toNatClampNeg y.toNatClampNeg) (hN h) q) rr = cv w (va_rf rr) := fun rr => by rcases hg with e | e <;> rw [e] <;> rfl
        rw [e5]
        show _ = cv w (va_rf ((if hN h = hN h then (fun i => if i < x.toNatClampNeg then some (hN h + 1 + i) else none) else if hN h < hN h ∧ hN h ≤ hN h + x.toNatClampNeg then (fun _ => none) else hR h (hN h)) q))
        rw [if_pos rfl]
        by_cases hq : q < x.toNatClampNeg
        · rw [if_pos hq, if_pos hq]
          show Value.ref (H.size + 1 + q) = Value.ref (adr w (hN h + 1 + q))
          have e9 : H.size + 1 + q = wB w + (hN h + 1 + q - 2) := by omega
          rw [adr_ge (by omega), e9]
        · rw [if_neg hq, if_neg hq]
          rfl
      · subst b
        refine HC_arr (k2 q hq) (by omega) ?_
        have ea : adr w (hN h + 1 + q) = H.size + 1 + q := by rw [adr_ge (by omega), hz]; omega
        rw [ea, hrow q hq]
        refine congrArg (fun f => some (arrV (wA w (t - 4)) y.toNatClampNeg f)) (funext fun z => ?_)
        rw [a9]
        have b1 : hI (hgrid h t (t - 4) x.toNatClampNeg y.toNatClampNeg) (hN h + 1 + q) = fun _ => 0 := if_pos (by omega)
        have b2 : hJ (hgrid h t (t - 4) x.toNatClampNeg y.toNatClampNeg) (hN h + 1 + q) = fun _ => 0 := if_pos (by omega)
        have b3 : hR (hgrid h t (t - 4) x.toNatClampNeg y.toNatClampNeg) (hN h + 1 + q) = fun _ => none := by
          show (if hN h + 1 + q = hN h then (fun i => if i < x.toNatClampNeg then some (hN h + 1 + i) else none) else if hN h < hN h + 1 + q ∧ hN h + 1 + q ≤ hN h + x.toNatClampNeg then (fun _ => none) else hR h (hN h + 1 + q)) = _
          rw [if_neg (by omega), if_pos (by omega)]
        rw [b1, b2, b3]
      · rw [eN] at hn
        omega
  have hW := hY _ _ _ _ _ _ hs F.heap locs (cells + 1 + x.toNatClampNeg) (slots + x.toNatClampNeg + x.toNatClampNeg * y.toNatClampNeg) lsA hr1 (hS.push (by omega) hold) hl (by omega) (by omega)
  have ea : cv w (.ref (hN h)) = .ref H.size := by rw [hsz]; rfl
  rw [List.map_cons, ea] at hW
  obtain ⟨tt, b1, b2⟩ := hW F rfl X'
  refine ⟨tt, step tt ?_, b2⟩
  have e : T.heap.size = H.size := by rw [hT]
  rw [e]
  exact b1
end SN3
end
section
theorem pk_0 : ∀ j, 0 ≤ j → j < 10 → pOk j := by
  intro j h1 h2
  rcases (show j = 0 ∨ j = 1 ∨ j = 2 ∨ j = 3 ∨ j = 4 ∨ j = 5 ∨ j = 6 ∨ j = 7 ∨ j = 8 ∨ j = 9 by omega) with rfl | rfl | rfl | rfl | rfl | rfl | rfl | rfl | rfl | rfl
  · exact pok0
  · exact pok1
  · exact pok2
  · exact pok3
  · exact pok4
  · exact pok5
  · exact pok6
  · exact pok7
  · exact pok8
  · exact pok9
theorem pk_10 : ∀ j, 10 ≤ j → j < 20 → pOk j := by
  intro j h1 h2
  rcases (show j = 10 ∨ j = 11 ∨ j = 12 ∨ j = 13 ∨ j = 14 ∨ j = 15 ∨ j = 16 ∨ j = 17 ∨ j = 18 ∨ j = 19 by omega) with rfl | rfl | rfl | rfl | rfl | rfl | rfl | rfl | rfl | rfl
  · exact pok10
  · exact pok11
  · exact pok12
  · exact pok13
  · exact pok14
  · exact pok15
  · exact pok16
  · exact pok17
  · exact pok18
  · exact pok19
theorem pk_20 : ∀ j, 20 ≤ j → j < 30 → pOk j := by
  intro j h1 h2
  rcases (show j = 20 ∨ j = 21 ∨ j = 22 ∨ j = 23 ∨ j = 24 ∨ j = 25 ∨ j = 26 ∨ j = 27 ∨ j = 28 ∨ j = 29 by omega) with rfl | rfl | rfl | rfl | rfl | rfl | rfl | rfl | rfl | rfl
  · exact pok20
  · exact pok21
  · exact pok22
  · exact pok23
  · exact pok24
  · exact pok25
  · exact pok26
  · exact pok27
  · exact pok28
  · exact pok29
theorem pk_30 : ∀ j, 30 ≤ j → j < 40 → pOk j := by
  intro j h1 h2
  rcases (show j = 30 ∨ j = 31 ∨ j = 32 ∨ j = 33 ∨ j = 34 ∨ j = 35 ∨ j = 36 ∨ j = 37 ∨ j = 38 ∨ j = 39 by omega) with rfl | rfl | rfl | rfl | rfl | rfl | rfl | rfl | rfl | rfl
  · exact pok30
  · exact pok31
  · exact pok32
  · exact pok33
  · exact pok34
  · exact pok35
  · exact pok36
  · exact pok37
  · exact pok38
  · exact pok39
theorem pk_40 : ∀ j, 40 ≤ j → j < 50 → pOk j := by
  intro j h1 h2
  rcases (show j = 40 ∨ j = 41 ∨ j = 42 ∨ j = 43 ∨ j = 44 ∨ j = 45 ∨ j = 46 ∨ j = 47 ∨ j = 48 ∨ j = 49 by omega) with rfl | rfl | rfl | rfl | rfl | rfl | rfl | rfl | rfl | rfl
  · exact pok40
  · exact pok41
  · exact pok42
  · exact pok43
  · exact pok44
  · exact pok45
  · exact pok46
  · exact pok47
  · exact pok48
  · exact pok49
theorem pk_50 : ∀ j, 50 ≤ j → j < 60 → pOk j := by
  intro j h1 h2
  rcases (show j = 50 ∨ j = 51 ∨ j = 52 ∨ j = 53 ∨ j = 54 ∨ j = 55 ∨ j = 56 ∨ j = 57 ∨ j = 58 ∨ j = 59 by omega) with rfl | rfl | rfl | rfl | rfl | rfl | rfl | rfl | rfl | rfl
  · exact pok50
  · exact pok51
  · exact pok52
  · exact pok53
  · exact pok54
  · exact pok55
  · exact pok56
  · exact pok57
  · exact pok58
  · exact pok59
theorem pk_60 : ∀ j, 60 ≤ j → j < 70 → pOk j := by
  intro j h1 h2
  rcases (show j = 60 ∨ j = 61 ∨ j = 62 ∨ j = 63 ∨ j = 64 ∨ j = 65 ∨ j = 66 ∨ j = 67 ∨ j = 68 ∨ j = 69 by omega) with rfl | rfl | rfl | rfl | rfl | rfl | rfl | rfl | rfl | rfl
  · exact pok60
  · exact pok61
  · exact pok62
  · exact pok63
  · exact pok64
  · exact pok65
  · exact pok66
  · exact pok67
  · exact pok68
  · exact pok69
theorem pk_70 : ∀ j, 70 ≤ j → j < 80 → pOk j := by
  intro j h1 h2
  rcases (show j = 70 ∨ j = 71 ∨ j = 72 ∨ j = 73 ∨ j = 74 ∨ j = 75 ∨ j = 76 ∨ j = 77 ∨ j = 78 ∨ j = 79 by omega) with rfl | rfl | rfl | rfl | rfl | rfl | rfl | rfl | rfl | rfl
  · exact pok70
  · exact pok71
  · exact pok72
  · exact pok73
  · exact pok74
  · exact pok75
  · exact pok76
  · exact pok77
  · exact pok78
  · exact pok79
theorem pk_80 : ∀ j, 80 ≤ j → j < 90 → pOk j := by
  intro j h1 h2
  rcases (show j = 80 ∨ j = 81 ∨ j = 82 ∨ j = 83 ∨ j = 84 ∨ j = 85 ∨ j = 86 ∨ j = 87 ∨ j = 88 ∨ j = 89 by omega) with rfl | rfl | rfl | rfl | rfl | rfl | rfl | rfl | rfl | rfl
  · exact pok80
  · exact pok81
  · exact pok82
  · exact pok83
  · exact pok84
  · exact pok85
  · exact pok86
  · exact pok87
  · exact pok88
  · exact pok89
theorem pk_90 : ∀ j, 90 ≤ j → j < 100 → pOk j := by
  intro j h1 h2
  rcases (show j = 90 ∨ j = 91 ∨ j = 92 ∨ j = 93 ∨ j = 94 ∨ j = 95 ∨ j = 96 ∨ j = 97 ∨ j = 98 ∨ j = 99 by omega) with rfl | rfl | rfl | rfl | rfl | rfl | rfl | rfl | rfl | rfl
  · exact pok90
  · exact pok91
  · exact pok92
  · exact pok93
  · exact pok94
  · exact pok95
  · exact pok96
  · exact pok97
  · exact pok98
  · exact pok99
theorem pk_100 : ∀ j, 100 ≤ j → j < 110 → pOk j := by
  intro j h1 h2
  rcases (show j = 100 ∨ j = 101 ∨ j = 102 ∨ j = 103 ∨ j = 104 ∨ j = 105 ∨ j = 106 ∨ j = 107 ∨ j = 108 ∨ j = 109 by omega) with rfl | rfl | rfl | rfl | rfl | rfl | rfl | rfl | rfl | rfl
  · exact pok100
  · exact pok101
  · exact pok102
  · exact pok103
  · exact pok104
  · exact pok105
  · exact pok106
  · exact pok107
  · exact pok108
  · exact pok109
theorem pk_110 : ∀ j, 110 ≤ j → j < 120 → pOk j := by
  intro j h1 h2
  rcases (show j = 110 ∨ j = 111 ∨ j = 112 ∨ j = 113 ∨ j = 114 ∨ j = 115 ∨ j = 116 ∨ j = 117 ∨ j = 118 ∨ j = 119 by omega) with rfl | rfl | rfl | rfl | rfl | rfl | rfl | rfl | rfl | rfl
  · exact pok110
  · exact pok111
  · exact pok112
  · exact pok113
  · exact pok114
  · exact pok115
  · exact pok116
  · exact pok117
  · exact pok118
  · exact pok119
theorem pk_120 : ∀ j, 120 ≤ j → j < 130 → pOk j := by
  intro j h1 h2
  rcases (show j = 120 ∨ j = 121 ∨ j = 122 ∨ j = 123 ∨ j = 124 ∨ j = 125 ∨ j = 126 ∨ j = 127 ∨ j = 128 ∨ j = 129 by omega) with rfl | rfl | rfl | rfl | rfl | rfl | rfl | rfl | rfl | rfl
  · exact pok120
  · exact pok121
  · exact pok122
  · exact pok123
  · exact pok124
  · exact pok125
  · exact pok126
  · exact pok127
  · exact pok128
  · exact pok129
theorem pk_130 : ∀ j, 130 ≤ j → j < 140 → pOk j := by
  intro j h1 h2
  rcases (show j = 130 ∨ j = 131 ∨ j = 132 ∨ j = 133 ∨ j = 134 ∨ j = 135 ∨ j = 136 ∨ j = 137 ∨ j = 138 ∨ j = 139 by omega) with rfl | rfl | rfl | rfl | rfl | rfl | rfl | rfl | rfl | rfl
  · exact pok130
  · exact pok131
  · exact pok132
  · exact pok133
  · exact pok134
  · exact pok135
  · exact pok136
  · exact pok137
  · exact pok138
  · exact pok139
theorem pk_140 : ∀ j, 140 ≤ j → j < 150 → pOk j := by
  intro j h1 h2
  rcases (show j = 140 ∨ j = 141 ∨ j = 142 ∨ j = 143 ∨ j = 144 ∨ j = 145 ∨ j = 146 ∨ j = 147 ∨ j = 148 ∨ j = 149 by omega) with rfl | rfl | rfl | rfl | rfl | rfl | rfl | rfl | rfl | rfl
  · exact pok140
  · exact pok141
  · exact pok142
  · exact pok143
  · exact pok144
  · exact pok145
  · exact pok146
  · exact pok147
  · exact pok148
  · exact pok149
theorem pk_150 : ∀ j, 150 ≤ j → j < 160 → pOk j := by
  intro j h1 h2
  rcases (show j = 150 ∨ j = 151 ∨ j = 152 ∨ j = 153 ∨ j = 154 ∨ j = 155 ∨ j = 156 ∨ j = 157 ∨ j = 158 ∨ j = 159 by omega) with rfl | rfl | rfl | rfl | rfl | rfl | rfl | rfl | rfl | rfl
  · exact pok150
  · exact pok151
  · exact pok152
  · exact pok153
  · exact pok154
  · exact pok155
  · exact pok156
  · exact pok157
  · exact pok158
  · exact pok159
theorem pk_160 : ∀ j, 160 ≤ j → j < 163 → pOk j := by
  intro j h1 h2
  rcases (show j = 160 ∨ j = 161 ∨ j = 162 by omega) with rfl | rfl | rfl
  · exact pok160
  · exact pok161
  · exact pok162
theorem pok_all : ∀ j, j < 163 → pOk j := by
  intro j h
  by_cases q0 : j < 10
  · exact pk_0 j (by omega) q0
  by_cases q10 : j < 20
  · exact pk_10 j (by omega) q10
  by_cases q20 : j < 30
  · exact pk_20 j (by omega) q20
  by_cases q30 : j < 40
  · exact pk_30 j (by omega) q30
  by_cases q40 : j < 50
  · exact pk_40 j (by omega) q40
  by_cases q50 : j < 60
  · exact pk_50 j (by omega) q50
  by_cases q60 : j < 70
  · exact pk_60 j (by omega) q60
  by_cases q70 : j < 80
  · exact pk_70 j (by omega) q70
  by_cases q80 : j < 90
  · exact pk_80 j (by omega) q80
  by_cases q90 : j < 100
  · exact pk_90 j (by omega) q90
  by_cases q100 : j < 110
  · exact pk_100 j (by omega) q100
  by_cases q110 : j < 120
  · exact pk_110 j (by omega) q110
  by_cases q120 : j < 130
  · exact pk_120 j (by omega) q120
  by_cases q130 : j < 140
  · exact pk_130 j (by omega) q130
  by_cases q140 : j < 150
  · exact pk_140 j (by omega) q140
  by_cases q150 : j < 160
  · exact pk_150 j (by omega) q150
  exact pk_160 j (by omega) h
end
section
/-! ===== calls, ends, and the whole ===== -/
def QM (w : wd) (Qp : resP) : State → Outcome → State → Prop := fun st oc t => (∃ (r : Option Value) (h' : hp), oc = .returned (r.map (cv w)) ∧ Qp r h' ∧ HR w h' t.heap) ∧ va_F (wAf w) st t
def MetP (l : Launch) (w : wd) (d i : Nat) (as : List Value) (h : hp) (mc ms : Nat) (Qp : resP) : Prop :=
  Met l (mY i) (Cond.code (mY i) (mC i) (mL i) (mRt i) :: gT) { frames := d, cells := mc, slots := ms, locals := 40 * d } (va_Pc (as.map (cv w)) (fun U => HR w h U.heap ∧ SK w U)) (fun _ => QM w Qp) mc ms (wAf w)
section SN4
variable {p : Program} {l : Launch} {e : Env} {R : Room} {s : State} {m : MethodId} {args : Array Value} {below : List Frame} {meth : Method} {c : Code} {Q : State → Prop} {w : wd} {j : Nat}
theorem init_none : ∀ e ∈ mRest, e.1.name = "<init>" → e.2.2.2.1 = none := by decide +kernel
theorem oN_cl : ∀ ci, ci < 10 → oN ci = clR ci := by
  intro ci h
  rcases (show ci = 0 ∨ ci = 1 ∨ ci = 2 ∨ ci = 3 ∨ ci = 4 ∨ ci = 5 ∨ ci = 6 ∨ ci = 7 ∨ ci = 8 ∨ ci = 9 by omega) with e | e | e | e | e | e | e | e | e | e <;> subst e <;> rfl
theorem toList_map (w : wd) (v : Option Value) : v.toList.map (cv w) = (v.map (cv w)).toList := by cases v <;> rfl
theorem call_end {Y : cfgP} (hY : ∀ pc ls st h bc bs, Y pc ls st h bc bs → XM p l e R s m args below meth c Q w j pc ls st h bc bs) {H : Heap} {locs : List Loc} {cells slots mc ms pc bc bs : Nat} {lsA : Array Slot} {st0 rest : List Value} {Qc : resP} {ls : List (Nat × Value)}
    (hrun : va_Run p l e R s m args below meth c H locs cells slots mc ms (F0 m pc lsA st0) (rest.map (cv w)) (QM w Qc) (wAf w)) (hk : ∀ (v : Option Value) (h' : hp), Qc v h' → Y (pc + 3) ls (v.toList ++ rest) h' (bc - mc) (bs - ms))
    (hS : va_S (wAf w) s.heap H locs) (hl : lv_has lsA (mL j) (ls.map (cw w))) (hbc : cells + bc ≤ R.cells) (hbs : slots + bs ≤ R.slots) (h1 : mc ≤ bc) (h2 : ms ≤ bs) : W p l e R s m args below meth c H locs cells slots Q (F0 m pc lsA st0) := by
  intro T hT X
  obtain ⟨v, st₀, t, T', L, h0, X', hL, e1, e2, ⟨⟨r, h', hv, hq, hHR⟩, hz, hkk⟩, st⟩ := hrun T hT X
  have hv : v = r.map (cv w) := by injection hv
  subst hv
  rw [h0] at hz hkk
  have hW := hY _ _ _ _ _ _ (hk r h' hq) T'.heap (locs ++ L) (cells + mc) (slots + ms) lsA (by rw [e1]; exact hHR)
    ⟨Nat.le_trans hS.1 (by rw [e1]; exact hz), fun q g1 g2 => by rw [e1, hkk q (Nat.lt_of_lt_of_le g1 hS.1) g2]; exact hS.2.1 q g1 g2, fun q hq => by
      rcases List.mem_append.mp hq with h | h
      · exact hS.2.2 q h
      · exact hL q h⟩ hl (by omega) (by omega)
  rw [List.map_append, toList_map] at hW
  obtain ⟨t2, a1, b1⟩ := hW T' rfl X'
  exact ⟨t2, st t2 a1, b1⟩
theorem pre_blind {w : wd} {h : hp} {av : List Value} : FrameBlind (va_Pc av (fun U => HR w h U.heap ∧ SK w U)) := by
  intro a U g mk hp0
  obtain ⟨h1, h2, h3⟩ := hp0
  exact ⟨h1, h2, SK.moved (u := U) (U := U.calling g mk a) (State.WarmedH.refl U) (fun _ _ _ => rfl) (Nat.le_refl _) h3⟩
theorem pre_U {w : wd} {h : hp} {H : Heap} {locs : List Loc} (hsk : SK w s) (hr : HR w h H) (hS : va_S (wAf w) s.heap H locs) : ∀ U : State, U.heap = H → s.WarmedH U.vm → HR w h U.heap ∧ SK w U := fun U hU hW =>
  ⟨by rw [hU]; exact hr, SK.moved hW (fun q h1 h2 => by rw [hU]; exact hS.2.1 q h1 h2) (by rw [hU]; exact hS.1) hsk⟩
theorem split_stack {st r : List Value} {n a : Nat} (w : wd) (hd : st.drop n = .ref a :: r) : ((st.take n).reverse.map (cv w)).length = n ∧ st.map (cv w) = ((st.take n).reverse.map (cv w)).reverse ++ .ref (adr w a) :: r.map (cv w) := by
  have hlt : n < st.length := by
    rcases Nat.lt_or_ge n st.length with q | q
    · exact q
    · rw [List.drop_eq_nil_of_le q] at hd
      cases hd
  refine ⟨by rw [List.length_map, List.length_reverse, List.length_take]; omega, ?_⟩
  rw [← List.map_reverse, List.reverse_reverse]
  conv => lhs; rw [← List.take_append_drop n st, hd]
  rw [List.map_append]
  rfl
theorem split_stack0 {st : List Value} {n : Nat} (w : wd) (hd : n ≤ st.length) : ((st.take n).reverse.map (cv w)).length = n ∧ st.map (cv w) = ((st.take n).reverse.map (cv w)).reverse ++ (st.drop n).map (cv w) := by
  refine ⟨by rw [List.length_map, List.length_reverse, List.length_take]; omega, ?_⟩
  rw [← List.map_reverse, List.reverse_reverse, ← List.map_append, List.take_append_drop]
theorem callee_in {i : Nat} (h0 : 0 < i) (h : i < 163) : GoodIn gT (Cond.code (mY i) (mC i) (mL i) (mRt i) :: gT) := gT_good (fun x hx => by
  rcases List.mem_cons.mp hx with rfl | hx
  · exact mRest_code _ (mE_in h0 h)
  · exact hx)
set_option maxHeartbeats 4000000 in
theorem sn_call (cx : Cx p s m args meth c j w) {Y : cfgP} (hY : ∀ pc ls st h bc bs, Y pc ls st h bc bs → XM p l e R s m args below meth c Q w j pc ls st h bc bs) {C : callP} {Qp : resP} {ins : Instr} {len pc : Nat} {ls : List (Nat × Value)} {st : List Value} {h : hp} {bc bs : Nat} {d : Nat}
    (hRf : d + 1 ≤ R.frames) (hRl : 40 * d + 40 ≤ R.locals) (hC : ∀ (i : Nat) (as : List Value) (h : hp) (mc ms : Nat) (Qc : resP), 0 < i → i < 163 → C i as h mc ms Qc → MetP l w d i as h mc ms Qc)
    (hpl : match ins with | .invokevirtual _ | .invokestatic _ | .invokespecial _ => True | _ => False)
    (hm : (pc, ins, ilen ins len) ∈ pt j) (hs : stepI C j Qp Y ins len pc ls st h bc bs) : XM p l e R s m args below meth c Q w j pc ls st h bc bs := by
  obtain ⟨hx, hb, hml, hown, hts, hsk, hok, hin⟩ := cx
  have hd := hok _ hm
  intro H locs cells slots lsA hr hS hl hbc hbs
  have hfix : CallFix p m c (mC j) (mL j) s args gT (oN (mO j)) := ⟨hx, hb, hml, hown, hts⟩
  cases ins with
  | invokevirtual i =>
    obtain ⟨hk1, hs⟩ := hs
    obtain ⟨hi, hq⟩ := cres_in (o := mO j) (i := i) (by rw [hk1]; decide)
    have hok := ctab_ok _ hq
    dsimp only at hok
    rw [(key_dm hi).1, (key_dm hi).2] at hok
    generalize hf : cres (mO j) i = f at *
    obtain ⟨kd, ca, n, q⟩ := f
    dsimp only at hk1 hs hok
    subst hk1
    obtain ⟨-, -, -, -, -, o1, o2, -, o3, -, -⟩ := hok
    obtain ⟨c0, c1, o1⟩ := o1 (by decide) (by decide)
    have o2 := o2 (Or.inl rfl)
    obtain ⟨o3, o4⟩ := o3 rfl
    obtain ⟨m1, m2, m3, m4, m5, m6⟩ := mRest_ok _ (mE_in c0 c1)
    split at hs
    · next a r hdrop =>
      obtain ⟨hka, h8, mc, ms, Qc, g1, g2, hCc, hk⟩ := hs
      obtain ⟨t1, t2⟩ := split_stack w hdrop
      have hci : mO ca < 10 := by have := hr.1.2.2.2.2.2.2.2.2 a (by rw [hka]); rw [hka] at this; exact this
      obtain ⟨cell, q1, q2, q3, -⟩ := hr.obj hka
      have hfc := (hsk.1.1 (mO ca) _ (cl_at _ hci)).2.1
      refine call_end hY (st0 := st.map (cv w)) (rest := r) ?_ hk hS hl hbc hbs g1 g2
      exact va_runV (C := (mY ca).cls) (b := adr w a) (As := (st.take n).reverse.map (cv w)) (rest := r.map (cv w)) hfix (hC ca _ h mc ms Qc c0 c1 hCc)
        ⟨callB_of n hts (callee_in c0 c1) rfl rfl rfl (hts _ (inG m2 rfl)) (hts _ (inG o2 rfl)) ⟨m4, m5, o1⟩ ⟨hRf, by show 8 + (mL ca + 11) + 40 * d ≤ _; have : mL ca ≤ 21 := m6; omega⟩, hts _ (inG o3 rfl), hts _ (inG o4 rfl)⟩
        ⟨pre_blind, ⟨cell, q1, by rw [q3]; rfl, by rw [q2, ← m3]; show s.vm.findClass (oN (mO ca)) = _; rw [oN_cl _ hci]; exact hfc⟩, fun U hU hW => ⟨rfl, pre_U hsk hr hS U hU hW⟩⟩
        rfl t1 hl.1 t2 (lv_room (by rw [cats_cv]; exact h8)) hd ⟨by omega, by omega⟩
    · exact hs.elim
  | invokestatic i =>
    rcases hs with ⟨hk1, hlen, h8, mc, ms, Qc, g1, g2, hCc, hk⟩ | ⟨hk1, hs⟩ | ⟨hk1, hs⟩
    · obtain ⟨hi, hq⟩ := cres_in (o := mO j) (i := i) (by rw [hk1]; decide)
      have hok := ctab_ok _ hq
      dsimp only at hok
      rw [(key_dm hi).1, (key_dm hi).2] at hok
      generalize hf : cres (mO j) i = f at *
      obtain ⟨kd, ca, n, q⟩ := f
      dsimp only at hk1 hlen h8 hCc hk hok
      subst hk1
      obtain ⟨-, -, -, -, -, o1, o2, -, -, o3, -⟩ := hok
      obtain ⟨c0, c1, o1⟩ := o1 (by decide) (by decide)
      have o2 := o2 (Or.inr (Or.inl rfl))
      have o3 := o3 rfl
      obtain ⟨m1, m2, m3, m4, m5, m6⟩ := mRest_ok _ (mE_in c0 c1)
      obtain ⟨t1, t2⟩ := split_stack0 w hlen
      refine call_end hY (st0 := st.map (cv w)) (rest := st.drop n) ?_ hk hS hl hbc hbs g1 g2
      exact va_runS (As := (st.take n).reverse.map (cv w)) (rest := (st.drop n).map (cv w)) hfix (hC ca _ h mc ms Qc c0 c1 hCc)
        ⟨callB_of n hts (callee_in c0 c1) rfl rfl rfl (hts _ (inG m2 rfl)) (hts _ (inG o2 rfl)) ⟨m4, m5, o1⟩ ⟨hRf, by show 8 + (mL ca + 11) + 40 * d ≤ _; have : mL ca ≤ 21 := m6; omega⟩, hts _ (inG o3 rfl)⟩
        ⟨pre_blind, fun U hU hW => ⟨rfl, pre_U hsk hr hS U hU hW⟩⟩
        rfl t1 hl.1 t2 (lv_room (by rw [cats_cv]; exact h8)) hd ⟨by omega, by omega⟩
    · obtain ⟨x, y, r, rfl, h8, hs⟩ := oII_inv hs
      obtain ⟨hi, hq⟩ := cres_in (o := mO j) (i := i) (by rw [hk1]; decide)
      have hok := ctab_ok _ hq
      dsimp only at hok
      rw [(key_dm hi).1, (key_dm hi).2] at hok
      have o2 := hok.2.2.1 hk1
      obtain ⟨x1, x2, x3⟩ := math_words
      exact va_mmax hx hb (by rw [hml]; exact hl.1.symm) hown (hts _ (inG o2 rfl)) (hts _ (inG x1 rfl)) (hts _ (inG x3 rfl)) (hts _ (inG math_max rfl)) (by omega) (by rw [cats_cv]; omega) (by omega) (by omega) hd (hY _ _ _ _ _ _ hs H locs cells slots lsA hr hS hl hbc hbs)
    · obtain ⟨x, y, r, rfl, h8, hs⟩ := oII_inv hs
      obtain ⟨hi, hq⟩ := cres_in (o := mO j) (i := i) (by rw [hk1]; decide)
      have hok := ctab_ok _ hq
      dsimp only at hok
      rw [(key_dm hi).1, (key_dm hi).2] at hok
      have o2 := hok.2.2.2.1 hk1
      obtain ⟨x1, x2, x3⟩ := math_words
      exact va_mmin hx hb (by rw [hml]; exact hl.1.symm) hown (hts _ (inG o2 rfl)) (hts _ (inG x2 rfl)) (hts _ (inG x3 rfl)) (hts _ (inG math_min rfl)) (by omega) (by rw [cats_cv]; omega) (by omega) (by omega) hd (hY _ _ _ _ _ _ hs H locs cells slots lsA hr hS hl hbc hbs)
  | invokespecial i =>
    rcases hs with ⟨hk1, hs⟩ | ⟨hk1, hs⟩
    · obtain ⟨a, r, rfl, h8, hs⟩ := oA_inv hs
      obtain ⟨hi, hq⟩ := cres_in (o := mO j) (i := i) (by rw [hk1]; decide)
      have hok := ctab_ok _ hq
      dsimp only at hok
      rw [(key_dm hi).1, (key_dm hi).2] at hok
      have o2 := hok.2.2.2.2.1 hk1
      obtain ⟨x1, x2⟩ := obj_words
      refine W.objInit hx hb hown (hts _ (inG o2 rfl)) (hts _ (inG x1 rfl)) (hts _ (inG x2 rfl)) rfl (by rw [hml]; exact hl.1) rfl hd (by omega) ?_ (hY _ _ _ _ _ _ hs H locs cells slots lsA hr hS hl hbc hbs)
      have := lv_room (m := m) (pc := pc) (ls := lsA) (rest := (Value.ref a :: r).map (cv w)) (st := r.map (cv w)) (by rw [cats_cv]; exact h8)
      omega
    · obtain ⟨hi, hq⟩ := cres_in (o := mO j) (i := i) (by rcases hk1 with e | e <;> rw [e] <;> decide)
      have hok := ctab_ok _ hq
      dsimp only at hok
      rw [(key_dm hi).1, (key_dm hi).2] at hok
      generalize hf : cres (mO j) i = f at *
      obtain ⟨kd, ca, n, q⟩ := f
      dsimp only at hk1 hs hok
      obtain ⟨-, -, -, -, -, o1, o2, o5, -, -, o3⟩ := hok
      obtain ⟨c0, c1, n1⟩ := o1 (by omega) (by omega)
      obtain ⟨n3, n4⟩ := o3 hk1
      obtain ⟨m1, m2, m3, m4, m5, m6⟩ := mRest_ok _ (mE_in c0 c1)
      split at hs
      · next a r hdrop =>
        obtain ⟨h8, mc, ms, Qc, g1, g2, hCc, hk⟩ := hs
        obtain ⟨t1, t2⟩ := split_stack w hdrop
        have hRR : d + 1 ≤ R.frames ∧ 8 + (mL ca + 11) + 40 * d ≤ R.locals := ⟨hRf, by have : mL ca ≤ 21 := m6; omega⟩
        have hret : mRt ca = none := init_none _ (mE_in c0 c1) n4
        have hM := hC ca _ h mc ms Qc c0 c1 hCc
        refine call_end hY (st0 := st.map (cv w)) (rest := r) ?_ hk hS hl hbc hbs g1 g2
        rcases hk1 with rfl | rfl
        · have o2 := o2 (Or.inr (Or.inr rfl))
          have cb := callB_of (Ts := gT) (R := R) (s := s) (args := args) (own := oN (mO j)) (index := i) (y := mY ca) (bytes := mC ca) (maxL := mL ca) (ret := mRt ca) (ws := Cond.code (mY ca) (mC ca) (mL ca) (mRt ca) :: gT) (ws' := gT) (rm := { frames := d, cells := mc, slots := ms, locals := 40 * d }) (mc := mc) (ms := ms) n hts (callee_in c0 c1) rfl rfl rfl (hts _ (inG m2 rfl)) (hts _ (inG o2 rfl)) ⟨m4, m5, n1⟩ hRR
          rw [hret] at cb
          exact va_runI (b := adr w a) (As := (st.take n).reverse.map (cv w)) (rest := r.map (cv w)) hfix hM ⟨by rw [hret]; exact cb, n4, hts _ (inG n3 rfl)⟩
            ⟨pre_blind, fun U hU hW => ⟨rfl, pre_U hsk hr hS U hU hW⟩⟩
            rfl t1 hl.1 t2 (lv_room (by rw [cats_cv]; exact h8)) hd ⟨by omega, by omega⟩
        · have o5 := hsk.2.2.2.2.2.2.2.1 _ hq rfl
          dsimp only at o5
          rw [(key_dm hi).1, (key_dm hi).2] at o5
          have cb := va_cnB (Ts := gT) (R := R) (s := s) (args := args) (own := oN (mO j)) (host := RX8) (index := i) (y := mY ca) (bytes := mC ca) (maxL := mL ca) (ret := mRt ca) (ws := Cond.code (mY ca) (mC ca) (mL ca) (mRt ca) :: gT) (ws' := gT) (rm := { frames := d, cells := mc, slots := ms, locals := 40 * d }) (mc := mc) (ms := ms) n hts (callee_in c0 c1) rfl rfl rfl o5 (hts _ (inG m2 rfl)) ⟨m4, m5, n1⟩ hRR
          rw [hret] at cb
          exact va_runIN (b := adr w a) (As := (st.take n).reverse.map (cv w)) (rest := r.map (cv w)) hfix hM ⟨by rw [hret]; exact cb, n4, hts _ (inG n3 rfl)⟩
            ⟨pre_blind, fun U hU hW => ⟨rfl, pre_U hsk hr hS U hU hW⟩⟩
            rfl t1 hl.1 t2 (lv_room (by rw [cats_cv]; exact h8)) hd ⟨by omega, by omega⟩
      · exact hs.elim
  | _ => exact hpl.elim
theorem lg_len : ∀ vs : List Value, (lg_sl vs).length = cats vs
  | [] => rfl
  | v :: r => by
    have ih := lg_len r
    have e : lg_sl (v :: r) = (if v.category = 2 then [Slot.val v, .second] else [.val v]) ++ lg_sl r := by simp [lg_sl]
    have e2 : cats (v :: r) = v.category + cats r := by simp [cats]
    rw [e, e2, List.length_append, ih]
    rcases lv_cat v with q | q
    · rw [if_neg (by omega), q]
      rfl
    · rw [if_pos q, q]
      rfl
theorem retK_inv {rt : Option FieldType} {ins : Instr} {st : List Value} {K : Option Value → Prop} (h : retK rt ins st K) :
    (ins = .return_ ∧ rt = none ∧ st = [] ∧ K none) ∨ (∃ x, ins = .ireturn ∧ rt = some .int ∧ st = [.int x] ∧ K (some (.int x))) ∨ (∃ x : Int32, ins = .ireturn ∧ rt = some .boolean ∧ st = [.int x] ∧ (x = 0 ∨ x = 1) ∧ K (some (.int x))) ∨
    (∃ x, ins = .lreturn ∧ rt = some .long ∧ st = [.long x] ∧ K (some (.long x))) ∨ (∃ n a, ins = .areturn ∧ rt = some (.object n) ∧ st = [.ref a] ∧ K (some (.ref a))) ∨ (∃ n, ins = .areturn ∧ rt = some (.object n) ∧ st = [.null] ∧ K (some .null)) := by
  unfold retK at h
  split at h
  · exact Or.inl ⟨rfl, rfl, rfl, h⟩
  · exact Or.inr (Or.inl ⟨_, rfl, rfl, rfl, h⟩)
  · exact Or.inr (Or.inr (Or.inl ⟨_, rfl, rfl, rfl, h⟩))
  · exact Or.inr (Or.inr (Or.inr (Or.inl ⟨_, rfl, rfl, rfl, h⟩)))
  · exact Or.inr (Or.inr (Or.inr (Or.inr (Or.inl ⟨_, _, rfl, rfl, rfl, h⟩))))
  · exact Or.inr (Or.inr (Or.inr (Or.inr (Or.inr ⟨_, rfl, rfl, rfl, h⟩))))
  · exact h.elim
/-- the pure machine's answer is the machine's -/
theorem wp_sound (cx : Cx p s m args meth c j w) {C : callP} {Qp : resP} {d : Nat}
    (hRf : d + 1 ≤ R.frames) (hRl : 40 * d + 40 ≤ R.locals) (hC : ∀ (i : Nat) (as : List Value) (h : hp) (mc ms : Nat) (Qc : resP), 0 < i → i < 163 → C i as h mc ms Qc → MetP l w d i as h mc ms Qc)
    (hret : ∀ (ins : Instr) (pc : Nat) (st : List Value) (h : hp) (H : Heap) (locs : List Loc) (cells slots : Nat) (lsA : Array Slot), decode (mC j) pc = .ok (ins, 1) → retK (mRt j) ins st (fun v => Qp v h) → HR w h H → va_S (wAf w) s.heap H locs → cells ≤ R.cells → slots ≤ R.slots → W p l e R s m args below meth c H locs cells slots Q (F0 m pc lsA (st.map (cv w))))
    {pc : Nat} {ls : List (Nat × Value)} {st : List Value} {h : hp} {bc bs : Nat} (hw : Wp C j Qp pc ls st h bc bs) : XM p l e R s m args below meth c Q w j pc ls st h bc bs := by
  refine hw (XM p l e R s m args below meth c Q w j) (fun Y hY pc ls st h bc bs hstep => ?_)
  obtain ⟨ins, len, hm, hs⟩ := hstep
  have hd := cx.2.2.2.2.2.2.1 _ hm
  cases ins with
  | putfield i => exact sn_put cx hY hm hs
  | newarray t => exact sn_newa cx hY hm hs
  | multianewarray i dm => exact sn_grid cx hY hm hs
  | new i => exact sn_new cx hY hm hs
  | invokevirtual i => exact sn_call cx hY hRf hRl hC trivial hm hs
  | invokestatic i => exact sn_call cx hY hRf hRl hC trivial hm hs
  | invokespecial i => exact sn_call cx hY hRf hRl hC trivial hm hs
  | iastore => exact sn_store cx hY trivial hm hs
  | bastore => exact sn_store cx hY trivial hm hs
  | lastore => exact sn_store cx hY trivial hm hs
  | return_ => exact fun H locs cells slots lsA hr hS hl hbc hbs => hret _ pc st h H locs cells slots lsA hd hs hr hS (by omega) (by omega)
  | ireturn => exact fun H locs cells slots lsA hr hS hl hbc hbs => hret _ pc st h H locs cells slots lsA hd hs hr hS (by omega) (by omega)
  | lreturn => exact fun H locs cells slots lsA hr hS hl hbc hbs => hret _ pc st h H locs cells slots lsA hd hs hr hS (by omega) (by omega)
  | areturn => exact fun H locs cells slots lsA hr hS hl hbc hbs => hret _ pc st h H locs cells slots lsA hd hs hr hS (by omega) (by omega)
  | _ => exact sn_plain cx hY trivial hm hs
end SN4
set_option maxHeartbeats 4000000 in
/-- every method: what the pure machine says of it is its contract -/
theorem ex_sound (l : Launch) (w : wd) : ∀ (d i : Nat) (as : List Value) (h : hp) (mc ms : Nat) (Qp : resP), 0 < i → i < 163 → Ex d i as h mc ms Qp → MetP l w d i as h mc ms Qp := by
  intro d
  induction d with
  | zero => exact fun _ _ _ _ _ _ _ _ hx => hx.elim
  | succ d ih =>
    intro i as h mc ms Qp h0 h1 hE
    obtain ⟨hcat, hwp⟩ := hE
    obtain ⟨m1, m2, m3, m4, m5, m6⟩ := mRest_ok _ (mE_in h0 h1)
    refine Met.ofW (cc := mC i) (maxL := mL i) (ret := mRt i) m1 rfl ?_
    intro p e s m args below meth c s₁ B hml hv
    obtain ⟨rfl, hHR, hSK⟩ := hv
    have hts := atoms_spec (ws := Cond.code (mY i) (mC i) (mL i) (mRt i) :: gT) B.pre
    have hown : s.vm.findClass (mY i).cls = some m.cls := findClass_of_methodNamed B.named
    have hlocks := B.notSynchronized
    have hr : meth.sig.returnType = mRt i := B.returns
    have hx := B.exec
    have hb : c.code = mC i := B.bytes
    have hin : meth.name = (mY i).name := (name_of_methodNamed B.named B.method).1
    have cx : Cx p s m (as.map (cv w)).toArray meth c i w := ⟨hx, hb, hml, by rw [← hown]; exact congrArg s.vm.findClass m3, fun x hx => hts x (List.mem_cons_of_mem _ hx), hSK, pok_all i h1, fun q => hin.trans q⟩
    have hl := lv_entry (as.map (cv w)) (n := mL i) (by rw [lg_len]; have := cats_cv w as; unfold cats; rw [this]; exact hcat)
    rw [args_map] at hl
    rw [lg_entry_eq]
    refine wp_sound cx (R := (headSpec (Cond.code (mY i) (mC i) (mL i) (mRt i) :: gT) { frames := d + 1, cells := mc, slots := ms, locals := 40 * (d + 1) }).room) (d := d) (Nat.le_refl _) (by show 40 * d + 40 ≤ 40 * (d + 1); omega) ih ?_ hwp s.heap [] 0 0 _ hHR va_S.rf hl (by show 0 + mc ≤ mc; omega) (by show 0 + ms ≤ ms; omega)
    intro ins pc st h2 H locs cells slots lsA hd hrk hr2 hS hc1 hc2
    refine W.widen (k := mc) (n := ms) hc1 hc2 ?_
    rcases retK_inv hrk with ⟨rfl, e2, rfl, hq⟩ | ⟨x, rfl, e2, rfl, hq⟩ | ⟨x, rfl, e2, rfl, hb01, hq⟩ | ⟨x, rfl, e2, rfl, hq⟩ | ⟨n, a, rfl, e2, rfl, hq⟩ | ⟨n, rfl, e2, rfl, hq⟩
    · exact W.vret hx hb (hr.trans e2) (fun t ht hW => ⟨⟨_, h2, rfl, hq, by rw [ht]; exact hr2⟩, hS.F ht⟩) hS.2.2 hd
    · exact W.iret hx hb (hr.trans e2) (fun t ht hW => ⟨⟨_, h2, rfl, hq, by rw [ht]; exact hr2⟩, hS.F ht⟩) hS.2.2 hd
    · exact W.zret hx hb (hr.trans e2) (by rcases hb01 with rfl | rfl <;> decide) (fun t ht hW => ⟨⟨_, h2, rfl, hq, by rw [ht]; exact hr2⟩, hS.F ht⟩) hS.2.2 hd
    · exact W.lret hx hb (hr.trans e2) (fun t ht hW => ⟨⟨_, h2, rfl, hq, by rw [ht]; exact hr2⟩, hS.F ht⟩) hS.2.2 hd
    · exact W.aret hx hb (hr.trans e2) (Or.inl ⟨_, rfl⟩) (Or.inr ⟨_, rfl⟩) (fun t ht hW => ⟨⟨some (.ref a), h2, rfl, hq, by rw [ht]; exact hr2⟩, hS.F ht⟩) hS.2.2 hd
    · exact W.aret hx hb (hr.trans e2) (Or.inl ⟨_, rfl⟩) (Or.inl rfl) (fun t ht hW => ⟨⟨some .null, h2, rfl, hq, by rw [ht]; exact hr2⟩, hS.F ht⟩) hS.2.2 hd
end
section
/-! THE CLAIM OUT OF ONE WALK OF THE LAW'S BODY. Your part is whole_start (and what it stands on); all else here is the same for every law, but numbers. -/
def R_law : String := "SweepBenchLaw"
def lw_P (b : Addr) (xs : List Int32) (args : Array Value) (s : State) : Prop := args = #[.ref b] ∧ s.IntsAt b xs ∧ xs.length ≤ 3072 ∧ (Jvm.Cond.and given_1 narrow_1).before args s = true
def lw_Q (_ : Array Value) (s : State) (o : Outcome) (t : State) : Prop := o = .returned (some (.int 1)) ∧ Framed s o t [] 1200000 5502250
def lw_Z (below : List Frame) (a : Array Value) (s : State) : State → Prop := fun t => ∃ o, t.status = .running ∧ Ended t below o ∧ lw_Q a s o t
/-- the law's own end, with 1 on the stack, nothing written that was there before, its room as the claim has it -/
theorem lw_ret {p : Program} {l : Launch} {e : Env} {s : State} {m : MethodId} {below : List Frame} {meth : Method} {c : Code} {b : Nat} (hx : p.tables.exec = Jvm.exec) (hb : c.code = code) (hr : meth.sig.returnType = ret) (hlocks : meth.locks = false) {pc : Nat} {H : Heap} {ls : Array Slot} (hdg : decode code pc = .ok (.ireturn, 1)) : W p l e room_1 s m #[Value.ref b] below meth c H [] 1200000 5502250 (lw_Z below #[Value.ref b] s) (F0 m pc ls [.int 1]) := by
  intro T hT X
  obtain ⟨fs, hret, hrun, hended, hW, hframe⟩ := X.leave (v := some (.int 1)) (hlocks := hlocks) (fun h => by rw [hr] at h; cases h)
  have hmeth' : T.vm.method? m = some meth := X.method'
  refine ⟨T.setFrames fs, ?_, .returned (some (.int 1)), hrun, hended, rfl, ⟨_, rfl⟩, hW, hframe⟩
  jvm_step X.here [X.here.top, hx, hb, hdg, hmeth', hr, ret, narrow_b1]
  (try refine ⟨rfl, ?_⟩); (try refine ⟨rfl, ?_⟩)
  first | (intro acts; rw [hret _ acts rfl rfl rfl]) | rw [hret _ _ rfl rfl rfl]
  exact Steps.refl _
/-- what holds at the law's entry: the machine, the code, the tables' words (any of lw_tbl by 'hts w (by decide +kernel)'), the script of L ints xs at the cell b, what the Statement gives of the start (any of its parts by flat_of_before) -/
def lw_At (p : Program) (s : State) (m : MethodId) (meth : Method) (c : Code) (b L : Nat) (xs : Nat → Int32) : Prop :=
  p.tables.exec = Jvm.exec ∧ c.code = code ∧ meth.sig.returnType = ret ∧ c.maxLocals = 4 ∧ s.vm.findClass R_law = some m.cls ∧ (∀ w ∈ lw_tbl, w.before #[Value.ref b] s = true) ∧ va_X b L xs s s.heap ∧ b < s.heap.size ∧ meth.locks = false ∧ (Jvm.Cond.and given_1 narrow_1).before #[Value.ref b] s = true
/-- the patterns that the static holds -/
def pats : Nat → Int64 := fun i => match i with
  | 0 => -6148914691236517206
  | 1 => -3689348814741910324
  | 2 => -1085102592571150096
  | 3 => -71777214294589696
  | 4 => -281470681808896
  | _ => -4294967296
/-- the pure heap at the start: the script, the patterns, nothing else -/
def h0 (L : Nat) (xs : Nat → Int32) : hp := (fun k => if k = 0 then xs else fun _ => 0, fun k => if k = 1 then pats else fun _ => 0, fun _ _ => none, fun k => if k = 0 then (7, L) else if k = 1 then (8, 6) else (9, 0), 2)
/-- what is left to show, of the pure machine alone -/
def lawPure : Prop := ∀ (L : Nat) (xs : Nat → Int32), L ≤ 3072 → Wp (Ex 8) 0 (fun v _ => v = some (.int 1)) 0 [(0, .ref 0)] [] (h0 L xs) 1200000 5502250
set_option maxHeartbeats 4000000 in
set_option maxRecDepth 100000 in
theorem start_of (hpure : lawPure) {p : Program} {e : Env} {s : State} {m : MethodId} {below : List Frame} {meth : Method} {c : Code} (l : Launch) {b L : Nat} {xs : Nat → Int32} (hL : L ≤ 3072) (C0 : lw_At p s m meth c b L xs) : W p l e room_1 s m #[Value.ref b] below meth c s.heap [] 0 0 (lw_Z below #[Value.ref b] s) (entryFrame m ([Value.ref b] : List Value).toArray 4) := by
  obtain ⟨hx, hb, hr, hml, hown, hts, hX, hbl, hlocks, hgv⟩ := id C0
  have hs := flat_of_before _ hgv
  have hA : ∀ a : Nat, a < s.heap.size → ¬ (fun q : Nat => s.heap.size ≤ q) a := fun a h => Nat.not_le.mpr h
  -- the static array
  have harr : (Cond.arrayOf (.static "SweepBench" "INPUT_PATTERNS" "[J") .long).before #[Value.ref b] s = true := hs _ (by decide +kernel)
  have hlen : (Term.length (.static "SweepBench" "INPUT_PATTERNS" "[J")).eval #[Value.ref b] s none [] s = some (.int (Int32.ofNat 6)) := va_eqt (hs _ (by decide +kernel))
  have hel : ∀ j : Nat, j < 6 → (Term.elem (.static "SweepBench" "INPUT_PATTERNS" "[J") (.int (Int32.ofNat j))).eval #[Value.ref b] s none [] s = some ((fun i => Value.long (pats i)) j) := by
    intro j hj
    rcases (show j = 0 ∨ j = 1 ∨ j = 2 ∨ j = 3 ∨ j = 4 ∨ j = 5 by omega) with rfl | rfl | rfl | rfl | rfl | rfl
    · exact va_eqtl (hs _ (by decide +kernel))
    · exact va_eqtl (hs _ (by decide +kernel))
    · exact va_eqtl (hs _ (by decide +kernel))
    · exact va_eqtl (hs _ (by decide +kernel))
    · exact va_eqtl (hs _ (by decide +kernel))
    · exact va_eqtl (hs _ (by decide +kernel))
  obtain ⟨t, ht, hT⟩ := va_Tof (A := fun q : Nat => s.heap.size ≤ q) (by decide) harr hlen hel hA
  have hZ := va_Zof (A := fun q : Nat => s.heap.size ≤ q) (hts (.laysStatic "SweepBench" "INPUT_PATTERNS" "[J") (by decide +kernel)) (hts (.initialized "SweepBench") (by decide +kernel)) ht hA
  -- the classes
  have hkn : ∀ ci, ∃ (cC : ClassId) (iS : Nat → Nat), ci < 10 → u_Kn s (clR ci) (clT ci) (clN ci) cC iS := by
    intro ci
    by_cases h : ci < 10
    · obtain ⟨p1, -⟩ := cpos_ok ci h
      obtain ⟨cC, iS, hk⟩ := u_known (C := clR ci) (T := clT ci) (N := clN ci) (n := clN ci) hts (cl_lays ci h) (hts _ (List.mem_of_getElem? p1))
      exact ⟨cC, iS, fun _ => hk⟩
    · exact ⟨0, fun _ => 0, fun q => absurd q h⟩
  -- the array classes
  obtain ⟨w1, w2, w3, w4, w5, w6⟩ := arr_words
  have hac : ∀ ty : FieldType, (Cond.arrayClass ty).before #[Value.ref b] s = true → (∀ C, ty ≠ .object C) → ∃ cA, ArrOfT s cA ty ∧ va_RA s cA ty := by
    intro ty h hno
    obtain ⟨cA, k, comp, f1, f2, f3⟩ := Cond.arrayClass_spec h
    refine ⟨cA, fun n z => ⟨fun k h => (by cases h), k, f2, comp, f3⟩, ?_⟩
    cases ty with
    | object C => exact absurd rfl (hno C)
    | _ => exact f1
  have hao : ∀ ty : FieldType, (Cond.arrayOver (.array ty)).before #[Value.ref b] s = true → ∃ cA, ArrOfT s cA (.array ty) ∧ va_RA s cA (.array ty) := by
    intro ty h
    obtain ⟨comp, cA, k, f1, -, f2, f3, f4⟩ := Jvm.Stand.arrayOver_specB h
    exact ⟨cA, fun n z => ⟨fun k h => (by cases h), k, f2, comp, f3⟩, f4⟩
  obtain ⟨a1, b1⟩ := hac .int (hts _ (List.mem_of_getElem? w1)) (fun C h => by cases h)
  obtain ⟨a2, b2⟩ := hac .long (hts _ (List.mem_of_getElem? w2)) (fun C h => by cases h)
  obtain ⟨a3, b3⟩ := hac .byte (hts _ (List.mem_of_getElem? w3)) (fun C h => by cases h)
  obtain ⟨a4, b4⟩ := hac .boolean (hts _ (List.mem_of_getElem? w4)) (fun C h => by cases h)
  obtain ⟨a5, b5⟩ := hao .int (hts _ (List.mem_of_getElem? w5))
  obtain ⟨a6, b6⟩ := hao .long (hts _ (List.mem_of_getElem? w6))
  obtain ⟨w, hw⟩ : ∃ w : wd, w = ((s.heap.size, b, t, L), xs, pats, (fun ci => Classical.choose (hkn ci), fun ci => Classical.choose (Classical.choose_spec (hkn ci))), fun k => if k = 1 then a1 else if k = 2 then a2 else if k = 3 then a3 else if k = 4 then a4 else if k = 5 then a5 else a6) := ⟨_, rfl⟩
  have eB : wB w = s.heap.size := by rw [hw]
  have eS : wS w = b := by rw [hw]
  have eT : wT w = t := by rw [hw]
  have eL : wL w = L := by rw [hw]
  have eX : wX w = xs := by rw [hw]
  have eP : wP w = pats := by rw [hw]
  have eA : wAf w = fun q : Nat => s.heap.size ≤ q := by funext q; show (wB w ≤ q) = _; rw [eB]
  have hsk : SK w s := by
    refine ⟨⟨fun ci q hq => ?_, fun k q hq => ?_⟩, by rw [eS, eL, eX]; exact hX, by rw [eT, eA]; exact hZ, by rw [eT, eP, eA]; exact hT, by rw [eS, eB]; exact hbl, by rw [eB]; exact Nat.le_refl _, va_Nw.of rfl (hts _ (List.mem_of_getElem? stat_word)), fun e he h5 => va_Nw.of rfl (hts _ (List.mem_of_getElem? ((ctab_ok e he).2.2.2.2.2.2.2.1 h5))), hts _ (List.mem_of_getElem? w5), hts _ (List.mem_of_getElem? w6)⟩
    · have h10 : ci < 10 := (List.getElem?_eq_some_iff.mp hq).1
      rw [cl_at ci h10] at hq
      cases hq
      rw [hw]
      exact Classical.choose_spec (Classical.choose_spec (hkn ci)) h10
    · rw [hw] at hq
      match k, hq with
      | 0, hq => cases hq; exact b1
      | 1, hq => cases hq; exact b2
      | 2, hq => cases hq; exact b3
      | 3, hq => cases hq; exact b4
      | 4, hq => cases hq; exact b5
      | 5, hq => cases hq; exact b6
      | k + 6, hq => cases hq
  have hHR : HR w (h0 L xs) s.heap := by
    refine ⟨⟨Nat.le_refl 2, by rw [eL]; rfl, by rw [eX]; rfl, rfl, by rw [eP]; rfl, fun k hk => ?_, fun k hk => ?_, fun k hk => ?_, fun k hk => ?_⟩, by rw [eB]; rfl, fun k h2 hk => absurd hk (by show ¬ k < 2; omega)⟩
    · by_cases q0 : k = 0
      · exact q0
      · by_cases q1 : k = 1
        · subst q1; exact absurd (show (8 : Nat) = 7 from hk) (by decide)
        · have e : hK (h0 L xs) k = (9, 0) := by show (if k = 0 then (7, L) else if k = 1 then (8, 6) else (9, 0)) = _; rw [if_neg q0, if_neg q1]
          rw [e] at hk; exact absurd hk (by decide)
    · by_cases q0 : k = 0
      · subst q0; exact absurd (show (7 : Nat) = 8 from hk) (by decide)
      · by_cases q1 : k = 1
        · exact q1
        · have e : hK (h0 L xs) k = (9, 0) := by show (if k = 0 then (7, L) else if k = 1 then (8, 6) else (9, 0)) = _; rw [if_neg q0, if_neg q1]
          rw [e] at hk; exact absurd hk (by decide)
    · have hk : 2 ≤ k := hk
      show (if k = 0 then (7, L) else if k = 1 then (8, 6) else ((9, 0) : Nat × Nat)).1 = 9
      rw [if_neg (by omega), if_neg (by omega)]
    · by_cases q0 : k = 0
      · subst q0; exact absurd (show (7 : Nat) = 0 from hk) (by decide)
      · by_cases q1 : k = 1
        · subst q1; exact absurd (show (8 : Nat) = 0 from hk) (by decide)
        · have e : hK (h0 L xs) k = (9, 0) := by show (if k = 0 then (7, L) else if k = 1 then (8, 6) else (9, 0)) = _; rw [if_neg q0, if_neg q1]
          rw [e] at hk; exact absurd hk (by decide)
  have cx : Cx p s m #[Value.ref b] meth c 0 w := ⟨hx, hb, hml, hown, fun x hx => hts x (List.mem_filter.mp hx).1, hsk, pok0, fun q => absurd q (by decide)⟩
  have hl := lv_entry ([.ref b]) (n := 4) (Nat.le_of_ble_eq_true rfl)
  rw [lg_entry_eq]
  generalize (lg_sl ([.ref b]) ++ List.replicate (4 - (lg_sl ([.ref b])).length) Slot.unset).toArray = ls at hl ⊢
  have hl : lv_has ls 4 (([(0, .ref 0)] : List (Nat × Value)).map (cw w)) := by
    have e : ([(0, .ref 0)] : List (Nat × Value)).map (cw w) = [(0, Value.ref b)] := by
      show [(0, Value.ref (wS w))] = _
      rw [eS]
    rw [e]
    exact hl
  refine wp_sound cx (R := room_1) (d := 8) (by decide) (by decide) (ex_sound l w 8) ?_ (hpure L xs hL) s.heap [] 0 0 ls hHR va_S.rf hl (by decide) (by decide)
  intro ins pc st h2 H locs cells slots lsA hd hrk hr2 hS hc1 hc2
  rcases retK_inv hrk with ⟨rfl, e2, rfl, hq⟩ | ⟨x, rfl, e2, rfl, hq⟩ | ⟨x, rfl, e2, rfl, hb01, hq⟩ | ⟨x, rfl, e2, rfl, hq⟩ | ⟨n, a, rfl, e2, rfl, hq⟩ | ⟨n, rfl, e2, rfl, hq⟩
  · cases hq
  · cases e2
  · cases hq
    refine va_forget (fun q hq => by have := hS.2.2 q hq; rw [eA] at this; exact this) ?_
    exact W.widen hc1 hc2 (lw_ret hx hb hr hlocks hd)
  · cases e2
  · cases e2
  · cases e2
end
section
/-! ===== the pure machine, a row an instruction ===== -/
/-- method j comes to its end with this answer and this heap -/
def Run (d j : Nat) (as : List Value) (h : hp) (mc ms : Nat) (v : Option Value) (h' : hp) : Prop := ∀ Q : resP, Q v h' → Ex d j as h mc ms Q
theorem Run.of {d j : Nat} {as : List Value} {h h' : hp} {mc ms : Nat} {v : Option Value} (hc : cats as ≤ mL j) (hw : ∀ Q : resP, Q v h' → Wp (Ex d) j Q 0 (lv_args 0 as) [] h mc ms) : Run (d + 1) j as h mc ms v h' := fun Q hQ => ⟨hc, hw Q hQ⟩
section ROW
variable {C : callP} {j : Nat} {Q : resP} {pc : Nat} {ls : List (Nat × Value)} {st : List Value} {h : hp} {bc bs : Nat}
theorem r_aload_n {k : Fin 4} {a : Nat} (hm : (pc, Instr.aload_n k, 1) ∈ pt j) (hl : ls.lookup (k : Nat) = some (.ref a)) (kk : Wp C j Q (pc + 1) ls (.ref a :: st) h bc bs) : Wp C j Q pc ls st h bc bs :=
  Wp.go (ins := .aload_n k) (len := 1) hm (show lA ls k (fun v => Wp C j Q (pc + 1) ls (v :: st) h bc bs) by unfold lA; rw [hl]; exact kk)
theorem r_aload {k : Nat} {a : Nat} (hm : (pc, Instr.aload k, 2) ∈ pt j) (hl : ls.lookup k = some (.ref a)) (kk : Wp C j Q (pc + 2) ls (.ref a :: st) h bc bs) : Wp C j Q pc ls st h bc bs :=
  Wp.go (ins := .aload k) (len := 2) hm (show lA ls k (fun v => Wp C j Q (pc + 2) ls (v :: st) h bc bs) by unfold lA; rw [hl]; exact kk)
theorem r_aload_nN {k : Fin 4} (hm : (pc, Instr.aload_n k, 1) ∈ pt j) (hl : ls.lookup (k : Nat) = some .null) (kk : Wp C j Q (pc + 1) ls (.null :: st) h bc bs) : Wp C j Q pc ls st h bc bs :=
  Wp.go (ins := .aload_n k) (len := 1) hm (show lA ls k (fun v => Wp C j Q (pc + 1) ls (v :: st) h bc bs) by unfold lA; rw [hl]; exact kk)
theorem r_iload_n {k : Fin 4} {x : Int32} (hm : (pc, Instr.iload_n k, 1) ∈ pt j) (hl : ls.lookup (k : Nat) = some (.int x)) (kk : Wp C j Q (pc + 1) ls (.int x :: st) h bc bs) : Wp C j Q pc ls st h bc bs :=
  Wp.go (ins := .iload_n k) (len := 1) hm (show lI ls k _ by unfold lI; rw [hl]; exact kk)
theorem r_iload {k : Nat} {x : Int32} (hm : (pc, Instr.iload k, 2) ∈ pt j) (hl : ls.lookup k = some (.int x)) (kk : Wp C j Q (pc + 2) ls (.int x :: st) h bc bs) : Wp C j Q pc ls st h bc bs :=
  Wp.go (ins := .iload k) (len := 2) hm (show lI ls k _ by unfold lI; rw [hl]; exact kk)
theorem r_lload_n {k : Fin 4} {x : Int64} (hm : (pc, Instr.lload_n k, 1) ∈ pt j) (hl : ls.lookup (k : Nat) = some (.long x)) (kk : Wp C j Q (pc + 1) ls (.long x :: st) h bc bs) : Wp C j Q pc ls st h bc bs :=
  Wp.go (ins := .lload_n k) (len := 1) hm (show lJ ls k _ by unfold lJ; rw [hl]; exact kk)
theorem r_lload {k : Nat} {x : Int64} (hm : (pc, Instr.lload k, 2) ∈ pt j) (hl : ls.lookup k = some (.long x)) (kk : Wp C j Q (pc + 2) ls (.long x :: st) h bc bs) : Wp C j Q pc ls st h bc bs :=
  Wp.go (ins := .lload k) (len := 2) hm (show lJ ls k _ by unfold lJ; rw [hl]; exact kk)
theorem r_astore_n {k : Fin 4} {a : Nat} {ls' : List (Nat × Value)} (hm : (pc, Instr.astore_n k, 1) ∈ pt j) (hk : (k : Nat) < mL j) (hl : lset1 ls k (.ref a) = ls') (kk : Wp C j Q (pc + 1) ls' st h bc bs) : Wp C j Q pc ls (.ref a :: st) h bc bs :=
  Wp.go (ins := .astore_n k) (len := 1) hm ⟨hk, by subst hl; exact kk⟩
theorem r_astore {k : Nat} {a : Nat} {ls' : List (Nat × Value)} (hm : (pc, Instr.astore k, 2) ∈ pt j) (hk : k < mL j) (hl : lset1 ls k (.ref a) = ls') (kk : Wp C j Q (pc + 2) ls' st h bc bs) : Wp C j Q pc ls (.ref a :: st) h bc bs :=
  Wp.go (ins := .astore k) (len := 2) hm ⟨hk, by subst hl; exact kk⟩
theorem r_astore_nN {k : Fin 4} {ls' : List (Nat × Value)} (hm : (pc, Instr.astore_n k, 1) ∈ pt j) (hk : (k : Nat) < mL j) (hl : lset1 ls k .null = ls') (kk : Wp C j Q (pc + 1) ls' st h bc bs) : Wp C j Q pc ls (.null :: st) h bc bs :=
  Wp.go (ins := .astore_n k) (len := 1) hm ⟨hk, by subst hl; exact kk⟩
theorem r_istore_n {k : Fin 4} {x : Int32} {ls' : List (Nat × Value)} (hm : (pc, Instr.istore_n k, 1) ∈ pt j) (hk : (k : Nat) < mL j) (hl : lset1 ls k (.int x) = ls') (kk : Wp C j Q (pc + 1) ls' st h bc bs) : Wp C j Q pc ls (.int x :: st) h bc bs :=
  Wp.go (ins := .istore_n k) (len := 1) hm ⟨hk, by subst hl; exact kk⟩
theorem r_istore {k : Nat} {x : Int32} {ls' : List (Nat × Value)} (hm : (pc, Instr.istore k, 2) ∈ pt j) (hk : k < mL j) (hl : lset1 ls k (.int x) = ls') (kk : Wp C j Q (pc + 2) ls' st h bc bs) : Wp C j Q pc ls (.int x :: st) h bc bs :=
  Wp.go (ins := .istore k) (len := 2) hm ⟨hk, by subst hl; exact kk⟩
theorem r_lstore_n {k : Fin 4} {x : Int64} {ls' : List (Nat × Value)} (hm : (pc, Instr.lstore_n k, 1) ∈ pt j) (hk : (k : Nat) + 1 < mL j) (hl : lset2 ls k (.long x) = ls') (kk : Wp C j Q (pc + 1) ls' st h bc bs) : Wp C j Q pc ls (.long x :: st) h bc bs :=
  Wp.go (ins := .lstore_n k) (len := 1) hm ⟨hk, by subst hl; exact kk⟩
theorem r_lstore {k : Nat} {x : Int64} {ls' : List (Nat × Value)} (hm : (pc, Instr.lstore k, 2) ∈ pt j) (hk : k + 1 < mL j) (hl : lset2 ls k (.long x) = ls') (kk : Wp C j Q (pc + 2) ls' st h bc bs) : Wp C j Q pc ls (.long x :: st) h bc bs :=
  Wp.go (ins := .lstore k) (len := 2) hm ⟨hk, by subst hl; exact kk⟩
theorem r_iinc {k : Nat} {n : Int} {x y : Int32} {ls' : List (Nat × Value)} (hm : (pc, Instr.iinc k n, 3) ∈ pt j) (hk : k < mL j) (hx : ls.lookup k = some (.int x)) (hy : x + Int32.ofInt n = y) (hl : lset1 ls k (.int y) = ls') (kk : Wp C j Q (pc + 3) ls' st h bc bs) : Wp C j Q pc ls st h bc bs :=
  Wp.go (ins := .iinc k n) (len := 3) hm ⟨hk, show lI ls k _ by unfold lI; rw [hx]; subst hy; subst hl; exact kk⟩
theorem r_iconst {n : Int} {v : Int32} (hm : (pc, Instr.iconst n, 1) ∈ pt j) (hv : Int32.ofInt n = v) (kk : Wp C j Q (pc + 1) ls (.int v :: st) h bc bs) : Wp C j Q pc ls st h bc bs :=
  Wp.go (ins := .iconst n) (len := 1) hm (by subst hv; exact kk)
theorem r_bipush {n : Int} {v : Int32} (hm : (pc, Instr.bipush n, 2) ∈ pt j) (hv : (Int8.ofInt n).toInt32 = v) (kk : Wp C j Q (pc + 2) ls (.int v :: st) h bc bs) : Wp C j Q pc ls st h bc bs :=
  Wp.go (ins := .bipush n) (len := 2) hm (by subst hv; exact kk)
theorem r_sipush {n : Int} {v : Int32} (hm : (pc, Instr.sipush n, 3) ∈ pt j) (hv : (Int16.ofInt n).toInt32 = v) (kk : Wp C j Q (pc + 3) ls (.int v :: st) h bc bs) : Wp C j Q pc ls st h bc bs :=
  Wp.go (ins := .sipush n) (len := 3) hm (by subst hv; exact kk)
theorem r_lconst {n : Fin 2} {v : Int64} (hm : (pc, Instr.lconst n, 1) ∈ pt j) (hv : Int64.ofNat (n : Nat) = v) (kk : Wp C j Q (pc + 1) ls (.long v :: st) h bc bs) : Wp C j Q pc ls st h bc bs :=
  Wp.go (ins := .lconst n) (len := 1) hm (by subst hv; exact kk)
theorem r_null (hm : (pc, Instr.aconst_null, 1) ∈ pt j) (kk : Wp C j Q (pc + 1) ls (.null :: st) h bc bs) : Wp C j Q pc ls st h bc bs := Wp.go (ins := .aconst_null) (len := 1) hm kk
theorem r_ldc2 {i : Nat} {v : Int64} {q : Nat} (hm : (pc, Instr.ldc2_w i, 3) ∈ pt j) (hv : lres (mO j) i = some (v, q)) (kk : Wp C j Q (pc + 3) ls (.long v :: st) h bc bs) : Wp C j Q pc ls st h bc bs := Wp.go (ins := .ldc2_w i) (len := 3) hm ⟨v, q, hv, kk⟩
theorem r_iadd {x y : Int32} (hm : (pc, Instr.iadd, 1) ∈ pt j) (kk : Wp C j Q (pc + 1) ls (.int (x + y) :: st) h bc bs) : Wp C j Q pc ls (.int y :: .int x :: st) h bc bs := Wp.go (ins := .iadd) (len := 1) hm kk
theorem r_isub {x y : Int32} (hm : (pc, Instr.isub, 1) ∈ pt j) (kk : Wp C j Q (pc + 1) ls (.int (x - y) :: st) h bc bs) : Wp C j Q pc ls (.int y :: .int x :: st) h bc bs := Wp.go (ins := .isub) (len := 1) hm kk
theorem r_imul {x y : Int32} (hm : (pc, Instr.imul, 1) ∈ pt j) (kk : Wp C j Q (pc + 1) ls (.int (x * y) :: st) h bc bs) : Wp C j Q pc ls (.int y :: .int x :: st) h bc bs := Wp.go (ins := .imul) (len := 1) hm kk
theorem r_idiv {x y : Int32} (hm : (pc, Instr.idiv, 1) ∈ pt j) (hy : ¬ y = 0) (kk : Wp C j Q (pc + 1) ls (.int (x / y) :: st) h bc bs) : Wp C j Q pc ls (.int y :: .int x :: st) h bc bs := Wp.go (ins := .idiv) (len := 1) hm ⟨hy, kk⟩
theorem r_irem {x y : Int32} (hm : (pc, Instr.irem, 1) ∈ pt j) (hy : ¬ y = 0) (kk : Wp C j Q (pc + 1) ls (.int (x - x / y * y) :: st) h bc bs) : Wp C j Q pc ls (.int y :: .int x :: st) h bc bs := Wp.go (ins := .irem) (len := 1) hm ⟨hy, kk⟩
theorem r_iand {x y : Int32} (hm : (pc, Instr.iand, 1) ∈ pt j) (kk : Wp C j Q (pc + 1) ls (.int (x &&& y) :: st) h bc bs) : Wp C j Q pc ls (.int y :: .int x :: st) h bc bs := Wp.go (ins := .iand) (len := 1) hm kk
theorem r_ixor {x y : Int32} (hm : (pc, Instr.ixor, 1) ∈ pt j) (kk : Wp C j Q (pc + 1) ls (.int (x ^^^ y) :: st) h bc bs) : Wp C j Q pc ls (.int y :: .int x :: st) h bc bs := Wp.go (ins := .ixor) (len := 1) hm kk
theorem r_ishl {x y : Int32} (hm : (pc, Instr.ishl, 1) ∈ pt j) (kk : Wp C j Q (pc + 1) ls (.int (x <<< (y &&& 31)) :: st) h bc bs) : Wp C j Q pc ls (.int y :: .int x :: st) h bc bs := Wp.go (ins := .ishl) (len := 1) hm kk
theorem r_ishr {x y : Int32} (hm : (pc, Instr.ishr, 1) ∈ pt j) (kk : Wp C j Q (pc + 1) ls (.int (x >>> (y &&& 31)) :: st) h bc bs) : Wp C j Q pc ls (.int y :: .int x :: st) h bc bs := Wp.go (ins := .ishr) (len := 1) hm kk
theorem r_ladd {x y : Int64} (hm : (pc, Instr.ladd, 1) ∈ pt j) (kk : Wp C j Q (pc + 1) ls (.long (x + y) :: st) h bc bs) : Wp C j Q pc ls (.long y :: .long x :: st) h bc bs := Wp.go (ins := .ladd) (len := 1) hm kk
theorem r_lsub {x y : Int64} (hm : (pc, Instr.lsub, 1) ∈ pt j) (kk : Wp C j Q (pc + 1) ls (.long (x - y) :: st) h bc bs) : Wp C j Q pc ls (.long y :: .long x :: st) h bc bs := Wp.go (ins := .lsub) (len := 1) hm kk
theorem r_land {x y : Int64} (hm : (pc, Instr.land, 1) ∈ pt j) (kk : Wp C j Q (pc + 1) ls (.long (x &&& y) :: st) h bc bs) : Wp C j Q pc ls (.long y :: .long x :: st) h bc bs := Wp.go (ins := .land) (len := 1) hm kk
theorem r_lor {x y : Int64} (hm : (pc, Instr.lor, 1) ∈ pt j) (kk : Wp C j Q (pc + 1) ls (.long (x ||| y) :: st) h bc bs) : Wp C j Q pc ls (.long y :: .long x :: st) h bc bs := Wp.go (ins := .lor) (len := 1) hm kk
theorem r_lxor {x y : Int64} (hm : (pc, Instr.lxor, 1) ∈ pt j) (kk : Wp C j Q (pc + 1) ls (.long (x ^^^ y) :: st) h bc bs) : Wp C j Q pc ls (.long y :: .long x :: st) h bc bs := Wp.go (ins := .lxor) (len := 1) hm kk
theorem r_lneg {x : Int64} (hm : (pc, Instr.lneg, 1) ∈ pt j) (kk : Wp C j Q (pc + 1) ls (.long (-x) :: st) h bc bs) : Wp C j Q pc ls (.long x :: st) h bc bs := Wp.go (ins := .lneg) (len := 1) hm kk
theorem r_lcmp {x y : Int64} (hm : (pc, Instr.lcmp, 1) ∈ pt j) (kk : Wp C j Q (pc + 1) ls (.int (lg_cmp x y) :: st) h bc bs) : Wp C j Q pc ls (.long y :: .long x :: st) h bc bs := Wp.go (ins := .lcmp) (len := 1) hm kk
theorem r_lshl {x : Int64} {y : Int32} (hm : (pc, Instr.lshl, 1) ∈ pt j) (kk : Wp C j Q (pc + 1) ls (.long (x <<< (y.toInt64 &&& 63)) :: st) h bc bs) : Wp C j Q pc ls (.int y :: .long x :: st) h bc bs := Wp.go (ins := .lshl) (len := 1) hm kk
theorem r_lshr {x : Int64} {y : Int32} (hm : (pc, Instr.lshr, 1) ∈ pt j) (kk : Wp C j Q (pc + 1) ls (.long (x >>> (y.toInt64 &&& 63)) :: st) h bc bs) : Wp C j Q pc ls (.int y :: .long x :: st) h bc bs := Wp.go (ins := .lshr) (len := 1) hm kk
theorem r_lushr {x : Int64} {y : Int32} (hm : (pc, Instr.lushr, 1) ∈ pt j) (kk : Wp C j Q (pc + 1) ls (.long (x.toUInt64 >>> (y.toInt64.toUInt64 &&& Int64.toUInt64 63)).toInt64 :: st) h bc bs) : Wp C j Q pc ls (.int y :: .long x :: st) h bc bs := Wp.go (ins := .lushr) (len := 1) hm kk
theorem r_l2i {x : Int64} (hm : (pc, Instr.l2i, 1) ∈ pt j) (kk : Wp C j Q (pc + 1) ls (.int x.toInt32 :: st) h bc bs) : Wp C j Q pc ls (.long x :: st) h bc bs := Wp.go (ins := .l2i) (len := 1) hm kk
theorem r_i2b {x : Int32} (hm : (pc, Instr.i2b, 1) ∈ pt j) (kk : Wp C j Q (pc + 1) ls (.int x.toInt8.toInt32 :: st) h bc bs) : Wp C j Q pc ls (.int x :: st) h bc bs := Wp.go (ins := .i2b) (len := 1) hm kk
theorem r_dup {v : Value} (hm : (pc, Instr.dup, 1) ∈ pt j) (hv : v.category = 1) (kk : Wp C j Q (pc + 1) ls (v :: v :: st) h bc bs) : Wp C j Q pc ls (v :: st) h bc bs := Wp.go (ins := .dup) (len := 1) hm ⟨hv, kk⟩
theorem r_dup2 {v u : Value} (hm : (pc, Instr.dup2, 1) ∈ pt j) (hv : v.category = 1) (hu : u.category = 1) (kk : Wp C j Q (pc + 1) ls (v :: u :: v :: u :: st) h bc bs) : Wp C j Q pc ls (v :: u :: st) h bc bs := Wp.go (ins := .dup2) (len := 1) hm ⟨hv, hu, kk⟩
theorem r_pop {v : Value} (hm : (pc, Instr.pop, 1) ∈ pt j) (hv : v.category = 1) (kk : Wp C j Q (pc + 1) ls st h bc bs) : Wp C j Q pc ls (v :: st) h bc bs := Wp.go (ins := .pop) (len := 1) hm ⟨hv, kk⟩
theorem j_of {pc t : Nat} {off : Int} (ht : (pc : Int) + off = (t : Int)) : jok pc off ∧ jmp pc off = t := by
  unfold jok jmp
  rw [ht]
  exact ⟨Int.natCast_nonneg t, Int.toNat_natCast t⟩
theorem r_goto (t : Nat) {off : Int} (hm : (pc, Instr.goto off, 3) ∈ pt j) (ht : (pc : Int) + off = (t : Int)) (kk : Wp C j Q t ls st h bc bs) : Wp C j Q pc ls st h bc bs :=
  Wp.go (ins := .goto off) (len := 3) hm ⟨(j_of ht).1, by rw [(j_of ht).2]; exact kk⟩
theorem r_if (t : Nat) {c : Jvm.ClassFile.Cond} {off : Int} {x : Int32} (hm : (pc, Instr.ifCond c off, 3) ∈ pt j) (ht : (pc : Int) + off = (t : Int)) (kt : cIf c x → Wp C j Q t ls st h bc bs) (kf : ¬ cIf c x → Wp C j Q (pc + 3) ls st h bc bs) : Wp C j Q pc ls (.int x :: st) h bc bs :=
  Wp.go (ins := .ifCond c off) (len := 3) hm ⟨(j_of ht).1, fun q => by rw [(j_of ht).2]; exact kt q, kf⟩
theorem r_icmp (t : Nat) {c : Jvm.ClassFile.Cond} {off : Int} {x y : Int32} (hm : (pc, Instr.if_icmp c off, 3) ∈ pt j) (ht : (pc : Int) + off = (t : Int)) (kt : cIcmp c x y → Wp C j Q t ls st h bc bs) (kf : ¬ cIcmp c x y → Wp C j Q (pc + 3) ls st h bc bs) : Wp C j Q pc ls (.int y :: .int x :: st) h bc bs :=
  Wp.go (ins := .if_icmp c off) (len := 3) hm ⟨(j_of ht).1, fun q => by rw [(j_of ht).2]; exact kt q, kf⟩
theorem r_ifnull {off : Int} {a : Nat} (hm : (pc, Instr.ifnull off, 3) ∈ pt j) (hj : jok pc off) (kk : Wp C j Q (pc + 3) ls st h bc bs) : Wp C j Q pc ls (.ref a :: st) h bc bs :=
  Wp.go (ins := .ifnull off) (len := 3) hm ⟨hj, (⟨fun q => absurd q (fun z => by cases z), fun _ => kk⟩ : (Value.ref a = Value.null → Wp C j Q (jmp pc off) ls st h bc bs) ∧ (¬ Value.ref a = Value.null → Wp C j Q (pc + 3) ls st h bc bs))⟩
theorem r_ifnullN (t : Nat) {off : Int} (hm : (pc, Instr.ifnull off, 3) ∈ pt j) (ht : (pc : Int) + off = (t : Int)) (kk : Wp C j Q t ls st h bc bs) : Wp C j Q pc ls (.null :: st) h bc bs :=
  Wp.go (ins := .ifnull off) (len := 3) hm ⟨(j_of ht).1, fun _ => by rw [(j_of ht).2]; exact kk, fun q => absurd rfl q⟩
theorem r_ifnonnull (t : Nat) {off : Int} {a : Nat} (hm : (pc, Instr.ifnonnull off, 3) ∈ pt j) (ht : (pc : Int) + off = (t : Int)) (kk : Wp C j Q t ls st h bc bs) : Wp C j Q pc ls (.ref a :: st) h bc bs :=
  Wp.go (ins := .ifnonnull off) (len := 3) hm ⟨(j_of ht).1, fun _ => by rw [(j_of ht).2]; exact kk, fun q => by cases q⟩
theorem r_ifnonnullN {off : Int} (hm : (pc, Instr.ifnonnull off, 3) ∈ pt j) (hj : jok pc off) (kk : Wp C j Q (pc + 3) ls st h bc bs) : Wp C j Q pc ls (.null :: st) h bc bs :=
  Wp.go (ins := .ifnonnull off) (len := 3) hm ⟨hj, fun q => absurd rfl q, fun _ => kk⟩
theorem r_swOut (t : Nat) {d lo hi : Int} {offs : Array Int} {len : Nat} {x : Int32} (hm : (pc, Instr.tableswitch d lo hi offs, len) ∈ pt j) (hx : x.toInt < lo ∨ hi < x.toInt) (ht : (pc : Int) + d = (t : Int)) (kk : Wp C j Q t ls st h bc bs) : Wp C j Q pc ls (.int x :: st) h bc bs :=
  Wp.go (ins := .tableswitch d lo hi offs) (len := len) hm ⟨fun _ => ⟨(j_of ht).1, by rw [(j_of ht).2]; exact kk⟩, fun a b => absurd hx (by omega)⟩
theorem r_swIn (t : Nat) {d lo hi off : Int} {offs : Array Int} {len : Nat} {x : Int32} (hm : (pc, Instr.tableswitch d lo hi offs, len) ∈ pt j) (h1 : ¬ x.toInt < lo) (h2 : ¬ hi < x.toInt) (ho : offs[(x.toInt - lo).toNat]? = some off) (ht : (pc : Int) + off = (t : Int)) (kk : Wp C j Q t ls st h bc bs) : Wp C j Q pc ls (.int x :: st) h bc bs :=
  Wp.go (ins := .tableswitch d lo hi offs) (len := len) hm ⟨fun q => absurd q (by omega), fun _ _ => ⟨off, ho, (j_of ht).1, by rw [(j_of ht).2]; exact kk⟩⟩
theorem r_iaload {a n : Nat} {i x : Int32} (hm : (pc, Instr.iaload, 1) ∈ pt j) (hk : hK h a = (1, n)) (hi : vp_in i n) (hx : hI h a i.toNatClampNeg = x) (kk : Wp C j Q (pc + 1) ls (.int x :: st) h bc bs) : Wp C j Q pc ls (.int i :: .ref a :: st) h bc bs :=
  Wp.go (ins := .iaload) (len := 1) hm (by subst hx; exact ⟨by rw [hk]; rfl, by rw [hk]; exact hi, kk⟩)
theorem r_iaload7 {a n : Nat} {i x : Int32} (hm : (pc, Instr.iaload, 1) ∈ pt j) (hk : hK h a = (7, n)) (hi : vp_in i n) (hx : hI h a i.toNatClampNeg = x) (kk : Wp C j Q (pc + 1) ls (.int x :: st) h bc bs) : Wp C j Q pc ls (.int i :: .ref a :: st) h bc bs :=
  Wp.go (ins := .iaload) (len := 1) hm (by subst hx; exact ⟨by rw [hk]; rfl, by rw [hk]; exact hi, kk⟩)
theorem r_laload {a n : Nat} {i : Int32} {x : Int64} (hm : (pc, Instr.laload, 1) ∈ pt j) (hk : hK h a = (2, n)) (hi : vp_in i n) (hx : hJ h a i.toNatClampNeg = x) (kk : Wp C j Q (pc + 1) ls (.long x :: st) h bc bs) : Wp C j Q pc ls (.int i :: .ref a :: st) h bc bs :=
  Wp.go (ins := .laload) (len := 1) hm (by subst hx; exact ⟨by rw [hk]; rfl, by rw [hk]; exact hi, kk⟩)
theorem r_laload8 {a n : Nat} {i : Int32} {x : Int64} (hm : (pc, Instr.laload, 1) ∈ pt j) (hk : hK h a = (8, n)) (hi : vp_in i n) (hx : hJ h a i.toNatClampNeg = x) (kk : Wp C j Q (pc + 1) ls (.long x :: st) h bc bs) : Wp C j Q pc ls (.int i :: .ref a :: st) h bc bs :=
  Wp.go (ins := .laload) (len := 1) hm (by subst hx; exact ⟨by rw [hk]; rfl, by rw [hk]; exact hi, kk⟩)
theorem r_baload {a n : Nat} {i x : Int32} (hm : (pc, Instr.baload, 1) ∈ pt j) (hk : hK h a = (3, n)) (hi : vp_in i n) (hx : hI h a i.toNatClampNeg = x) (kk : Wp C j Q (pc + 1) ls (.int x :: st) h bc bs) : Wp C j Q pc ls (.int i :: .ref a :: st) h bc bs :=
  Wp.go (ins := .baload) (len := 1) hm (by subst hx; exact ⟨Or.inl (by rw [hk]), by rw [hk]; exact hi, kk⟩)
theorem r_zaload {a n : Nat} {i x : Int32} (hm : (pc, Instr.baload, 1) ∈ pt j) (hk : hK h a = (4, n)) (hi : vp_in i n) (hx : hI h a i.toNatClampNeg = x) (kk : Wp C j Q (pc + 1) ls (.int x :: st) h bc bs) : Wp C j Q pc ls (.int i :: .ref a :: st) h bc bs :=
  Wp.go (ins := .baload) (len := 1) hm (by subst hx; exact ⟨Or.inr (by rw [hk]), by rw [hk]; exact hi, kk⟩)
theorem r_aaload5 {a n b : Nat} {i : Int32} (hm : (pc, Instr.aaload, 1) ∈ pt j) (hk : hK h a = (5, n)) (hi : vp_in i n) (hx : hR h a i.toNatClampNeg = some b) (kk : Wp C j Q (pc + 1) ls (.ref b :: st) h bc bs) : Wp C j Q pc ls (.int i :: .ref a :: st) h bc bs :=
  Wp.go (ins := .aaload) (len := 1) hm ⟨Or.inl (by rw [hk]), by rw [hk]; exact hi, by rw [hx]; exact kk⟩
theorem r_aaload6 {a n b : Nat} {i : Int32} (hm : (pc, Instr.aaload, 1) ∈ pt j) (hk : hK h a = (6, n)) (hi : vp_in i n) (hx : hR h a i.toNatClampNeg = some b) (kk : Wp C j Q (pc + 1) ls (.ref b :: st) h bc bs) : Wp C j Q pc ls (.int i :: .ref a :: st) h bc bs :=
  Wp.go (ins := .aaload) (len := 1) hm ⟨Or.inr (by rw [hk]), by rw [hk]; exact hi, by rw [hx]; exact kk⟩
theorem r_iastore {a n : Nat} {i x : Int32} (hm : (pc, Instr.iastore, 1) ∈ pt j) (hk : hK h a = (1, n)) (hi : vp_in i n) (kk : Wp C j Q (pc + 1) ls st (sI h a i.toNatClampNeg x) bc bs) : Wp C j Q pc ls (.int x :: .int i :: .ref a :: st) h bc bs :=
  Wp.go (ins := .iastore) (len := 1) hm ⟨by rw [hk], by rw [hk]; exact hi, kk⟩
theorem r_bastore {a n : Nat} {i x : Int32} (hm : (pc, Instr.bastore, 1) ∈ pt j) (hk : hK h a = (3, n)) (hi : vp_in i n) (kk : Wp C j Q (pc + 1) ls st (sI h a i.toNatClampNeg (vp_nar .byte x)) bc bs) : Wp C j Q pc ls (.int x :: .int i :: .ref a :: st) h bc bs :=
  Wp.go (ins := .bastore) (len := 1) hm (Or.inl ⟨by rw [hk], by rw [hk]; exact hi, kk⟩)
theorem r_zastore {a n : Nat} {i x : Int32} (hm : (pc, Instr.bastore, 1) ∈ pt j) (hk : hK h a = (4, n)) (hi : vp_in i n) (kk : Wp C j Q (pc + 1) ls st (sI h a i.toNatClampNeg (vp_nar .boolean x)) bc bs) : Wp C j Q pc ls (.int x :: .int i :: .ref a :: st) h bc bs :=
  Wp.go (ins := .bastore) (len := 1) hm (Or.inr ⟨by rw [hk], by rw [hk]; exact hi, kk⟩)
theorem r_lastore {a n : Nat} {i : Int32} {x : Int64} (hm : (pc, Instr.lastore, 1) ∈ pt j) (hk : hK h a = (2, n)) (hi : vp_in i n) (kk : Wp C j Q (pc + 1) ls st (sJ h a i.toNatClampNeg x) bc bs) : Wp C j Q pc ls (.long x :: .int i :: .ref a :: st) h bc bs :=
  Wp.go (ins := .lastore) (len := 1) hm ⟨by rw [hk], by rw [hk]; exact hi, kk⟩
theorem r_alen {a t n : Nat} (hm : (pc, Instr.arraylength, 1) ∈ pt j) (hk : hK h a = (t, n)) (h1 : 1 ≤ t) (h8 : t ≤ 8) (kk : Wp C j Q (pc + 1) ls (.int (Int32.ofNat n) :: st) h bc bs) : Wp C j Q pc ls (.ref a :: st) h bc bs :=
  Wp.go (ins := .arraylength) (len := 1) hm ⟨by rw [hk]; exact h1, by rw [hk]; exact h8, by rw [hk]; exact kk⟩
theorem r_newa {t : ArrayType} {x : Int32} {n : Nat} (hm : (pc, Instr.newarray t, 2) ∈ pt j) (h1 : 1 ≤ atag t) (h4 : atag t ≤ 4) (hx : ¬ x < 0) (hn : x.toNatClampNeg = n) (h6 : n ≤ 60000000) (hc : 1 ≤ bc) (hs : n ≤ bs) (kk : Wp C j Q (pc + 2) ls (.ref (hN h) :: st) (hnew h (atag t) n) (bc - 1) (bs - n)) : Wp C j Q pc ls (.int x :: st) h bc bs :=
  Wp.go (ins := .newarray t) (len := 2) hm (by subst hn; exact ⟨h1, h4, hx, h6, hc, hs, kk⟩)
theorem r_grid {i : Nat} {x y : Int32} {t n k q : Nat} (hm : (pc, Instr.multianewarray i 2, 4) ∈ pt j) (hg : gres (mO j) i = (t, q)) (ht : t = 5 ∨ t = 6) (hx : ¬ x < 0) (hy : ¬ y < 0) (hn : x.toNatClampNeg = n) (hk : y.toNatClampNeg = k) (h1 : n ≤ 100000) (h2 : k ≤ 100000) (hc : 1 + n ≤ bc) (hs : n + n * k ≤ bs)
    (kk : Wp C j Q (pc + 4) ls (.ref (hN h) :: st) (hgrid h t (t - 4) n k) (bc - (1 + n)) (bs - (n + n * k))) : Wp C j Q pc ls (.int y :: .int x :: st) h bc bs :=
  Wp.go (ins := .multianewarray i 2) (len := 4) hm ⟨rfl, by subst hn; subst hk; show (_ ∨ _) ∧ _; rw [hg]; exact ⟨ht, hx, hy, h1, h2, hc, hs, kk⟩⟩
theorem r_getI {i a ci k q : Nat} {x : Int32} (hm : (pc, Instr.getfield i, 3) ∈ pt j) (hf : fres (mO j) i = (ci, k, q)) (hci : ci < 10) (hk : hK h a = (0, ci)) (hty : ∀ u v r, pval (fT ci k) u v r = .int u) (hx : hI h a k = x) (kk : Wp C j Q (pc + 3) ls (.int x :: st) h bc bs) : Wp C j Q pc ls (.ref a :: st) h bc bs :=
  Wp.go (ins := .getfield i) (len := 3) hm (by subst hx; show _ ∧ _; rw [hf]; exact ⟨hk, hci, by rw [hty]; exact kk⟩)
theorem r_getR {i a b ci k q : Nat} (hm : (pc, Instr.getfield i, 3) ∈ pt j) (hf : fres (mO j) i = (ci, k, q)) (hci : ci < 10) (hk : hK h a = (0, ci)) (hty : ∀ u v r, pval (fT ci k) u v r = va_rf r) (hx : hR h a k = some b) (kk : Wp C j Q (pc + 3) ls (.ref b :: st) h bc bs) : Wp C j Q pc ls (.ref a :: st) h bc bs :=
  Wp.go (ins := .getfield i) (len := 3) hm (by show _ ∧ _; rw [hf]; exact ⟨hk, hci, by rw [hty, hx]; exact kk⟩)
theorem r_putI {i a ci k q : Nat} {x : Int32} (hm : (pc, Instr.putfield i, 3) ∈ pt j) (hf : fres (mO j) i = (ci, k, q)) (hci : ci < 10) (hk : hK h a = (0, ci)) (hfin : (clT ci k).2.2.2 = false) (hty : fT ci k = .int) (kk : Wp C j Q (pc + 3) ls st (sI h a k x) bc bs) : Wp C j Q pc ls (.int x :: .ref a :: st) h bc bs :=
  Wp.go (ins := .putfield i) (len := 3) hm (by show _ ∧ _; rw [hf]; exact ⟨hk, hci, Or.inl hfin, by rw [hty]; exact kk⟩)
theorem r_putZ {i a ci k q : Nat} {x : Int32} (hm : (pc, Instr.putfield i, 3) ∈ pt j) (hf : fres (mO j) i = (ci, k, q)) (hci : ci < 10) (hk : hK h a = (0, ci)) (hfin : (clT ci k).2.2.2 = false) (hty : fT ci k = .boolean) (hx : x = 0 ∨ x = 1) (kk : Wp C j Q (pc + 3) ls st (sI h a k x) bc bs) : Wp C j Q pc ls (.int x :: .ref a :: st) h bc bs :=
  Wp.go (ins := .putfield i) (len := 3) hm (by show _ ∧ _; rw [hf]; exact ⟨hk, hci, Or.inl hfin, by rw [hty]; exact ⟨hx, kk⟩⟩)
theorem r_putR {i a b ci k q : Nat} (hm : (pc, Instr.putfield i, 3) ∈ pt j) (hf : fres (mO j) i = (ci, k, q)) (hci : ci < 10) (hk : hK h a = (0, ci)) (hfin : (clT ci k).2.2.2 = false ∨ ((clT ci k).2.2.2 = true ∧ (mY j).name = "<init>" ∧ mO j = ci)) (hty : (∃ C, fT ci k = .object C) ∨ ∃ t, fT ci k = .array t) (kk : Wp C j Q (pc + 3) ls st (sR h a k (some b)) bc bs) : Wp C j Q pc ls (.ref b :: .ref a :: st) h bc bs :=
  Wp.go (ins := .putfield i) (len := 3) hm (by
    show _ ∧ _
    rw [hf]
    refine ⟨hk, hci, hfin, ?_⟩
    rcases hty with ⟨D, e⟩ | ⟨t, e⟩ <;> rw [e] <;> exact kk)
theorem r_gets (hm : (pc, Instr.getstatic 103, 3) ∈ pt j) (ho : mO j = 3) (kk : Wp C j Q (pc + 3) ls (.ref 1 :: st) h bc bs) : Wp C j Q pc ls st h bc bs := Wp.go (ins := .getstatic 103) (len := 3) hm ⟨ho, rfl, kk⟩
theorem r_new {i ci q : Nat} (hm : (pc, Instr.new i, 3) ∈ pt j) (hn : nres (mO j) i = (ci, q)) (hci : ci < 10) (hc : 1 ≤ bc) (hs : clN ci ≤ bs) (kk : Wp C j Q (pc + 3) ls (.ref (hN h) :: st) (hnew h 0 ci) (bc - 1) (bs - clN ci)) : Wp C j Q pc ls st h bc bs :=
  Wp.go (ins := .new i) (len := 3) hm (by show _ ∧ _; rw [hn]; exact ⟨hci, hc, hs, kk⟩)
theorem r_vret (hm : (pc, Instr.return_, 1) ∈ pt j) (hr : mRt j = none) (hq : Q none h) : Wp C j Q pc ls [] h bc bs := Wp.go (ins := .return_) (len := 1) hm (show retK (mRt j) .return_ [] (fun v => Q v h) by rw [hr]; exact hq)
theorem r_iret {x : Int32} (hm : (pc, Instr.ireturn, 1) ∈ pt j) (hr : mRt j = some .int) (hq : Q (some (.int x)) h) : Wp C j Q pc ls [.int x] h bc bs := Wp.go (ins := .ireturn) (len := 1) hm (show retK (mRt j) .ireturn [.int x] (fun v => Q v h) by rw [hr]; exact hq)
theorem r_zret {x : Int32} (hm : (pc, Instr.ireturn, 1) ∈ pt j) (hr : mRt j = some .boolean) (hx : x = 0 ∨ x = 1) (hq : Q (some (.int x)) h) : Wp C j Q pc ls [.int x] h bc bs := Wp.go (ins := .ireturn) (len := 1) hm (show retK (mRt j) .ireturn [.int x] (fun v => Q v h) by rw [hr]; exact ⟨hx, hq⟩)
theorem r_lret {x : Int64} (hm : (pc, Instr.lreturn, 1) ∈ pt j) (hr : mRt j = some .long) (hq : Q (some (.long x)) h) : Wp C j Q pc ls [.long x] h bc bs := Wp.go (ins := .lreturn) (len := 1) hm (show retK (mRt j) .lreturn [.long x] (fun v => Q v h) by rw [hr]; exact hq)
theorem r_aret {a : Nat} {n : String} (hm : (pc, Instr.areturn, 1) ∈ pt j) (hr : mRt j = some (.object n)) (hq : Q (some (.ref a)) h) : Wp C j Q pc ls [.ref a] h bc bs := Wp.go (ins := .areturn) (len := 1) hm (show retK (mRt j) .areturn [.ref a] (fun v => Q v h) by rw [hr]; exact hq)
theorem r_nret {n : String} (hm : (pc, Instr.areturn, 1) ∈ pt j) (hr : mRt j = some (.object n)) (hq : Q (some .null) h) : Wp C j Q pc ls [.null] h bc bs := Wp.go (ins := .areturn) (len := 1) hm (show retK (mRt j) .areturn [.null] (fun v => Q v h) by rw [hr]; exact hq)
end ROW
section RCALL
variable {d : Nat} {j : Nat} {Q : resP} {pc : Nat} {ls : List (Nat × Value)} {st : List Value} {h h' : hp} {bc bs mc ms : Nat}
/-- a virtual call: n arguments and the receiver, cut off the stack by 'hst' -/
theorem r_cV {i ca n q a : Nat} {as rest : List Value} {v : Option Value} (hm : (pc, Instr.invokevirtual i, 3) ∈ pt j) (hc : cres (mO j) i = (1, ca, n, q)) (hd : st.drop n = .ref a :: rest) (ht : (st.take n).reverse = as) (hk : hK h a = (0, mO ca)) (h8 : cats rest ≤ 8) (h1 : mc ≤ bc) (h2 : ms ≤ bs) (hR : Run d ca (.ref a :: as) h mc ms v h')
    (kk : Wp (Ex d) j Q (pc + 3) ls (v.toList ++ rest) h' (bc - mc) (bs - ms)) : Wp (Ex d) j Q pc ls st h bc bs :=
  Wp.go (ins := .invokevirtual i) (len := 3) hm (by
    show _ ∧ _
    rw [hc]
    refine ⟨rfl, ?_⟩
    dsimp only
    rw [hd, ht]
    exact ⟨hk, h8, mc, ms, fun v' h'' => v' = v ∧ h'' = h', h1, h2, hR _ ⟨rfl, rfl⟩, fun v' h'' e => by obtain ⟨rfl, rfl⟩ := e; exact kk⟩)
theorem r_cS {i ca n q : Nat} {as rest : List Value} {v : Option Value} (hm : (pc, Instr.invokestatic i, 3) ∈ pt j) (hc : cres (mO j) i = (2, ca, n, q)) (hl : n ≤ st.length) (hd : st.drop n = rest) (ht : (st.take n).reverse = as) (h8 : cats rest ≤ 8) (h1 : mc ≤ bc) (h2 : ms ≤ bs) (hR : Run d ca as h mc ms v h')
    (kk : Wp (Ex d) j Q (pc + 3) ls (v.toList ++ rest) h' (bc - mc) (bs - ms)) : Wp (Ex d) j Q pc ls st h bc bs :=
  Wp.go (ins := .invokestatic i) (len := 3) hm (by
    show _ ∨ _
    rw [hc]
    refine Or.inl ⟨rfl, hl, ?_⟩
    dsimp only
    rw [hd, ht]
    exact ⟨h8, mc, ms, fun v' h'' => v' = v ∧ h'' = h', h1, h2, hR _ ⟨rfl, rfl⟩, fun v' h'' e => by obtain ⟨rfl, rfl⟩ := e; exact kk⟩)
theorem r_cI {i kd ca n q a : Nat} {as rest : List Value} {v : Option Value} (hm : (pc, Instr.invokespecial i, 3) ∈ pt j) (hc : cres (mO j) i = (kd, ca, n, q)) (hkd : kd = 3 ∨ kd = 5) (hd : st.drop n = .ref a :: rest) (ht : (st.take n).reverse = as) (h8 : cats rest ≤ 8) (h1 : mc ≤ bc) (h2 : ms ≤ bs) (hR : Run d ca (.ref a :: as) h mc ms v h')
    (kk : Wp (Ex d) j Q (pc + 3) ls (v.toList ++ rest) h' (bc - mc) (bs - ms)) : Wp (Ex d) j Q pc ls st h bc bs :=
  Wp.go (ins := .invokespecial i) (len := 3) hm (by
    show _ ∨ _
    rw [hc]
    refine Or.inr ⟨hkd, ?_⟩
    dsimp only
    rw [hd, ht]
    exact ⟨h8, mc, ms, fun v' h'' => v' = v ∧ h'' = h', h1, h2, hR _ ⟨rfl, rfl⟩, fun v' h'' e => by obtain ⟨rfl, rfl⟩ := e; exact kk⟩)
theorem r_obj {C : callP} {i a q c n : Nat} (hm : (pc, Instr.invokespecial i, 3) ∈ pt j) (hc : cres (mO j) i = (4, c, n, q)) (h8 : cats st ≤ 8) (kk : Wp C j Q (pc + 3) ls st h bc bs) : Wp C j Q pc ls (.ref a :: st) h bc bs :=
  Wp.go (ins := .invokespecial i) (len := 3) hm (by
    show _ ∨ _
    rw [hc]
    exact Or.inl ⟨rfl, h8, kk⟩)
theorem r_max {C : callP} {i q c n : Nat} {x y : Int32} (hm : (pc, Instr.invokestatic i, 3) ∈ pt j) (hc : cres (mO j) i = (6, c, n, q)) (h8 : cats st ≤ 8) (kk : Wp C j Q (pc + 3) ls (.int (if x < y then y else x) :: st) h bc bs) : Wp C j Q pc ls (.int y :: .int x :: st) h bc bs :=
  Wp.go (ins := .invokestatic i) (len := 3) hm (by
    show _ ∨ _
    rw [hc]
    exact Or.inr (Or.inl ⟨rfl, h8, kk⟩))
theorem r_min {C : callP} {i q c n : Nat} {x y : Int32} (hm : (pc, Instr.invokestatic i, 3) ∈ pt j) (hc : cres (mO j) i = (7, c, n, q)) (h8 : cats st ≤ 8) (kk : Wp C j Q (pc + 3) ls (.int (if y < x then y else x) :: st) h bc bs) : Wp C j Q pc ls (.int y :: .int x :: st) h bc bs :=
  Wp.go (ins := .invokestatic i) (len := 3) hm (by
    show _ ∨ _
    rw [hc]
    exact Or.inr (Or.inr ⟨rfl, h8, kk⟩))
end RCALL
end
section
theorem q0 {i : Nat} {q : Nat × Instr × Nat} (h : pL_law[i]? = some q) : q ∈ pt 0 := List.mem_of_getElem? h
theorem q1 {i : Nat} {q : Nat × Instr × Nat} (h : pX0_init[i]? = some q) : q ∈ pt 1 := List.mem_of_getElem? h
theorem q2 {i : Nat} {q : Nat × Instr × Nat} (h : pX0_parse[i]? = some q) : q ∈ pt 2 := List.mem_of_getElem? h
theorem q3 {i : Nat} {q : Nat × Instr × Nat} (h : pX0_fail[i]? = some q) : q ∈ pt 3 := List.mem_of_getElem? h
theorem q4 {i : Nat} {q : Nat × Instr × Nat} (h : pX0_andOf[i]? = some q) : q ∈ pt 4 := List.mem_of_getElem? h
theorem q5 {i : Nat} {q : Nat × Instr × Nat} (h : pX0_sideOf[i]? = some q) : q ∈ pt 5 := List.mem_of_getElem? h
theorem q6 {i : Nat} {q : Nat × Instr × Nat} (h : pX0_startAnew[i]? = some q) : q ∈ pt 6 := List.mem_of_getElem? h
theorem q7 {i : Nat} {q : Nat × Instr × Nat} (h : pX0_parseHead[i]? = some q) : q ∈ pt 7 := List.mem_of_getElem? h
theorem q8 {i : Nat} {q : Nat × Instr × Nat} (h : pX0_parseHeadNumber[i]? = some q) : q ∈ pt 8 := List.mem_of_getElem? h
theorem q9 {i : Nat} {q : Nat × Instr × Nat} (h : pX0_askHeadNumbers[i]? = some q) : q ∈ pt 9 := List.mem_of_getElem? h
theorem q10 {i : Nat} {q : Nat × Instr × Nat} (h : pX0_isBadHeadNumber[i]? = some q) : q ∈ pt 10 := List.mem_of_getElem? h
theorem q11 {i : Nat} {q : Nat × Instr × Nat} (h : pX0_hasTooFewVariables[i]? = some q) : q ∈ pt 11 := List.mem_of_getElem? h
theorem q12 {i : Nat} {q : Nat × Instr × Nat} (h : pX0_parseInputLines[i]? = some q) : q ∈ pt 12 := List.mem_of_getElem? h
theorem q13 {i : Nat} {q : Nat × Instr × Nat} (h : pX0_parseOutLines[i]? = some q) : q ∈ pt 13 := List.mem_of_getElem? h
theorem q14 {i : Nat} {q : Nat × Instr × Nat} (h : pX0_parseAndLines[i]? = some q) : q ∈ pt 14 := List.mem_of_getElem? h
theorem q15 {i : Nat} {q : Nat × Instr × Nat} (h : pX0_parseDefinition[i]? = some q) : q ∈ pt 15 := List.mem_of_getElem? h
theorem q16 {i : Nat} {q : Nat × Instr × Nat} (h : pX0_parseUse[i]? = some q) : q ∈ pt 16 := List.mem_of_getElem? h
theorem q17 {i : Nat} {q : Nat × Instr × Nat} (h : pX0_parseNumber[i]? = some q) : q ∈ pt 17 := List.mem_of_getElem? h
theorem q18 {i : Nat} {q : Nat × Instr × Nat} (h : pX0_expect[i]? = some q) : q ∈ pt 18 := List.mem_of_getElem? h
theorem q19 {i : Nat} {q : Nat × Instr × Nat} (h : pX0_failIf[i]? = some q) : q ∈ pt 19 := List.mem_of_getElem? h
theorem q20 {i : Nat} {q : Nat × Instr × Nat} (h : pX0_findNotDefined[i]? = some q) : q ∈ pt 20 := List.mem_of_getElem? h
theorem q21 {i : Nat} {q : Nat × Instr × Nat} (h : pX1_init[i]? = some q) : q ∈ pt 21 := List.mem_of_getElem? h
theorem q22 {i : Nat} {q : Nat × Instr × Nat} (h : pX1_arrange[i]? = some q) : q ∈ pt 22 := List.mem_of_getElem? h
theorem q23 {i : Nat} {q : Nat × Instr × Nat} (h : pX1_fill[i]? = some q) : q ∈ pt 23 := List.mem_of_getElem? h
theorem q24 {i : Nat} {q : Nat × Instr × Nat} (h : pX1_signalOf[i]? = some q) : q ∈ pt 24 := List.mem_of_getElem? h
theorem q25 {i : Nat} {q : Nat × Instr × Nat} (h : pX1_firstReady[i]? = some q) : q ∈ pt 25 := List.mem_of_getElem? h
theorem q26 {i : Nat} {q : Nat × Instr × Nat} (h : pX1_isThere[i]? = some q) : q ∈ pt 26 := List.mem_of_getElem? h
theorem q27 {i : Nat} {q : Nat × Instr × Nat} (h : pX1_failAtFirstLoop[i]? = some q) : q ∈ pt 27 := List.mem_of_getElem? h
theorem q28 {i : Nat} {q : Nat × Instr × Nat} (h : pX1_needsItself[i]? = some q) : q ∈ pt 28 := List.mem_of_getElem? h
theorem q29 {i : Nat} {q : Nat × Instr × Nat} (h : pX1_reachSides[i]? = some q) : q ∈ pt 29 := List.mem_of_getElem? h
theorem q30 {i : Nat} {q : Nat × Instr × Nat} (h : pX1_reach[i]? = some q) : q ∈ pt 30 := List.mem_of_getElem? h
theorem q31 {i : Nat} {q : Nat × Instr × Nat} (h : pX2_init[i]? = some q) : q ∈ pt 31 := List.mem_of_getElem? h
theorem q32 {i : Nat} {q : Nat × Instr × Nat} (h : pX2_reset[i]? = some q) : q ∈ pt 32 := List.mem_of_getElem? h
theorem q33 {i : Nat} {q : Nat × Instr × Nat} (h : pX2_hasSignal[i]? = some q) : q ∈ pt 33 := List.mem_of_getElem? h
theorem q34 {i : Nat} {q : Nat × Instr × Nat} (h : pX2_canTake[i]? = some q) : q ∈ pt 34 := List.mem_of_getElem? h
theorem q35 {i : Nat} {q : Nat × Instr × Nat} (h : pX2_addGate[i]? = some q) : q ∈ pt 35 := List.mem_of_getElem? h
theorem q36 {i : Nat} {q : Nat × Instr × Nat} (h : pX2_addOut[i]? = some q) : q ∈ pt 36 := List.mem_of_getElem? h
theorem q37 {i : Nat} {q : Nat × Instr × Nat} (h : pX2_literalOf[i]? = some q) : q ∈ pt 37 := List.mem_of_getElem? h
theorem q38 {i : Nat} {q : Nat × Instr × Nat} (h : pX2_plain[i]? = some q) : q ∈ pt 38 := List.mem_of_getElem? h
theorem q39 {i : Nat} {q : Nat × Instr × Nat} (h : pX3_init[i]? = some q) : q ∈ pt 39 := List.mem_of_getElem? h
theorem q40 {i : Nat} {q : Nat × Instr × Nat} (h : pX3_bringUp[i]? = some q) : q ∈ pt 40 := List.mem_of_getElem? h
theorem q41 {i : Nat} {q : Nat × Instr × Nat} (h : pX3_isAnd[i]? = some q) : q ∈ pt 41 := List.mem_of_getElem? h
theorem q42 {i : Nat} {q : Nat × Instr × Nat} (h : pX3_bitOf[i]? = some q) : q ∈ pt 42 := List.mem_of_getElem? h
theorem q43 {i : Nat} {q : Nat × Instr × Nat} (h : pX3_firstWordApart[i]? = some q) : q ∈ pt 43 := List.mem_of_getElem? h
theorem q44 {i : Nat} {q : Nat × Instr × Nat} (h : pX3_likeness[i]? = some q) : q ∈ pt 44 := List.mem_of_getElem? h
theorem q45 {i : Nat} {q : Nat × Instr × Nat} (h : pX3_restart[i]? = some q) : q ∈ pt 45 := List.mem_of_getElem? h
theorem q46 {i : Nat} {q : Nat × Instr × Nat} (h : pX3_makeFalse[i]? = some q) : q ∈ pt 46 := List.mem_of_getElem? h
theorem q47 {i : Nat} {q : Nat × Instr × Nat} (h : pX3_makeInput[i]? = some q) : q ∈ pt 47 := List.mem_of_getElem? h
theorem q48 {i : Nat} {q : Nat × Instr × Nat} (h : pX3_makeGate[i]? = some q) : q ∈ pt 48 := List.mem_of_getElem? h
theorem q49 {i : Nat} {q : Nat × Instr × Nat} (h : pX3_makeKind[i]? = some q) : q ∈ pt 49 := List.mem_of_getElem? h
theorem q50 {i : Nat} {q : Nat × Instr × Nat} (h : pX3_makeChoice[i]? = some q) : q ∈ pt 50 := List.mem_of_getElem? h
theorem q51 {i : Nat} {q : Nat × Instr × Nat} (h : pX3_makeMajority[i]? = some q) : q ∈ pt 51 := List.mem_of_getElem? h
theorem q52 {i : Nat} {q : Nat × Instr × Nat} (h : pX3_makeAnd[i]? = some q) : q ∈ pt 52 := List.mem_of_getElem? h
theorem q53 {i : Nat} {q : Nat × Instr × Nat} (h : pX3_addAnd[i]? = some q) : q ∈ pt 53 := List.mem_of_getElem? h
theorem q54 {i : Nat} {q : Nat × Instr × Nat} (h : pX3_addNode[i]? = some q) : q ∈ pt 54 := List.mem_of_getElem? h
theorem q55 {i : Nat} {q : Nat × Instr × Nat} (h : pX3_wordOf[i]? = some q) : q ∈ pt 55 := List.mem_of_getElem? h
theorem q56 {i : Nat} {q : Nat × Instr × Nat} (h : pX4_init[i]? = some q) : q ∈ pt 56 := List.mem_of_getElem? h
theorem q57 {i : Nat} {q : Nat × Instr × Nat} (h : pX4_find[i]? = some q) : q ∈ pt 57 := List.mem_of_getElem? h
theorem q58 {i : Nat} {q : Nat × Instr × Nat} (h : pX4_leaderOf[i]? = some q) : q ∈ pt 58 := List.mem_of_getElem? h
theorem q59 {i : Nat} {q : Nat × Instr × Nat} (h : pX5_init[i]? = some q) : q ∈ pt 59 := List.mem_of_getElem? h
theorem q60 {i : Nat} {q : Nat × Instr × Nat} (h : pX5_run[i]? = some q) : q ∈ pt 60 := List.mem_of_getElem? h
theorem q61 {i : Nat} {q : Nat × Instr × Nat} (h : pX5_representativeOf[i]? = some q) : q ∈ pt 61 := List.mem_of_getElem? h
theorem q62 {i : Nat} {q : Nat × Instr × Nat} (h : pX5_askCandidate[i]? = some q) : q ∈ pt 62 := List.mem_of_getElem? h
theorem q63 {i : Nat} {q : Nat × Instr × Nat} (h : pX5_findNeeded[i]? = some q) : q ∈ pt 63 := List.mem_of_getElem? h
theorem q64 {i : Nat} {q : Nat × Instr × Nat} (h : pX5_markOuts[i]? = some q) : q ∈ pt 64 := List.mem_of_getElem? h
theorem q65 {i : Nat} {q : Nat × Instr × Nat} (h : pX5_mark[i]? = some q) : q ∈ pt 65 := List.mem_of_getElem? h
theorem q66 {i : Nat} {q : Nat × Instr × Nat} (h : pX6_init[i]? = some q) : q ∈ pt 66 := List.mem_of_getElem? h
theorem q67 {i : Nat} {q : Nat × Instr × Nat} (h : pX6_append[i]? = some q) : q ∈ pt 67 := List.mem_of_getElem? h
theorem q68 {i : Nat} {q : Nat × Instr × Nat} (h : pX6_byteAt[i]? = some q) : q ∈ pt 68 := List.mem_of_getElem? h
theorem q69 {i : Nat} {q : Nat × Instr × Nat} (h : pX6_hasDigitAt[i]? = some q) : q ∈ pt 69 := List.mem_of_getElem? h
theorem q70 {i : Nat} {q : Nat × Instr × Nat} (h : pX7_init[i]? = some q) : q ∈ pt 70 := List.mem_of_getElem? h
theorem q71 {i : Nat} {q : Nat × Instr × Nat} (h : pX7_empty[i]? = some q) : q ∈ pt 71 := List.mem_of_getElem? h
theorem q72 {i : Nat} {q : Nat × Instr × Nat} (h : pX7_has[i]? = some q) : q ∈ pt 72 := List.mem_of_getElem? h
theorem q73 {i : Nat} {q : Nat × Instr × Nat} (h : pX7_add[i]? = some q) : q ∈ pt 73 := List.mem_of_getElem? h
theorem q74 {i : Nat} {q : Nat × Instr × Nat} (h : pX8_init[i]? = some q) : q ∈ pt 74 := List.mem_of_getElem? h
theorem q75 {i : Nat} {q : Nat × Instr × Nat} (h : pX8_inputs[i]? = some q) : q ∈ pt 75 := List.mem_of_getElem? h
theorem q76 {i : Nat} {q : Nat × Instr × Nat} (h : pX8_gate[i]? = some q) : q ∈ pt 76 := List.mem_of_getElem? h
theorem q77 {i : Nat} {q : Nat × Instr × Nat} (h : pX8_output[i]? = some q) : q ∈ pt 77 := List.mem_of_getElem? h
theorem q78 {i : Nat} {q : Nat × Instr × Nat} (h : pX8_clear[i]? = some q) : q ∈ pt 78 := List.mem_of_getElem? h
theorem q79 {i : Nat} {q : Nat × Instr × Nat} (h : pX8_feed[i]? = some q) : q ∈ pt 79 := List.mem_of_getElem? h
theorem q80 {i : Nat} {q : Nat × Instr × Nat} (h : pX8_end[i]? = some q) : q ∈ pt 80 := List.mem_of_getElem? h
theorem q81 {i : Nat} {q : Nat × Instr × Nat} (h : pX8_read[i]? = some q) : q ∈ pt 81 := List.mem_of_getElem? h
theorem q82 {i : Nat} {q : Nat × Instr × Nat} (h : pX8_place[i]? = some q) : q ∈ pt 82 := List.mem_of_getElem? h
theorem q83 {i : Nat} {q : Nat × Instr × Nat} (h : pX8_value[i]? = some q) : q ∈ pt 83 := List.mem_of_getElem? h
theorem q84 {i : Nat} {q : Nat × Instr × Nat} (h : pX8_vector[i]? = some q) : q ∈ pt 84 := List.mem_of_getElem? h
theorem q85 {i : Nat} {q : Nat × Instr × Nat} (h : pX8_forget[i]? = some q) : q ∈ pt 85 := List.mem_of_getElem? h
theorem q86 {i : Nat} {q : Nat × Instr × Nat} (h : pX8_given[i]? = some q) : q ∈ pt 86 := List.mem_of_getElem? h
theorem q87 {i : Nat} {q : Nat × Instr × Nat} (h : pX8_count[i]? = some q) : q ∈ pt 87 := List.mem_of_getElem? h
theorem q88 {i : Nat} {q : Nat × Instr × Nat} (h : pX8_node[i]? = some q) : q ∈ pt 88 := List.mem_of_getElem? h
theorem q89 {i : Nat} {q : Nat × Instr × Nat} (h : pX8_literal[i]? = some q) : q ∈ pt 89 := List.mem_of_getElem? h
theorem q90 {i : Nat} {q : Nat × Instr × Nat} (h : pX8_sweep[i]? = some q) : q ∈ pt 90 := List.mem_of_getElem? h
theorem q91 {i : Nat} {q : Nat × Instr × Nat} (h : pX8_swept[i]? = some q) : q ∈ pt 91 := List.mem_of_getElem? h
theorem q92 {i : Nat} {q : Nat × Instr × Nat} (h : pX8_told[i]? = some q) : q ∈ pt 92 := List.mem_of_getElem? h
theorem q93 {i : Nat} {q : Nat × Instr × Nat} (h : pX8_same[i]? = some q) : q ∈ pt 93 := List.mem_of_getElem? h
theorem q94 {i : Nat} {q : Nat × Instr × Nat} (h : pX8_differs[i]? = some q) : q ∈ pt 94 := List.mem_of_getElem? h
theorem q95 {i : Nat} {q : Nat × Instr × Nat} (h : pX8_verdict[i]? = some q) : q ∈ pt 95 := List.mem_of_getElem? h
theorem q96 {i : Nat} {q : Nat × Instr × Nat} (h : pX8_circuitAt[i]? = some q) : q ∈ pt 96 := List.mem_of_getElem? h
theorem q97 {i : Nat} {q : Nat × Instr × Nat} (h : pX8_isInputWord[i]? = some q) : q ∈ pt 97 := List.mem_of_getElem? h
theorem q98 {i : Nat} {q : Nat × Instr × Nat} (h : pX8_noteMoreOfACircuit[i]? = some q) : q ∈ pt 98 := List.mem_of_getElem? h
theorem q99 {i : Nat} {q : Nat × Instr × Nat} (h : pX8_noteNewCircuit[i]? = some q) : q ∈ pt 99 := List.mem_of_getElem? h
theorem q100 {i : Nat} {q : Nat × Instr × Nat} (h : pX8_bringUpGroups[i]? = some q) : q ∈ pt 100 := List.mem_of_getElem? h
theorem q101 {i : Nat} {q : Nat × Instr × Nat} (h : pX8_bothHaveOut[i]? = some q) : q ∈ pt 101 := List.mem_of_getElem? h
theorem q102 {i : Nat} {q : Nat × Instr × Nat} (h : pX8_firstWordApart[i]? = some q) : q ∈ pt 102 := List.mem_of_getElem? h
theorem q103 {i : Nat} {q : Nat × Instr × Nat} (h : pX9_init[i]? = some q) : q ∈ pt 103 := List.mem_of_getElem? h
theorem q104 {i : Nat} {q : Nat × Instr × Nat} (h : pX9_words[i]? = some q) : q ∈ pt 104 := List.mem_of_getElem? h
theorem q105 {i : Nat} {q : Nat × Instr × Nat} (h : pX9_isCircuit[i]? = some q) : q ∈ pt 105 := List.mem_of_getElem? h
theorem q106 {i : Nat} {q : Nat × Instr × Nat} (h : pX9_changed[i]? = some q) : q ∈ pt 106 := List.mem_of_getElem? h
theorem q107 {i : Nat} {q : Nat × Instr × Nat} (h : pX9_empty[i]? = some q) : q ∈ pt 107 := List.mem_of_getElem? h
theorem q108 {i : Nat} {q : Nat × Instr × Nat} (h : pX9_inputs[i]? = some q) : q ∈ pt 108 := List.mem_of_getElem? h
theorem q109 {i : Nat} {q : Nat × Instr × Nat} (h : pX9_has[i]? = some q) : q ∈ pt 109 := List.mem_of_getElem? h
theorem q110 {i : Nat} {q : Nat × Instr × Nat} (h : pX9_gate[i]? = some q) : q ∈ pt 110 := List.mem_of_getElem? h
theorem q111 {i : Nat} {q : Nat × Instr × Nat} (h : pX9_output[i]? = some q) : q ∈ pt 111 := List.mem_of_getElem? h
theorem q112 {i : Nat} {q : Nat × Instr × Nat} (h : pX9_clear[i]? = some q) : q ∈ pt 112 := List.mem_of_getElem? h
theorem q113 {i : Nat} {q : Nat × Instr × Nat} (h : pX9_feed[i]? = some q) : q ∈ pt 113 := List.mem_of_getElem? h
theorem q114 {i : Nat} {q : Nat × Instr × Nat} (h : pX9_put[i]? = some q) : q ∈ pt 114 := List.mem_of_getElem? h
theorem q115 {i : Nat} {q : Nat × Instr × Nat} (h : pX9_end[i]? = some q) : q ∈ pt 115 := List.mem_of_getElem? h
theorem q116 {i : Nat} {q : Nat × Instr × Nat} (h : pX9_fails[i]? = some q) : q ∈ pt 116 := List.mem_of_getElem? h
theorem q117 {i : Nat} {q : Nat × Instr × Nat} (h : pX9_is[i]? = some q) : q ∈ pt 117 := List.mem_of_getElem? h
theorem q118 {i : Nat} {q : Nat × Instr × Nat} (h : pX9_number[i]? = some q) : q ∈ pt 118 := List.mem_of_getElem? h
theorem q119 {i : Nat} {q : Nat × Instr × Nat} (h : pX9_firstLine[i]? = some q) : q ∈ pt 119 := List.mem_of_getElem? h
theorem q120 {i : Nat} {q : Nat × Instr × Nat} (h : pX9_defines[i]? = some q) : q ∈ pt 120 := List.mem_of_getElem? h
theorem q121 {i : Nat} {q : Nat × Instr × Nat} (h : pX9_uses[i]? = some q) : q ∈ pt 121 := List.mem_of_getElem? h
theorem q122 {i : Nat} {q : Nat × Instr × Nat} (h : pX9_lines[i]? = some q) : q ∈ pt 122 := List.mem_of_getElem? h
theorem q123 {i : Nat} {q : Nat × Instr × Nat} (h : pX9_at0[i]? = some q) : q ∈ pt 123 := List.mem_of_getElem? h
theorem q124 {i : Nat} {q : Nat × Instr × Nat} (h : pX9_isDefined[i]? = some q) : q ∈ pt 124 := List.mem_of_getElem? h
theorem q125 {i : Nat} {q : Nat × Instr × Nat} (h : pX9_allDefined[i]? = some q) : q ∈ pt 125 := List.mem_of_getElem? h
theorem q126 {i : Nat} {q : Nat × Instr × Nat} (h : pX9_needsItself[i]? = some q) : q ∈ pt 126 := List.mem_of_getElem? h
theorem q127 {i : Nat} {q : Nat × Instr × Nat} (h : pX9_mark[i]? = some q) : q ∈ pt 127 := List.mem_of_getElem? h
theorem q128 {i : Nat} {q : Nat × Instr × Nat} (h : pX9_signalOf[i]? = some q) : q ∈ pt 128 := List.mem_of_getElem? h
theorem q129 {i : Nat} {q : Nat × Instr × Nat} (h : pX9_becomes[i]? = some q) : q ∈ pt 129 := List.mem_of_getElem? h
theorem q130 {i : Nat} {q : Nat × Instr × Nat} (h : pX9_read[i]? = some q) : q ∈ pt 130 := List.mem_of_getElem? h
theorem q131 {i : Nat} {q : Nat × Instr × Nat} (h : pX9_place[i]? = some q) : q ∈ pt 131 := List.mem_of_getElem? h
theorem q132 {i : Nat} {q : Nat × Instr × Nat} (h : pX9_newNode[i]? = some q) : q ∈ pt 132 := List.mem_of_getElem? h
theorem q133 {i : Nat} {q : Nat × Instr × Nat} (h : pX9_bits[i]? = some q) : q ∈ pt 133 := List.mem_of_getElem? h
theorem q134 {i : Nat} {q : Nat × Instr × Nat} (h : pX9_and[i]? = some q) : q ∈ pt 134 := List.mem_of_getElem? h
theorem q135 {i : Nat} {q : Nat × Instr × Nat} (h : pX9_side[i]? = some q) : q ∈ pt 135 := List.mem_of_getElem? h
theorem q136 {i : Nat} {q : Nat × Instr × Nat} (h : pX9_gateOf[i]? = some q) : q ∈ pt 136 := List.mem_of_getElem? h
theorem q137 {i : Nat} {q : Nat × Instr × Nat} (h : pX9_graph[i]? = some q) : q ∈ pt 137 := List.mem_of_getElem? h
theorem q138 {i : Nat} {q : Nat × Instr × Nat} (h : pX9_bit[i]? = some q) : q ∈ pt 138 := List.mem_of_getElem? h
theorem q139 {i : Nat} {q : Nat × Instr × Nat} (h : pX9_unlike[i]? = some q) : q ∈ pt 139 := List.mem_of_getElem? h
theorem q140 {i : Nat} {q : Nat × Instr × Nat} (h : pX9_value[i]? = some q) : q ∈ pt 140 := List.mem_of_getElem? h
theorem q141 {i : Nat} {q : Nat × Instr × Nat} (h : pX9_isGiven[i]? = some q) : q ∈ pt 141 := List.mem_of_getElem? h
theorem q142 {i : Nat} {q : Nat × Instr × Nat} (h : pX9_give[i]? = some q) : q ∈ pt 142 := List.mem_of_getElem? h
theorem q143 {i : Nat} {q : Nat × Instr × Nat} (h : pX9_vector[i]? = some q) : q ∈ pt 143 := List.mem_of_getElem? h
theorem q144 {i : Nat} {q : Nat × Instr × Nat} (h : pX9_forget[i]? = some q) : q ∈ pt 144 := List.mem_of_getElem? h
theorem q145 {i : Nat} {q : Nat × Instr × Nat} (h : pX9_given[i]? = some q) : q ∈ pt 145 := List.mem_of_getElem? h
theorem q146 {i : Nat} {q : Nat × Instr × Nat} (h : pX9_like[i]? = some q) : q ∈ pt 146 := List.mem_of_getElem? h
theorem q147 {i : Nat} {q : Nat × Instr × Nat} (h : pX9_leastLike[i]? = some q) : q ∈ pt 147 := List.mem_of_getElem? h
theorem q148 {i : Nat} {q : Nat × Instr × Nat} (h : pX9_count[i]? = some q) : q ∈ pt 148 := List.mem_of_getElem? h
theorem q149 {i : Nat} {q : Nat × Instr × Nat} (h : pX9_node[i]? = some q) : q ∈ pt 149 := List.mem_of_getElem? h
theorem q150 {i : Nat} {q : Nat × Instr × Nat} (h : pX9_literal[i]? = some q) : q ∈ pt 150 := List.mem_of_getElem? h
theorem q151 {i : Nat} {q : Nat × Instr × Nat} (h : pX9_candidate[i]? = some q) : q ∈ pt 151 := List.mem_of_getElem? h
theorem q152 {i : Nat} {q : Nat × Instr × Nat} (h : pX9_sweep[i]? = some q) : q ∈ pt 152 := List.mem_of_getElem? h
theorem q153 {i : Nat} {q : Nat × Instr × Nat} (h : pX9_need[i]? = some q) : q ∈ pt 153 := List.mem_of_getElem? h
theorem q154 {i : Nat} {q : Nat × Instr × Nat} (h : pX9_swept[i]? = some q) : q ∈ pt 154 := List.mem_of_getElem? h
theorem q155 {i : Nat} {q : Nat × Instr × Nat} (h : pX9_told[i]? = some q) : q ∈ pt 155 := List.mem_of_getElem? h
theorem q156 {i : Nat} {q : Nat × Instr × Nat} (h : pX9_both[i]? = some q) : q ∈ pt 156 := List.mem_of_getElem? h
theorem q157 {i : Nat} {q : Nat × Instr × Nat} (h : pX9_differs[i]? = some q) : q ∈ pt 157 := List.mem_of_getElem? h
theorem q158 {i : Nat} {q : Nat × Instr × Nat} (h : pX9_same[i]? = some q) : q ∈ pt 158 := List.mem_of_getElem? h
theorem q159 {i : Nat} {q : Nat × Instr × Nat} (h : pX9_verdict[i]? = some q) : q ∈ pt 159 := List.mem_of_getElem? h
theorem q160 {i : Nat} {q : Nat × Instr × Nat} (h : pJ13_bitCount_95d88[i]? = some q) : q ∈ pt 160 := List.mem_of_getElem? h
theorem q161 {i : Nat} {q : Nat × Instr × Nat} (h : pJ7_fill_d0a16[i]? = some q) : q ∈ pt 161 := List.mem_of_getElem? h
theorem q162 {i : Nat} {q : Nat × Instr × Nat} (h : pJ7_fill_53178[i]? = some q) : q ∈ pt 162 := List.mem_of_getElem? h
end
section
section ROWN
variable {C : callP} {j : Nat} {Q : resP} {pc : Nat} {ls : List (Nat × Value)} {st : List Value} {h : hp} {bc bs : Nat}
theorem r_iaN {a n i : Nat} {x : Int32} (hm : (pc, Instr.iaload, 1) ∈ pt j) (hk : hK h a = (1, n)) (hi : i < n) (hn : n < 2 ^ 31) (hx : hI h a i = x) (kk : Wp C j Q (pc + 1) ls (.int x :: st) h bc bs) : Wp C j Q pc ls (.int (nI i) :: .ref a :: st) h bc bs :=
  r_iaload hm hk (vp_in_nI hi hn) (by rw [nI_clamp (by omega)]; exact hx) kk
theorem r_laN {a n i : Nat} {x : Int64} (hm : (pc, Instr.laload, 1) ∈ pt j) (hk : hK h a = (2, n)) (hi : i < n) (hn : n < 2 ^ 31) (hx : hJ h a i = x) (kk : Wp C j Q (pc + 1) ls (.long x :: st) h bc bs) : Wp C j Q pc ls (.int (nI i) :: .ref a :: st) h bc bs :=
  r_laload hm hk (vp_in_nI hi hn) (by rw [nI_clamp (by omega)]; exact hx) kk
theorem r_baN {a n i : Nat} {x : Int32} (hm : (pc, Instr.baload, 1) ∈ pt j) (hk : hK h a = (3, n)) (hi : i < n) (hn : n < 2 ^ 31) (hx : hI h a i = x) (kk : Wp C j Q (pc + 1) ls (.int x :: st) h bc bs) : Wp C j Q pc ls (.int (nI i) :: .ref a :: st) h bc bs :=
  r_baload hm hk (vp_in_nI hi hn) (by rw [nI_clamp (by omega)]; exact hx) kk
theorem r_zaN {a n i : Nat} {x : Int32} (hm : (pc, Instr.baload, 1) ∈ pt j) (hk : hK h a = (4, n)) (hi : i < n) (hn : n < 2 ^ 31) (hx : hI h a i = x) (kk : Wp C j Q (pc + 1) ls (.int x :: st) h bc bs) : Wp C j Q pc ls (.int (nI i) :: .ref a :: st) h bc bs :=
  r_zaload hm hk (vp_in_nI hi hn) (by rw [nI_clamp (by omega)]; exact hx) kk
theorem r_aa5N {a n b i : Nat} (hm : (pc, Instr.aaload, 1) ∈ pt j) (hk : hK h a = (5, n)) (hi : i < n) (hn : n < 2 ^ 31) (hx : hR h a i = some b) (kk : Wp C j Q (pc + 1) ls (.ref b :: st) h bc bs) : Wp C j Q pc ls (.int (nI i) :: .ref a :: st) h bc bs :=
  r_aaload5 hm hk (vp_in_nI hi hn) (by rw [nI_clamp (by omega)]; exact hx) kk
theorem r_aa6N {a n b i : Nat} (hm : (pc, Instr.aaload, 1) ∈ pt j) (hk : hK h a = (6, n)) (hi : i < n) (hn : n < 2 ^ 31) (hx : hR h a i = some b) (kk : Wp C j Q (pc + 1) ls (.ref b :: st) h bc bs) : Wp C j Q pc ls (.int (nI i) :: .ref a :: st) h bc bs :=
  r_aaload6 hm hk (vp_in_nI hi hn) (by rw [nI_clamp (by omega)]; exact hx) kk
theorem r_iasN {a n i : Nat} {x : Int32} (hm : (pc, Instr.iastore, 1) ∈ pt j) (hk : hK h a = (1, n)) (hi : i < n) (hn : n < 2 ^ 31) (kk : Wp C j Q (pc + 1) ls st (sI h a i x) bc bs) : Wp C j Q pc ls (.int x :: .int (nI i) :: .ref a :: st) h bc bs :=
  r_iastore hm hk (vp_in_nI hi hn) (by rw [nI_clamp (by omega)]; exact kk)
theorem r_lasN {a n i : Nat} {x : Int64} (hm : (pc, Instr.lastore, 1) ∈ pt j) (hk : hK h a = (2, n)) (hi : i < n) (hn : n < 2 ^ 31) (kk : Wp C j Q (pc + 1) ls st (sJ h a i x) bc bs) : Wp C j Q pc ls (.long x :: .int (nI i) :: .ref a :: st) h bc bs :=
  r_lastore hm hk (vp_in_nI hi hn) (by rw [nI_clamp (by omega)]; exact kk)
theorem r_basN {a n i : Nat} {x y : Int32} (hm : (pc, Instr.bastore, 1) ∈ pt j) (hk : hK h a = (3, n)) (hi : i < n) (hn : n < 2 ^ 31) (hy : vp_nar .byte x = y) (kk : Wp C j Q (pc + 1) ls st (sI h a i y) bc bs) : Wp C j Q pc ls (.int x :: .int (nI i) :: .ref a :: st) h bc bs :=
  r_bastore hm hk (vp_in_nI hi hn) (by rw [nI_clamp (by omega), hy]; exact kk)
theorem r_zasN {a n i : Nat} {x y : Int32} (hm : (pc, Instr.bastore, 1) ∈ pt j) (hk : hK h a = (4, n)) (hi : i < n) (hn : n < 2 ^ 31) (hy : vp_nar .boolean x = y) (kk : Wp C j Q (pc + 1) ls st (sI h a i y) bc bs) : Wp C j Q pc ls (.int x :: .int (nI i) :: .ref a :: st) h bc bs :=
  r_zastore hm hk (vp_in_nI hi hn) (by rw [nI_clamp (by omega), hy]; exact kk)
end ROWN
end
section
/-! ===== the heap behind the two constructors: kinds, lengths, references ===== -/
def K1 (k : Nat) : Nat × Nat := if k < 71 then [(7, 0), (8, 6), (0, 8), (0, 2), (1, 120), (1, 120), (1, 120), (1, 120), (1, 10), (1, 132), (0, 2), (1, 120), (1, 120), (1, 120), (1, 120), (1, 10), (1, 132), (0, 7), (1, 4096), (2, 64), (1, 64), (0, 3), (1, 973), (1, 973), (1, 1946), (1, 973), (2, 973), (0, 4), (1, 973), (1, 973), (0, 5), (1, 973), (4, 973), (0, 6), (3, 3000), (0, 0), (1, 5), (1, 5), (1, 1001), (1, 248), (1, 248), (1, 119), (0, 1), (1, 119), (1, 119), (1, 119), (4, 119), (0, 9), (1, 2), (1, 2), (5, 2), (1, 120), (1, 120), (5, 2), (1, 120), (1, 120), (5, 2), (1, 120), (1, 120), (5, 2), (1, 120), (1, 120), (5, 2), (1, 10), (1, 10), (5, 2), (1, 120), (1, 120), (1, 1000), (1, 1000), (6, 1000)].getD k (9, 0) else if k < 1071 then (2, 64) else if k < 1080 then [(2, 64), (1, 4096), (1, 1000), (3, 3000), (1, 5), (1, 5), (1, 1002), (1, 1002), (5, 120)].getD (k - 1071) (9, 0) else if k < 1200 then (1, 3) else if k = 1200 then (5, 120) else if k < 1321 then (1, 3) else [(1, 10), (1, 10), (4, 120), (1, 1002), (4, 1002), (4, 1000)].getD (k - 1321) (9, 0)
def R1 (k j : Nat) : Option Nat := if k = 2 then ([some 3, some 10, some 17, some 21, some 27, some 30, some 33, some 35, some 42, none, none, none, none] : List (Option Nat)).getD j none else if k = 3 then ([some 4, some 5, some 6, some 7, some 8, some 9, none, none, none] : List (Option Nat)).getD j none else if k = 10 then ([some 11, some 12, some 13, some 14, some 15, some 16, none, none, none] : List (Option Nat)).getD j none else if k = 17 then ([some 18, some 19, some 20, none, none] : List (Option Nat)).getD j none else if k = 21 then ([some 3, some 10, some 22, some 23, some 24, some 25, some 26, none, none, none, none, none, none] : List (Option Nat)).getD j none else if k = 27 then ([some 28, some 29, none] : List (Option Nat)).getD j none else if k = 30 then ([some 31, some 32, none, none, none, none] : List (Option Nat)).getD j none else if k = 33 then ([some 34, none] : List (Option Nat)).getD j none else if k = 35 then ([some 33, some 36, some 37, some 38, some 39, some 40, some 41, none, none, none, none, none, none, none, none, none, none, none] : List (Option Nat)).getD j none else if k = 42 then ([some 35, some 43, some 44, some 45, some 46, none] : List (Option Nat)).getD j none else if k = 47 then ([none, none, some 48, some 49, some 50, some 53, some 56, some 59, some 62, some 65, none, none, some 68, some 69, some 70, some 1071, some 1072, none, none, some 1073, none, none, none, none, some 1074, none, none, none, none, none, some 1075, some 1076, some 1077, some 1078, some 1079, some 1200, some 1321, some 1322, some 1323, some 1324, some 1325, some 1326] : List (Option Nat)).getD j none else if k = 50 then ([some 51, some 52] : List (Option Nat)).getD j none else if k = 53 then ([some 54, some 55] : List (Option Nat)).getD j none else if k = 56 then ([some 57, some 58] : List (Option Nat)).getD j none else if k = 59 then ([some 60, some 61] : List (Option Nat)).getD j none else if k = 62 then ([some 63, some 64] : List (Option Nat)).getD j none else if k = 65 then ([some 66, some 67] : List (Option Nat)).getD j none else if k = 70 then (if j < 1000 then some (71 + j) else none) else if k = 1079 then (if j < 120 then some (1080 + j) else none) else if k = 1200 then (if j < 120 then some (1201 + j) else none) else none
/-- all but the graph's rows -/
def Sh (h : hp) : Prop := (∀ k, 2 ≤ k → k < 1327 → hK h k = K1 k) ∧ (∀ k j, 2 ≤ k → k < 1327 → ¬ (k = 21 ∧ j = 6) → hR h k j = R1 k j)
/-- the graph's rows: where, how long -/
def Rw (h : hp) (ρ ℓ : Nat) : Prop := hR h 21 6 = some ρ ∧ hK h ρ = (2, ℓ) ∧ (ρ = 26 ∨ 1327 ≤ ρ)
theorem k_2 {h : hp} (S : Sh h) : hK h 2 = (0, 8) := S.1 2 (by decide) (by decide)
theorem k_3 {h : hp} (S : Sh h) : hK h 3 = (0, 2) := S.1 3 (by decide) (by decide)
theorem k_4 {h : hp} (S : Sh h) : hK h 4 = (1, 120) := S.1 4 (by decide) (by decide)
theorem k_5 {h : hp} (S : Sh h) : hK h 5 = (1, 120) := S.1 5 (by decide) (by decide)
theorem k_6 {h : hp} (S : Sh h) : hK h 6 = (1, 120) := S.1 6 (by decide) (by decide)
theorem k_7 {h : hp} (S : Sh h) : hK h 7 = (1, 120) := S.1 7 (by decide) (by decide)
theorem k_8 {h : hp} (S : Sh h) : hK h 8 = (1, 10) := S.1 8 (by decide) (by decide)
theorem k_9 {h : hp} (S : Sh h) : hK h 9 = (1, 132) := S.1 9 (by decide) (by decide)
theorem k_10 {h : hp} (S : Sh h) : hK h 10 = (0, 2) := S.1 10 (by decide) (by decide)
theorem k_11 {h : hp} (S : Sh h) : hK h 11 = (1, 120) := S.1 11 (by decide) (by decide)
theorem k_12 {h : hp} (S : Sh h) : hK h 12 = (1, 120) := S.1 12 (by decide) (by decide)
theorem k_13 {h : hp} (S : Sh h) : hK h 13 = (1, 120) := S.1 13 (by decide) (by decide)
theorem k_14 {h : hp} (S : Sh h) : hK h 14 = (1, 120) := S.1 14 (by decide) (by decide)
theorem k_15 {h : hp} (S : Sh h) : hK h 15 = (1, 10) := S.1 15 (by decide) (by decide)
theorem k_16 {h : hp} (S : Sh h) : hK h 16 = (1, 132) := S.1 16 (by decide) (by decide)
theorem k_17 {h : hp} (S : Sh h) : hK h 17 = (0, 7) := S.1 17 (by decide) (by decide)
theorem k_18 {h : hp} (S : Sh h) : hK h 18 = (1, 4096) := S.1 18 (by decide) (by decide)
theorem k_19 {h : hp} (S : Sh h) : hK h 19 = (2, 64) := S.1 19 (by decide) (by decide)
theorem k_20 {h : hp} (S : Sh h) : hK h 20 = (1, 64) := S.1 20 (by decide) (by decide)
theorem k_21 {h : hp} (S : Sh h) : hK h 21 = (0, 3) := S.1 21 (by decide) (by decide)
theorem k_22 {h : hp} (S : Sh h) : hK h 22 = (1, 973) := S.1 22 (by decide) (by decide)
theorem k_23 {h : hp} (S : Sh h) : hK h 23 = (1, 973) := S.1 23 (by decide) (by decide)
theorem k_24 {h : hp} (S : Sh h) : hK h 24 = (1, 1946) := S.1 24 (by decide) (by decide)
theorem k_25 {h : hp} (S : Sh h) : hK h 25 = (1, 973) := S.1 25 (by decide) (by decide)
theorem k_26 {h : hp} (S : Sh h) : hK h 26 = (2, 973) := S.1 26 (by decide) (by decide)
theorem k_27 {h : hp} (S : Sh h) : hK h 27 = (0, 4) := S.1 27 (by decide) (by decide)
theorem k_28 {h : hp} (S : Sh h) : hK h 28 = (1, 973) := S.1 28 (by decide) (by decide)
theorem k_29 {h : hp} (S : Sh h) : hK h 29 = (1, 973) := S.1 29 (by decide) (by decide)
theorem k_30 {h : hp} (S : Sh h) : hK h 30 = (0, 5) := S.1 30 (by decide) (by decide)
theorem k_31 {h : hp} (S : Sh h) : hK h 31 = (1, 973) := S.1 31 (by decide) (by decide)
theorem k_32 {h : hp} (S : Sh h) : hK h 32 = (4, 973) := S.1 32 (by decide) (by decide)
theorem k_33 {h : hp} (S : Sh h) : hK h 33 = (0, 6) := S.1 33 (by decide) (by decide)
theorem k_34 {h : hp} (S : Sh h) : hK h 34 = (3, 3000) := S.1 34 (by decide) (by decide)
theorem k_35 {h : hp} (S : Sh h) : hK h 35 = (0, 0) := S.1 35 (by decide) (by decide)
theorem k_36 {h : hp} (S : Sh h) : hK h 36 = (1, 5) := S.1 36 (by decide) (by decide)
theorem k_37 {h : hp} (S : Sh h) : hK h 37 = (1, 5) := S.1 37 (by decide) (by decide)
theorem k_38 {h : hp} (S : Sh h) : hK h 38 = (1, 1001) := S.1 38 (by decide) (by decide)
theorem k_39 {h : hp} (S : Sh h) : hK h 39 = (1, 248) := S.1 39 (by decide) (by decide)
theorem k_40 {h : hp} (S : Sh h) : hK h 40 = (1, 248) := S.1 40 (by decide) (by decide)
theorem k_41 {h : hp} (S : Sh h) : hK h 41 = (1, 119) := S.1 41 (by decide) (by decide)
theorem k_42 {h : hp} (S : Sh h) : hK h 42 = (0, 1) := S.1 42 (by decide) (by decide)
theorem k_43 {h : hp} (S : Sh h) : hK h 43 = (1, 119) := S.1 43 (by decide) (by decide)
theorem k_44 {h : hp} (S : Sh h) : hK h 44 = (1, 119) := S.1 44 (by decide) (by decide)
theorem k_45 {h : hp} (S : Sh h) : hK h 45 = (1, 119) := S.1 45 (by decide) (by decide)
theorem k_46 {h : hp} (S : Sh h) : hK h 46 = (4, 119) := S.1 46 (by decide) (by decide)
theorem k_47 {h : hp} (S : Sh h) : hK h 47 = (0, 9) := S.1 47 (by decide) (by decide)
theorem k_48 {h : hp} (S : Sh h) : hK h 48 = (1, 2) := S.1 48 (by decide) (by decide)
theorem k_49 {h : hp} (S : Sh h) : hK h 49 = (1, 2) := S.1 49 (by decide) (by decide)
theorem k_50 {h : hp} (S : Sh h) : hK h 50 = (5, 2) := S.1 50 (by decide) (by decide)
theorem k_51 {h : hp} (S : Sh h) : hK h 51 = (1, 120) := S.1 51 (by decide) (by decide)
theorem k_52 {h : hp} (S : Sh h) : hK h 52 = (1, 120) := S.1 52 (by decide) (by decide)
theorem k_53 {h : hp} (S : Sh h) : hK h 53 = (5, 2) := S.1 53 (by decide) (by decide)
theorem k_54 {h : hp} (S : Sh h) : hK h 54 = (1, 120) := S.1 54 (by decide) (by decide)
theorem k_55 {h : hp} (S : Sh h) : hK h 55 = (1, 120) := S.1 55 (by decide) (by decide)
theorem k_56 {h : hp} (S : Sh h) : hK h 56 = (5, 2) := S.1 56 (by decide) (by decide)
theorem k_57 {h : hp} (S : Sh h) : hK h 57 = (1, 120) := S.1 57 (by decide) (by decide)
theorem k_58 {h : hp} (S : Sh h) : hK h 58 = (1, 120) := S.1 58 (by decide) (by decide)
theorem k_59 {h : hp} (S : Sh h) : hK h 59 = (5, 2) := S.1 59 (by decide) (by decide)
theorem k_60 {h : hp} (S : Sh h) : hK h 60 = (1, 120) := S.1 60 (by decide) (by decide)
theorem k_61 {h : hp} (S : Sh h) : hK h 61 = (1, 120) := S.1 61 (by decide) (by decide)
theorem k_62 {h : hp} (S : Sh h) : hK h 62 = (5, 2) := S.1 62 (by decide) (by decide)
theorem k_63 {h : hp} (S : Sh h) : hK h 63 = (1, 10) := S.1 63 (by decide) (by decide)
theorem k_64 {h : hp} (S : Sh h) : hK h 64 = (1, 10) := S.1 64 (by decide) (by decide)
theorem k_65 {h : hp} (S : Sh h) : hK h 65 = (5, 2) := S.1 65 (by decide) (by decide)
theorem k_66 {h : hp} (S : Sh h) : hK h 66 = (1, 120) := S.1 66 (by decide) (by decide)
theorem k_67 {h : hp} (S : Sh h) : hK h 67 = (1, 120) := S.1 67 (by decide) (by decide)
theorem k_68 {h : hp} (S : Sh h) : hK h 68 = (1, 1000) := S.1 68 (by decide) (by decide)
theorem k_69 {h : hp} (S : Sh h) : hK h 69 = (1, 1000) := S.1 69 (by decide) (by decide)
theorem k_70 {h : hp} (S : Sh h) : hK h 70 = (6, 1000) := S.1 70 (by decide) (by decide)
theorem k_1071 {h : hp} (S : Sh h) : hK h 1071 = (2, 64) := S.1 1071 (by decide) (by decide)
theorem k_1072 {h : hp} (S : Sh h) : hK h 1072 = (1, 4096) := S.1 1072 (by decide) (by decide)
theorem k_1073 {h : hp} (S : Sh h) : hK h 1073 = (1, 1000) := S.1 1073 (by decide) (by decide)
theorem k_1074 {h : hp} (S : Sh h) : hK h 1074 = (3, 3000) := S.1 1074 (by decide) (by decide)
theorem k_1075 {h : hp} (S : Sh h) : hK h 1075 = (1, 5) := S.1 1075 (by decide) (by decide)
theorem k_1076 {h : hp} (S : Sh h) : hK h 1076 = (1, 5) := S.1 1076 (by decide) (by decide)
theorem k_1077 {h : hp} (S : Sh h) : hK h 1077 = (1, 1002) := S.1 1077 (by decide) (by decide)
theorem k_1078 {h : hp} (S : Sh h) : hK h 1078 = (1, 1002) := S.1 1078 (by decide) (by decide)
theorem k_1079 {h : hp} (S : Sh h) : hK h 1079 = (5, 120) := S.1 1079 (by decide) (by decide)
theorem k_1200 {h : hp} (S : Sh h) : hK h 1200 = (5, 120) := S.1 1200 (by decide) (by decide)
theorem k_1321 {h : hp} (S : Sh h) : hK h 1321 = (1, 10) := S.1 1321 (by decide) (by decide)
theorem k_1322 {h : hp} (S : Sh h) : hK h 1322 = (1, 10) := S.1 1322 (by decide) (by decide)
theorem k_1323 {h : hp} (S : Sh h) : hK h 1323 = (4, 120) := S.1 1323 (by decide) (by decide)
theorem k_1324 {h : hp} (S : Sh h) : hK h 1324 = (1, 1002) := S.1 1324 (by decide) (by decide)
theorem k_1325 {h : hp} (S : Sh h) : hK h 1325 = (4, 1002) := S.1 1325 (by decide) (by decide)
theorem k_1326 {h : hp} (S : Sh h) : hK h 1326 = (4, 1000) := S.1 1326 (by decide) (by decide)
theorem r_2_0 {h : hp} (S : Sh h) : hR h 2 0 = some 3 := S.2 2 0 (by decide) (by decide) (by decide)
theorem r_2_1 {h : hp} (S : Sh h) : hR h 2 1 = some 10 := S.2 2 1 (by decide) (by decide) (by decide)
theorem r_2_2 {h : hp} (S : Sh h) : hR h 2 2 = some 17 := S.2 2 2 (by decide) (by decide) (by decide)
theorem r_2_3 {h : hp} (S : Sh h) : hR h 2 3 = some 21 := S.2 2 3 (by decide) (by decide) (by decide)
theorem r_2_4 {h : hp} (S : Sh h) : hR h 2 4 = some 27 := S.2 2 4 (by decide) (by decide) (by decide)
theorem r_2_5 {h : hp} (S : Sh h) : hR h 2 5 = some 30 := S.2 2 5 (by decide) (by decide) (by decide)
theorem r_2_6 {h : hp} (S : Sh h) : hR h 2 6 = some 33 := S.2 2 6 (by decide) (by decide) (by decide)
theorem r_2_7 {h : hp} (S : Sh h) : hR h 2 7 = some 35 := S.2 2 7 (by decide) (by decide) (by decide)
theorem r_2_8 {h : hp} (S : Sh h) : hR h 2 8 = some 42 := S.2 2 8 (by decide) (by decide) (by decide)
theorem r_3_0 {h : hp} (S : Sh h) : hR h 3 0 = some 4 := S.2 3 0 (by decide) (by decide) (by decide)
theorem r_3_1 {h : hp} (S : Sh h) : hR h 3 1 = some 5 := S.2 3 1 (by decide) (by decide) (by decide)
theorem r_3_2 {h : hp} (S : Sh h) : hR h 3 2 = some 6 := S.2 3 2 (by decide) (by decide) (by decide)
theorem r_3_3 {h : hp} (S : Sh h) : hR h 3 3 = some 7 := S.2 3 3 (by decide) (by decide) (by decide)
theorem r_3_4 {h : hp} (S : Sh h) : hR h 3 4 = some 8 := S.2 3 4 (by decide) (by decide) (by decide)
theorem r_3_5 {h : hp} (S : Sh h) : hR h 3 5 = some 9 := S.2 3 5 (by decide) (by decide) (by decide)
theorem r_10_0 {h : hp} (S : Sh h) : hR h 10 0 = some 11 := S.2 10 0 (by decide) (by decide) (by decide)
theorem r_10_1 {h : hp} (S : Sh h) : hR h 10 1 = some 12 := S.2 10 1 (by decide) (by decide) (by decide)
theorem r_10_2 {h : hp} (S : Sh h) : hR h 10 2 = some 13 := S.2 10 2 (by decide) (by decide) (by decide)
theorem r_10_3 {h : hp} (S : Sh h) : hR h 10 3 = some 14 := S.2 10 3 (by decide) (by decide) (by decide)
theorem r_10_4 {h : hp} (S : Sh h) : hR h 10 4 = some 15 := S.2 10 4 (by decide) (by decide) (by decide)
theorem r_10_5 {h : hp} (S : Sh h) : hR h 10 5 = some 16 := S.2 10 5 (by decide) (by decide) (by decide)
theorem r_17_0 {h : hp} (S : Sh h) : hR h 17 0 = some 18 := S.2 17 0 (by decide) (by decide) (by decide)
theorem r_17_1 {h : hp} (S : Sh h) : hR h 17 1 = some 19 := S.2 17 1 (by decide) (by decide) (by decide)
theorem r_17_2 {h : hp} (S : Sh h) : hR h 17 2 = some 20 := S.2 17 2 (by decide) (by decide) (by decide)
theorem r_21_0 {h : hp} (S : Sh h) : hR h 21 0 = some 3 := S.2 21 0 (by decide) (by decide) (by decide)
theorem r_21_1 {h : hp} (S : Sh h) : hR h 21 1 = some 10 := S.2 21 1 (by decide) (by decide) (by decide)
theorem r_21_2 {h : hp} (S : Sh h) : hR h 21 2 = some 22 := S.2 21 2 (by decide) (by decide) (by decide)
theorem r_21_3 {h : hp} (S : Sh h) : hR h 21 3 = some 23 := S.2 21 3 (by decide) (by decide) (by decide)
theorem r_21_4 {h : hp} (S : Sh h) : hR h 21 4 = some 24 := S.2 21 4 (by decide) (by decide) (by decide)
theorem r_21_5 {h : hp} (S : Sh h) : hR h 21 5 = some 25 := S.2 21 5 (by decide) (by decide) (by decide)
theorem r_27_0 {h : hp} (S : Sh h) : hR h 27 0 = some 28 := S.2 27 0 (by decide) (by decide) (by decide)
theorem r_27_1 {h : hp} (S : Sh h) : hR h 27 1 = some 29 := S.2 27 1 (by decide) (by decide) (by decide)
theorem r_30_0 {h : hp} (S : Sh h) : hR h 30 0 = some 31 := S.2 30 0 (by decide) (by decide) (by decide)
theorem r_30_1 {h : hp} (S : Sh h) : hR h 30 1 = some 32 := S.2 30 1 (by decide) (by decide) (by decide)
theorem r_33_0 {h : hp} (S : Sh h) : hR h 33 0 = some 34 := S.2 33 0 (by decide) (by decide) (by decide)
theorem r_35_0 {h : hp} (S : Sh h) : hR h 35 0 = some 33 := S.2 35 0 (by decide) (by decide) (by decide)
theorem r_35_1 {h : hp} (S : Sh h) : hR h 35 1 = some 36 := S.2 35 1 (by decide) (by decide) (by decide)
theorem r_35_2 {h : hp} (S : Sh h) : hR h 35 2 = some 37 := S.2 35 2 (by decide) (by decide) (by decide)
theorem r_35_3 {h : hp} (S : Sh h) : hR h 35 3 = some 38 := S.2 35 3 (by decide) (by decide) (by decide)
theorem r_35_4 {h : hp} (S : Sh h) : hR h 35 4 = some 39 := S.2 35 4 (by decide) (by decide) (by decide)
theorem r_35_5 {h : hp} (S : Sh h) : hR h 35 5 = some 40 := S.2 35 5 (by decide) (by decide) (by decide)
theorem r_35_6 {h : hp} (S : Sh h) : hR h 35 6 = some 41 := S.2 35 6 (by decide) (by decide) (by decide)
theorem r_42_0 {h : hp} (S : Sh h) : hR h 42 0 = some 35 := S.2 42 0 (by decide) (by decide) (by decide)
theorem r_42_1 {h : hp} (S : Sh h) : hR h 42 1 = some 43 := S.2 42 1 (by decide) (by decide) (by decide)
theorem r_42_2 {h : hp} (S : Sh h) : hR h 42 2 = some 44 := S.2 42 2 (by decide) (by decide) (by decide)
theorem r_42_3 {h : hp} (S : Sh h) : hR h 42 3 = some 45 := S.2 42 3 (by decide) (by decide) (by decide)
theorem r_42_4 {h : hp} (S : Sh h) : hR h 42 4 = some 46 := S.2 42 4 (by decide) (by decide) (by decide)
theorem r_47_2 {h : hp} (S : Sh h) : hR h 47 2 = some 48 := S.2 47 2 (by decide) (by decide) (by decide)
theorem r_47_3 {h : hp} (S : Sh h) : hR h 47 3 = some 49 := S.2 47 3 (by decide) (by decide) (by decide)
theorem r_47_4 {h : hp} (S : Sh h) : hR h 47 4 = some 50 := S.2 47 4 (by decide) (by decide) (by decide)
theorem r_47_5 {h : hp} (S : Sh h) : hR h 47 5 = some 53 := S.2 47 5 (by decide) (by decide) (by decide)
theorem r_47_6 {h : hp} (S : Sh h) : hR h 47 6 = some 56 := S.2 47 6 (by decide) (by decide) (by decide)
theorem r_47_7 {h : hp} (S : Sh h) : hR h 47 7 = some 59 := S.2 47 7 (by decide) (by decide) (by decide)
theorem r_47_8 {h : hp} (S : Sh h) : hR h 47 8 = some 62 := S.2 47 8 (by decide) (by decide) (by decide)
theorem r_47_9 {h : hp} (S : Sh h) : hR h 47 9 = some 65 := S.2 47 9 (by decide) (by decide) (by decide)
theorem r_47_12 {h : hp} (S : Sh h) : hR h 47 12 = some 68 := S.2 47 12 (by decide) (by decide) (by decide)
theorem r_47_13 {h : hp} (S : Sh h) : hR h 47 13 = some 69 := S.2 47 13 (by decide) (by decide) (by decide)
theorem r_47_14 {h : hp} (S : Sh h) : hR h 47 14 = some 70 := S.2 47 14 (by decide) (by decide) (by decide)
theorem r_47_15 {h : hp} (S : Sh h) : hR h 47 15 = some 1071 := S.2 47 15 (by decide) (by decide) (by decide)
theorem r_47_16 {h : hp} (S : Sh h) : hR h 47 16 = some 1072 := S.2 47 16 (by decide) (by decide) (by decide)
theorem r_47_19 {h : hp} (S : Sh h) : hR h 47 19 = some 1073 := S.2 47 19 (by decide) (by decide) (by decide)
theorem r_47_24 {h : hp} (S : Sh h) : hR h 47 24 = some 1074 := S.2 47 24 (by decide) (by decide) (by decide)
theorem r_47_30 {h : hp} (S : Sh h) : hR h 47 30 = some 1075 := S.2 47 30 (by decide) (by decide) (by decide)
theorem r_47_31 {h : hp} (S : Sh h) : hR h 47 31 = some 1076 := S.2 47 31 (by decide) (by decide) (by decide)
theorem r_47_32 {h : hp} (S : Sh h) : hR h 47 32 = some 1077 := S.2 47 32 (by decide) (by decide) (by decide)
theorem r_47_33 {h : hp} (S : Sh h) : hR h 47 33 = some 1078 := S.2 47 33 (by decide) (by decide) (by decide)
theorem r_47_34 {h : hp} (S : Sh h) : hR h 47 34 = some 1079 := S.2 47 34 (by decide) (by decide) (by decide)
theorem r_47_35 {h : hp} (S : Sh h) : hR h 47 35 = some 1200 := S.2 47 35 (by decide) (by decide) (by decide)
theorem r_47_36 {h : hp} (S : Sh h) : hR h 47 36 = some 1321 := S.2 47 36 (by decide) (by decide) (by decide)
theorem r_47_37 {h : hp} (S : Sh h) : hR h 47 37 = some 1322 := S.2 47 37 (by decide) (by decide) (by decide)
theorem r_47_38 {h : hp} (S : Sh h) : hR h 47 38 = some 1323 := S.2 47 38 (by decide) (by decide) (by decide)
theorem r_47_39 {h : hp} (S : Sh h) : hR h 47 39 = some 1324 := S.2 47 39 (by decide) (by decide) (by decide)
theorem r_47_40 {h : hp} (S : Sh h) : hR h 47 40 = some 1325 := S.2 47 40 (by decide) (by decide) (by decide)
theorem r_47_41 {h : hp} (S : Sh h) : hR h 47 41 = some 1326 := S.2 47 41 (by decide) (by decide) (by decide)
theorem r_50_0 {h : hp} (S : Sh h) : hR h 50 0 = some 51 := S.2 50 0 (by decide) (by decide) (by decide)
theorem r_50_1 {h : hp} (S : Sh h) : hR h 50 1 = some 52 := S.2 50 1 (by decide) (by decide) (by decide)
theorem r_53_0 {h : hp} (S : Sh h) : hR h 53 0 = some 54 := S.2 53 0 (by decide) (by decide) (by decide)
theorem r_53_1 {h : hp} (S : Sh h) : hR h 53 1 = some 55 := S.2 53 1 (by decide) (by decide) (by decide)
theorem r_56_0 {h : hp} (S : Sh h) : hR h 56 0 = some 57 := S.2 56 0 (by decide) (by decide) (by decide)
theorem r_56_1 {h : hp} (S : Sh h) : hR h 56 1 = some 58 := S.2 56 1 (by decide) (by decide) (by decide)
theorem r_59_0 {h : hp} (S : Sh h) : hR h 59 0 = some 60 := S.2 59 0 (by decide) (by decide) (by decide)
theorem r_59_1 {h : hp} (S : Sh h) : hR h 59 1 = some 61 := S.2 59 1 (by decide) (by decide) (by decide)
theorem r_62_0 {h : hp} (S : Sh h) : hR h 62 0 = some 63 := S.2 62 0 (by decide) (by decide) (by decide)
theorem r_62_1 {h : hp} (S : Sh h) : hR h 62 1 = some 64 := S.2 62 1 (by decide) (by decide) (by decide)
theorem r_65_0 {h : hp} (S : Sh h) : hR h 65 0 = some 66 := S.2 65 0 (by decide) (by decide) (by decide)
theorem r_65_1 {h : hp} (S : Sh h) : hR h 65 1 = some 67 := S.2 65 1 (by decide) (by decide) (by decide)
theorem kT {h : hp} (S : Sh h) {x : Nat} (hx : x < 1000) : hK h (71 + x) = (2, 64) := by
  rw [S.1 (71 + x) (by omega) (by omega)]
  unfold K1
  rw [if_neg (by omega), if_pos (by omega)]
theorem rT {h : hp} (S : Sh h) {x : Nat} (hx : x < 1000) : hR h 70 x = some (71 + x) := by
  rw [S.2 70 x (by omega) (by omega) (by omega)]
  show (if x < 1000 then some (71 + x) else none) = _
  rw [if_pos hx]
theorem kAnd {h : hp} (S : Sh h) {x : Nat} (hx : x < 120) : hK h (1080 + x) = (1, 3) := by
  rw [S.1 (1080 + x) (by omega) (by omega)]
  unfold K1
  rw [if_neg (by omega), if_neg (by omega), if_neg (by omega), if_pos (by omega)]
theorem rAnd {h : hp} (S : Sh h) {x : Nat} (hx : x < 120) : hR h 1079 x = some (1080 + x) := by
  rw [S.2 1079 x (by omega) (by omega) (by omega)]
  show (if x < 120 then some (1080 + x) else none) = _
  rw [if_pos hx]
theorem kAt {h : hp} (S : Sh h) {x : Nat} (hx : x < 120) : hK h (1201 + x) = (1, 3) := by
  rw [S.1 (1201 + x) (by omega) (by omega)]
  unfold K1
  rw [if_neg (by omega), if_neg (by omega), if_neg (by omega), if_neg (by omega), if_neg (by omega), if_pos (by omega)]
theorem rAt {h : hp} (S : Sh h) {x : Nat} (hx : x < 120) : hR h 1200 x = some (1201 + x) := by
  rw [S.2 1200 x (by omega) (by omega) (by omega)]
  show (if x < 120 then some (1201 + x) else none) = _
  rw [if_pos hx]
/-! whole rows -/
def rI (h : hp) (a : Nat) (f : Nat → Int32) : hp := (u1 h.1 a f, h.2)
def rJ (h : hp) (a : Nat) (f : Nat → Int64) : hp := (h.1, u1 h.2.1 a f, h.2.2)
theorem u1_u1 {α : Type} (f : Nat → α) (k : Nat) (v u : α) : u1 (u1 f k v) k u = u1 f k u := by
  funext j
  unfold u1
  split <;> rfl
theorem u1_self {α : Type} (f : Nat → α) (k : Nat) : u1 f k (f k) = f := by
  funext j
  unfold u1
  split
  · next e => rw [e]
  · rfl
theorem rI_self (h : hp) (a : Nat) : rI h a (hI h a) = h := by
  unfold rI
  rw [u1_self]
theorem rJ_self (h : hp) (a : Nat) : rJ h a (hJ h a) = h := by
  unfold rJ
  rw [u1_self]
theorem sI_rI (h : hp) (a i : Nat) (f : Nat → Int32) (v : Int32) : sI (rI h a f) a i v = rI h a (u1 f i v) := by
  unfold sI rI u2
  dsimp only
  rw [u1_s, u1_u1]
theorem sJ_rJ (h : hp) (a i : Nat) (f : Nat → Int64) (v : Int64) : sJ (rJ h a f) a i v = rJ h a (u1 f i v) := by
  unfold sJ rJ u2
  dsimp only
  rw [u1_s, u1_u1]
theorem sI_eq (h : hp) (a i : Nat) (v : Int32) : sI h a i v = rI h a (u1 (hI h a) i v) := rfl
theorem sJ_eq (h : hp) (a i : Nat) (v : Int64) : sJ h a i v = rJ h a (u1 (hJ h a) i v) := rfl
end
section
/-! ===== longs by their bits (the first rows: BITS.to-paste, one family) ===== -/
theorem wb_tb (n : Nat) : (lN n).toBitVec = BitVec.ofNat 64 n := rfl
theorem wb_inj {a b : Int64} (h : a.toBitVec = b.toBitVec) : a = b := Int64.toBitVec_inj.mp h
theorem wb_tn {n : Nat} (h : n < 2 ^ 64) : (lN n).toBitVec.toNat = n := by rw [wb_tb, BitVec.toNat_ofNat, Nat.mod_eq_of_lt h]
theorem wb_of (x : Int64) : ∃ n, n < 2 ^ 64 ∧ x = lN n := ⟨x.toBitVec.toNat, x.toBitVec.isLt, wb_inj (by rw [wb_tb]; simp)⟩
theorem wb_of32 (x : Int32) : ∃ n, n < 2 ^ 32 ∧ x = nI n := ⟨x.toBitVec.toNat, x.toBitVec.isLt, Int32.toBitVec_inj.mp (by show _ = BitVec.ofNat 32 _; simp)⟩
theorem wb_c : ∀ k, k < 64 → ((nI k).toInt64 &&& 63) = lN k := by decide +kernel
theorem wb_cu : ∀ k, k < 64 → ((nI k).toInt64.toUInt64 &&& Int64.toUInt64 63) = UInt64.ofNat k := by decide +kernel
theorem wb_sm : ∀ k, k < 64 → (BitVec.ofNat 64 k).smod 64 = BitVec.ofNat 64 k := by decide +kernel
theorem wb_pw {a b : Nat} (h : a ≤ b) : 2 ^ b = 2 ^ a * 2 ^ (b - a) := by rw [← Nat.pow_add]; congr 1; omega
theorem wb_lt2 {a b : Nat} (h : a < b) : 2 ^ a < 2 ^ b := Nat.pow_lt_pow_right (by decide) h
theorem wb_mod (n : Nat) : lN n = lN (n % 2 ^ 64) := wb_inj (by rw [wb_tb, wb_tb]; apply BitVec.eq_of_toNat_eq; rw [BitVec.toNat_ofNat, BitVec.toNat_ofNat, Nat.mod_mod])
theorem wb_shr {n k : Nat} (hn : n < 2 ^ 64) (hk : k < 64) : ((lN n).toUInt64 >>> ((nI k).toInt64.toUInt64 &&& Int64.toUInt64 63)).toInt64 = lN (n / 2 ^ k) := by
  rw [wb_cu k hk]
  apply wb_inj
  apply BitVec.eq_of_toNat_eq
  show ((lN n).toUInt64 >>> UInt64.ofNat k).toNat = (BitVec.ofNat 64 _).toNat
  have h1 : (UInt64.ofNat k).toNat = k := by
    show (BitVec.ofNat 64 k).toNat = k
    rw [BitVec.toNat_ofNat, Nat.mod_eq_of_lt (by omega)]
  have h2 : (lN n).toUInt64.toNat = n := wb_tn hn
  rw [UInt64.toNat_shiftRight, h1, h2, Nat.mod_eq_of_lt hk, Nat.shiftRight_eq_div_pow, BitVec.toNat_ofNat, Nat.mod_eq_of_lt (Nat.lt_of_le_of_lt (Nat.div_le_self _ _) hn)]
theorem wb_shl (n : Nat) {k : Nat} (hk : k < 64) : lN n <<< ((nI k).toInt64 &&& 63) = lN (n * 2 ^ k) := by
  rw [wb_c k hk]
  apply wb_inj
  rw [Int64.toBitVec_shiftLeft, wb_tb, wb_tb, wb_tb, wb_sm k hk]
  apply BitVec.eq_of_toNat_eq
  rw [BitVec.shiftLeft_eq', BitVec.toNat_shiftLeft, BitVec.toNat_ofNat, BitVec.toNat_ofNat, BitVec.toNat_ofNat, Nat.mod_eq_of_lt (show k < 2 ^ 64 by omega), Nat.shiftLeft_eq, Nat.mul_mod, Nat.mod_mod, ← Nat.mul_mod]
theorem wb_and {a b : Nat} (ha : a < 2 ^ 64) (hb : b < 2 ^ 64) : lN a &&& lN b = lN (a &&& b) := by
  apply wb_inj
  rw [Int64.toBitVec_and, wb_tb, wb_tb, wb_tb]
  apply BitVec.eq_of_toNat_eq
  rw [BitVec.toNat_and, BitVec.toNat_ofNat, BitVec.toNat_ofNat, BitVec.toNat_ofNat, Nat.mod_eq_of_lt ha, Nat.mod_eq_of_lt hb, Nat.mod_eq_of_lt (Nat.and_lt_two_pow _ hb)]
theorem wb_or {a b : Nat} (ha : a < 2 ^ 64) (hb : b < 2 ^ 64) : lN a ||| lN b = lN (a ||| b) := by
  apply wb_inj
  rw [Int64.toBitVec_or, wb_tb, wb_tb, wb_tb]
  apply BitVec.eq_of_toNat_eq
  rw [BitVec.toNat_or, BitVec.toNat_ofNat, BitVec.toNat_ofNat, BitVec.toNat_ofNat, Nat.mod_eq_of_lt ha, Nat.mod_eq_of_lt hb, Nat.mod_eq_of_lt (Nat.or_lt_two_pow ha hb)]
theorem wb_mask {n k : Nat} (hn : n < 2 ^ 64) (hk : k < 64) : lN n &&& lN (2 ^ k - 1) = lN (n % 2 ^ k) := by
  rw [wb_and hn (by have := wb_lt2 hk; omega), Nat.and_two_pow_sub_one_eq_mod]
theorem wb_a1 {n : Nat} (hn : n < 2 ^ 64) : lN n &&& 1 = lN (n % 2) := wb_mask (k := 1) hn (by decide)
theorem wb_bit {n k : Nat} (hn : n < 2 ^ 64) (hk : k < 64) : ((lN n).toUInt64 >>> ((nI k).toInt64.toUInt64 &&& Int64.toUInt64 63)).toInt64 &&& 1 = lN (n / 2 ^ k % 2) := by
  rw [wb_shr hn hk, wb_a1 (Nat.lt_of_le_of_lt (Nat.div_le_self _ _) hn)]
def b64 (x : Int64) (i : Nat) : Bool := x.toBitVec.getLsbD i
theorem b64_ext {x y : Int64} (h : ∀ i, i < 64 → b64 x i = b64 y i) : x = y := Int64.toBitVec_inj.mp (BitVec.eq_of_getLsbD_eq (fun i hi => h i hi))
theorem b64_and (x y : Int64) (i : Nat) : b64 (x &&& y) i = (b64 x i && b64 y i) := by
  unfold b64
  rw [Int64.toBitVec_and, BitVec.getLsbD_and]
theorem b64_or (x y : Int64) (i : Nat) : b64 (x ||| y) i = (b64 x i || b64 y i) := by
  unfold b64
  rw [Int64.toBitVec_or, BitVec.getLsbD_or]
theorem b64_xor (x y : Int64) (i : Nat) : b64 (x ^^^ y) i = (b64 x i ^^ b64 y i) := by
  unfold b64
  rw [Int64.toBitVec_xor, BitVec.getLsbD_xor]
theorem b64_0 (i : Nat) : b64 0 i = false := by
  show (0#64).getLsbD i = false
  exact BitVec.getLsbD_zero
theorem b64_m1 {i : Nat} (hi : i < 64) : b64 (-1) i = true := by
  unfold b64
  rw [show (-1 : Int64).toBitVec = BitVec.allOnes 64 by decide, BitVec.getLsbD_allOnes]
  exact decide_eq_true hi
theorem b64_not (x : Int64) {i : Nat} (hi : i < 64) : b64 (x ^^^ (-1)) i = !b64 x i := by
  rw [b64_xor, b64_m1 hi, Bool.xor_true]
theorem b64_lN (n i : Nat) : b64 (lN n) i = (decide (i < 64) && n.testBit i) := by
  unfold b64
  rw [wb_tb, BitVec.getLsbD_ofNat]
theorem b64_1 (i : Nat) : b64 1 i = decide (i = 0) := by
  have e : (1 : Int64) = lN 1 := rfl
  rw [e, b64_lN]
  by_cases h : i = 0
  · subst h; decide
  · rw [show Nat.testBit 1 i = false by rw [show (1 : Nat) = 2 ^ 0 from rfl, Nat.testBit_two_pow]; exact decide_eq_false (fun e => h e.symm)]
    simp [h]
theorem b64_one (x : Int64) : (x &&& 1) = if b64 x 0 then 1 else 0 := by
  apply b64_ext
  intro i hi
  rw [b64_and, b64_1]
  by_cases h : i = 0
  · subst h
    cases hx : b64 x 0
    · rw [if_neg (by decide), b64_0]; rfl
    · rw [if_pos rfl, b64_1]; rfl
  · rw [decide_eq_false h, Bool.and_false]
    split
    · rw [b64_1, decide_eq_false h]
    · rw [b64_0]
theorem b64_ushr (x : Int64) {k i : Nat} (hk : k < 64) (hi : i < 64) : b64 (x.toUInt64 >>> ((nI k).toInt64.toUInt64 &&& Int64.toUInt64 63)).toInt64 i = (decide (k + i < 64) && b64 x (k + i)) := by
  obtain ⟨n, hn, rfl⟩ := wb_of x
  rw [wb_shr hn hk, b64_lN, b64_lN, Nat.testBit_div_two_pow, decide_eq_true hi, Nat.add_comm i k, Bool.true_and]
  by_cases h : k + i < 64
  · simp [h]
  · rw [decide_eq_false h, Bool.false_and]
    exact Nat.testBit_lt_two_pow (Nat.lt_of_lt_of_le hn (Nat.pow_le_pow_right (by decide) (by omega)))
theorem b64_ubit (x : Int64) {k : Nat} (hk : k < 64) : ((x.toUInt64 >>> ((nI k).toInt64.toUInt64 &&& Int64.toUInt64 63)).toInt64 &&& 1) = if b64 x k then 1 else 0 := by
  rw [b64_one, b64_ushr x hk (by decide), Nat.add_zero, decide_eq_true hk, Bool.true_and]
theorem b64_sbit (x : Int64) {k : Nat} (hk : k < 64) : ((x >>> ((nI k).toInt64 &&& 63)) &&& 1) = if b64 x k then 1 else 0 := by
  have e : b64 (x >>> ((nI k).toInt64 &&& 63)) 0 = b64 x k := by
    unfold b64
    rw [wb_c k hk, Int64.toBitVec_shiftRight, wb_tb, wb_sm k hk, BitVec.sshiftRight_eq', BitVec.getLsbD_sshiftRight, BitVec.toNat_ofNat, Nat.mod_eq_of_lt (by omega), Nat.add_zero, if_pos hk]
    rfl
  rw [b64_one, e]
theorem b64_shl1 {k i : Nat} (hk : k < 64) (hi : i < 64) : b64 ((1 : Int64) <<< ((nI k).toInt64 &&& 63)) i = decide (i = k) := by
  have e : (1 : Int64) = lN 1 := rfl
  rw [e, wb_shl 1 hk, b64_lN, Nat.one_mul, Nat.testBit_two_pow, decide_eq_true hi, Bool.true_and]
  simp [eq_comm]
theorem cmp0 (x y : Int64) : lg_cmp x y = 0 ↔ x = y := by
  unfold lg_cmp
  by_cases h : x > y
  · rw [if_pos h]
    constructor
    · intro q; exact absurd q (by decide)
    · intro q; subst q; exact absurd h (Int64.lt_irrefl)
  · rw [if_neg h]
    by_cases e : x = y
    · rw [if_pos e]; exact ⟨fun _ => e, fun _ => rfl⟩
    · rw [if_neg e]; exact ⟨fun q => absurd q (by decide), fun q => absurd q e⟩
/-! ints -/
theorem shr6 {w : Nat} (h : w < 2 ^ 31) : nI w >>> ((6 : Int32) &&& 31) = nI (w / 64) := pk_shrN h _ 6 (by decide)
theorem and63 {w : Nat} (h : w < 2 ^ 31) : nI w &&& 63 = nI (w % 64) := pk_andN (by omega) 6 (by decide)
theorem shr1 {w : Nat} (h : w < 2 ^ 31) : nI w >>> ((1 : Int32) &&& 31) = nI (w / 2) := pk_shrN h _ 1 (by decide)
theorem and1 {w : Nat} (h : w < 2 ^ 31) : nI w &&& 1 = nI (w % 2) := pk_andN (by omega) 1 (by decide)
theorem div2 {w : Nat} (h : w < 2 ^ 31) : nI w / 2 = nI (w / 2) := pk_div (d := 2) h (by decide) (by decide)
theorem div64 {w : Nat} (h : w < 2 ^ 31) : nI w / 64 = nI (w / 64) := pk_div (d := 64) h (by decide) (by decide)
theorem rem2 {w : Nat} (h : w < 2 ^ 31) : nI w - nI w / 2 * 2 = nI (w % 2) := pk_rem (d := 2) h (by decide) (by decide)
theorem rem64 {w : Nat} (h : w < 2 ^ 31) : nI w - nI w / 64 * 64 = nI (w % 64) := pk_rem (d := 64) h (by decide) (by decide)
theorem xorN (a b : Nat) : nI a ^^^ nI b = nI (a ^^^ b) := Int32.toBitVec_inj.mp (by
  show BitVec.ofNat 32 a ^^^ BitVec.ofNat 32 b = BitVec.ofNat 32 (a ^^^ b)
  apply BitVec.eq_of_getLsbD_eq
  intro i hi
  rw [BitVec.getLsbD_xor, BitVec.getLsbD_ofNat, BitVec.getLsbD_ofNat, BitVec.getLsbD_ofNat, Nat.testBit_xor, decide_eq_true hi]
  simp)
theorem xor1 (a : Nat) : nI a ^^^ 1 = nI (a ^^^ 1) := xorN a 1
/-! locals of a loop: by what they answer -/
theorem lk0 (ls : List (Nat × Value)) (k : Nat) (v : Value) : (lset1 ls k v).lookup k = some v := List.lookup_cons_self
theorem lk00 (ls : List (Nat × Value)) (k : Nat) (v : Value) : (lset2 ls k v).lookup k = some v := List.lookup_cons_self
theorem lk_f {ls : List (Nat × Value)} {i : Nat} {u : Value} {p : Nat × Value → Bool} (h : ls.lookup i = some u) (hp : p (i, u) = true) : (ls.filter p).lookup i = some u := by
  induction ls with
  | nil => cases h
  | cons q r ih =>
    obtain ⟨a, b⟩ := q
    rw [List.lookup_cons] at h
    by_cases e : i == a
    · rw [e] at h
      have h1 : i = a := by simpa using e
      cases h
      subst h1
      rw [List.filter_cons, if_pos hp]
      exact List.lookup_cons_self
    · have e' : (i == a) = false := by simpa using e
      rw [e'] at h
      rw [List.filter_cons]
      split
      · rw [List.lookup_cons, e']
        exact ih h
      · exact ih h
theorem lk1 {ls : List (Nat × Value)} {k i : Nat} {v u : Value} (h : ls.lookup i = some u) (hne : i ≠ k) (hc : u.category = 1 ∨ i + 1 ≠ k) : (lset1 ls k v).lookup i = some u := by
  unfold lset1
  rw [List.lookup_cons, show (i == k) = false by simpa using hne]
  refine lk_f h ?_
  rcases hc with hc | hc
  · simp [hne, hc]
  · simp [hne, hc]
theorem lk2 {ls : List (Nat × Value)} {k i : Nat} {v u : Value} (h : ls.lookup i = some u) (hne : i ≠ k) (hne2 : i ≠ k + 1) (hc : u.category = 1 ∨ i + 1 ≠ k) : (lset2 ls k v).lookup i = some u := by
  unfold lset2
  rw [List.lookup_cons, show (i == k) = false by simpa using hne]
  refine lk_f h ?_
  rcases hc with hc | hc
  · simp [hne, hne2, hc]
  · simp [hne, hne2, hc]
end
section
/-! ===== Circuit ===== -/
def pl (s : Int32) : Int32 := if s < 0 then s ^^^ (-1) else s
/-- there is a SIGNAL s among the first n -/
def hasS (n : Int32) (s : Int32) : Int32 := if pl s < n then 1 else 0
theorem hasS01 (n s : Int32) : hasS n s = 0 ∨ hasS n s = 1 := by unfold hasS; split <;> simp
def canT (n g kd a b c : Int32) : Int32 := if kd < 0 then 0 else if 8 < kd then 0 else if 120 ≤ g then 0 else if kd = 8 then 1 else if hasS n a = 0 then 0 else if hasS n b = 0 then 0 else if (kd = 6 ∨ kd = 7) ∧ hasS n c = 0 then 0 else 1
/-- the LITERAL of a SIGNAL -/
def litS (f : Nat → Int32) (n : Int32) (s : Int32) : Int32 := if pl s < n then (if s < 0 then f (pl s).toNatClampNeg ^^^ 1 else f s.toNatClampNeg) else 0
theorem lt0 {a b : Int32} (h : ¬ b ≤ a) : a < b := by rw [← Int32.not_le]; exact h
theorem nlt0 {a b : Int32} (h : b ≤ a) : ¬ a < b := by rw [Int32.not_lt]; exact h
theorem ltz (s : Int32) : s < 0 ↔ s.toBitVec.msb = true := by
  rw [Int32.lt_iff_toInt_lt, BitVec.msb_eq_toInt, decide_eq_true_iff]
  exact Iff.rfl
theorem pl0 (s : Int32) : ¬ pl s < 0 := by
  unfold pl
  split
  · next h =>
    rw [ltz] at h ⊢
    show ¬ (s.toBitVec ^^^ (-1 : Int32).toBitVec).msb = true
    rw [show (-1 : Int32).toBitVec = BitVec.allOnes 32 by decide, BitVec.xor_allOnes, BitVec.msb_not, h]
    decide
  · next h => exact h
theorem pl_nat (s : Int32) {m : Nat} (hm : m < 2 ^ 31) (h : pl s < nI m) : ∃ k : Nat, k < m ∧ pl s = nI k := by
  rcases pk_ix (pl s) hm with q | q | q
  · exact absurd q (pl0 s)
  · exact absurd h (nlt0 q)
  · exact q
set_option maxHeartbeats 2000000 in
set_option maxRecDepth 10000 in
theorem sp_plain {d : Nat} {h : hp} (s : Int32) : Run (d + 1) 38 [.int s] h 0 0 (some (.int (pl s))) h := by
  refine Run.of (Nat.le_of_ble_eq_true rfl) (fun Q hQ => ?_)
  show Wp (Ex (d)) 38 Q 0 [(0, .int s)] [] h 0 0
  refine r_iload_n (q38 (i := 0) rfl) rfl ?_
  refine r_if 10 (q38 (i := 1) rfl) (by decide) (fun c => ?_) (fun c => ?_)
  · have c : 0 ≤ s := c
    refine r_iload_n (q38 (i := 6) rfl) rfl ?_
    exact r_iret (q38 (i := 7) rfl) rfl (by unfold pl at hQ; first | (rw [if_neg (nlt0 c)] at hQ; exact hQ) | (rw [if_pos (lt0 c)] at hQ; exact hQ))
  · have c : ¬ (0 ≤ s) := c
    refine r_iload_n (q38 (i := 2) rfl) rfl ?_
    refine r_iconst (v := (-1)) (q38 (i := 3) rfl) (by decide) ?_
    refine r_ixor (q38 (i := 4) rfl) ?_
    refine r_goto 11 (q38 (i := 5) rfl) (by decide) ?_
    exact r_iret (q38 (i := 7) rfl) rfl (by unfold pl at hQ; first | (rw [if_neg (nlt0 c)] at hQ; exact hQ) | (rw [if_pos (lt0 c)] at hQ; exact hQ))
set_option maxHeartbeats 2000000 in
set_option maxRecDepth 10000 in
theorem sp_hasSignal_3 {d : Nat} {h : hp} (S : Sh h) (s : Int32) : Run (d + 1 + 1) 33 [.ref 3, .int s] h 0 0 (some (.int (hasS (hI h 3 6 + hI h 3 7) s))) h := by
  refine Run.of (Nat.le_of_ble_eq_true rfl) (fun Q hQ => ?_)
  show Wp (Ex (d + 1)) 33 Q 0 [(0, .ref 3), (1, .int s)] [] h 0 0
  refine r_iload_n (q33 (i := 0) rfl) rfl ?_
  refine r_cS (d := _) (q33 (i := 1) rfl) rfl (Nat.le_of_ble_eq_true rfl) rfl rfl (Nat.le_of_ble_eq_true rfl) (Nat.zero_le _) (Nat.zero_le _) (sp_plain s) ?_
  show Wp _ _ _ 4 [(0, .ref 3), (1, .int s)] [.int (pl s)] h _ _
  refine r_aload_n (q33 (i := 2) rfl) rfl ?_
  refine r_getI (x := hI h 3 6) (q33 (i := 3) rfl) rfl (by decide) (k_3 S) (fun _ _ _ => rfl) rfl ?_
  refine r_aload_n (q33 (i := 4) rfl) rfl ?_
  refine r_getI (x := hI h 3 7) (q33 (i := 5) rfl) rfl (by decide) (k_3 S) (fun _ _ _ => rfl) rfl ?_
  refine r_iadd (q33 (i := 6) rfl) ?_
  refine r_icmp 20 (q33 (i := 7) rfl) (by decide) (fun c => ?_) (fun c => ?_)
  · have c : (hI h 3 6) + (hI h 3 7) ≤ pl s := c
    refine r_iconst (v := 0) (q33 (i := 10) rfl) (by decide) ?_
    exact r_zret (q33 (i := 11) rfl) rfl (by decide) (by unfold hasS at hQ; first | (rw [if_pos (lt0 c)] at hQ; exact hQ) | (rw [if_neg (nlt0 c)] at hQ; exact hQ))
  · have c : ¬ ((hI h 3 6) + (hI h 3 7) ≤ pl s) := c
    refine r_iconst (v := 1) (q33 (i := 8) rfl) (by decide) ?_
    refine r_goto 21 (q33 (i := 9) rfl) (by decide) ?_
    exact r_zret (q33 (i := 11) rfl) rfl (by decide) (by unfold hasS at hQ; first | (rw [if_pos (lt0 c)] at hQ; exact hQ) | (rw [if_neg (nlt0 c)] at hQ; exact hQ))
set_option maxHeartbeats 2000000 in
set_option maxRecDepth 10000 in
theorem sp_reset_3 {d : Nat} {h : hp} (S : Sh h) (n : Int32) : Run (d + 1) 32 [.ref 3, .int n] h 0 0 none (sI (sI (sI h 3 6 n) 3 7 0) 3 8 0) := by
  refine Run.of (Nat.le_of_ble_eq_true rfl) (fun Q hQ => ?_)
  show Wp (Ex (d)) 32 Q 0 [(0, .ref 3), (1, .int n)] [] h 0 0
  refine r_aload_n (q32 (i := 0) rfl) rfl ?_
  refine r_iload_n (q32 (i := 1) rfl) rfl ?_
  refine r_putI (q32 (i := 2) rfl) rfl (by decide) (k_3 S) rfl rfl ?_
  refine r_aload_n (q32 (i := 3) rfl) rfl ?_
  refine r_iconst (v := 0) (q32 (i := 4) rfl) (by decide) ?_
  refine r_putI (q32 (i := 5) rfl) rfl (by decide) (k_3 S) rfl rfl ?_
  refine r_aload_n (q32 (i := 6) rfl) rfl ?_
  refine r_iconst (v := 0) (q32 (i := 7) rfl) (by decide) ?_
  refine r_putI (q32 (i := 8) rfl) rfl (by decide) (k_3 S) rfl rfl ?_
  exact r_vret (q32 (i := 9) rfl) rfl hQ
set_option maxHeartbeats 2000000 in
set_option maxRecDepth 10000 in
theorem sp_canTake_3 {d : Nat} {h : hp} (S : Sh h) (kd a b c : Int32) : Run (d + 2 + 1) 34 [.ref 3, .int kd, .int a, .int b, .int c] h 0 0 (some (.int (canT (hI h 3 6 + hI h 3 7) (hI h 3 7) kd a b c))) h := by
  refine Run.of (Nat.le_of_ble_eq_true rfl) (fun Q hQ => ?_)
  show Wp (Ex (d + 2)) 34 Q 0 [(0, .ref 3), (1, .int kd), (2, .int a), (3, .int b), (4, .int c)] [] h 0 0
  refine r_iload_n (q34 (i := 0) rfl) rfl ?_
  refine r_if 19 (q34 (i := 1) rfl) (by decide) (fun c1 => ?_) (fun c1 => ?_)
  · have c1 : kd < 0 := c1
    refine r_iconst (v := 0) (q34 (i := 9) rfl) (by decide) ?_
    exact r_zret (q34 (i := 10) rfl) rfl (by decide) (by unfold canT at hQ; simp_all)
  · have c1 : ¬ (kd < 0) := c1
    refine r_iload_n (q34 (i := 2) rfl) rfl ?_
    refine r_bipush (v := 8) (q34 (i := 3) rfl) (by decide) ?_
    refine r_icmp 19 (q34 (i := 4) rfl) (by decide) (fun c2 => ?_) (fun c2 => ?_)
    · have c2 : 8 < kd := c2
      refine r_iconst (v := 0) (q34 (i := 9) rfl) (by decide) ?_
      exact r_zret (q34 (i := 10) rfl) rfl (by decide) (by unfold canT at hQ; simp_all)
    · have c2 : ¬ (8 < kd) := c2
      refine r_aload_n (q34 (i := 5) rfl) rfl ?_
      refine r_getI (x := hI h 3 7) (q34 (i := 6) rfl) rfl (by decide) (k_3 S) (fun _ _ _ => rfl) rfl ?_
      refine r_bipush (v := 120) (q34 (i := 7) rfl) (by decide) ?_
      refine r_icmp 21 (q34 (i := 8) rfl) (by decide) (fun c3 => ?_) (fun c3 => ?_)
      · have c3 : hI h 3 7 < 120 := c3
        have c3x : ¬ (120 : Int32) ≤ hI h 3 7 := by rw [Int32.not_le]; exact c3
        refine r_iload_n (q34 (i := 11) rfl) rfl ?_
        refine r_bipush (v := 8) (q34 (i := 12) rfl) (by decide) ?_
        refine r_icmp 29 (q34 (i := 13) rfl) (by decide) (fun c4 => ?_) (fun c4 => ?_)
        · have c4 : ¬ kd = 8 := c4
          refine r_iload_n (q34 (i := 16) rfl) rfl ?_
          refine r_bipush (v := 6) (q34 (i := 17) rfl) (by decide) ?_
          refine r_icmp 41 (q34 (i := 18) rfl) (by decide) (fun c5 => ?_) (fun c5 => ?_)
          · have c5 : kd = 6 := c5
            refine r_iconst (v := 1) (q34 (i := 22) rfl) (by decide) ?_
            refine r_goto 46 (q34 (i := 23) rfl) (by decide) ?_
            refine r_istore (ls' := [(5, .int 1), (0, .ref 3), (1, .int kd), (2, .int a), (3, .int b), (4, .int c)]) (q34 (i := 25) rfl) (Nat.le_of_ble_eq_true rfl) rfl ?_
            refine r_aload_n (q34 (i := 26) rfl) rfl ?_
            refine r_iload_n (q34 (i := 27) rfl) rfl ?_
            refine r_cV (d := _) (q34 (i := 28) rfl) rfl rfl rfl (k_3 S) (Nat.le_of_ble_eq_true rfl) (Nat.zero_le _) (Nat.zero_le _) (sp_hasSignal_3 S a) ?_
            show Wp _ _ _ 53 [(5, .int 1), (0, .ref 3), (1, .int kd), (2, .int a), (3, .int b), (4, .int c)] [.int (hasS (hI h 3 6 + hI h 3 7) a)] h _ _
            refine r_if 82 (q34 (i := 29) rfl) (by decide) (fun c7 => ?_) (fun c7 => ?_)
            · have c7 : hasS (hI h 3 6 + hI h 3 7) a = 0 := c7
              refine r_iconst (v := 0) (q34 (i := 42) rfl) (by decide) ?_
              exact r_zret (q34 (i := 43) rfl) rfl (by decide) (by unfold canT at hQ; simp_all)
            · have c7 : ¬ (hasS (hI h 3 6 + hI h 3 7) a = 0) := c7
              refine r_aload_n (q34 (i := 30) rfl) rfl ?_
              refine r_iload_n (q34 (i := 31) rfl) rfl ?_
              refine r_cV (d := _) (q34 (i := 32) rfl) rfl rfl rfl (k_3 S) (Nat.le_of_ble_eq_true rfl) (Nat.zero_le _) (Nat.zero_le _) (sp_hasSignal_3 S b) ?_
              show Wp _ _ _ 61 [(5, .int 1), (0, .ref 3), (1, .int kd), (2, .int a), (3, .int b), (4, .int c)] [.int (hasS (hI h 3 6 + hI h 3 7) b)] h _ _
              refine r_if 82 (q34 (i := 33) rfl) (by decide) (fun c8 => ?_) (fun c8 => ?_)
              · have c8 : hasS (hI h 3 6 + hI h 3 7) b = 0 := c8
                refine r_iconst (v := 0) (q34 (i := 42) rfl) (by decide) ?_
                exact r_zret (q34 (i := 43) rfl) rfl (by decide) (by unfold canT at hQ; simp_all)
              · have c8 : ¬ (hasS (hI h 3 6 + hI h 3 7) b = 0) := c8
                refine r_iload (q34 (i := 34) rfl) rfl ?_
                refine r_if 78 (q34 (i := 35) rfl) (by decide) (fun c => absurd c (show ¬ ((1 : Int32) = 0) from by decide)) (fun _ => ?_)
                refine r_aload_n (q34 (i := 36) rfl) rfl ?_
                refine r_iload (q34 (i := 37) rfl) rfl ?_
                refine r_cV (d := _) (q34 (i := 38) rfl) rfl rfl rfl (k_3 S) (Nat.le_of_ble_eq_true rfl) (Nat.zero_le _) (Nat.zero_le _) (sp_hasSignal_3 S c) ?_
                show Wp _ _ _ 75 [(5, .int 1), (0, .ref 3), (1, .int kd), (2, .int a), (3, .int b), (4, .int c)] [.int (hasS (hI h 3 6 + hI h 3 7) c)] h _ _
                refine r_if 82 (q34 (i := 39) rfl) (by decide) (fun c10 => ?_) (fun c10 => ?_)
                · have c10 : hasS (hI h 3 6 + hI h 3 7) c = 0 := c10
                  refine r_iconst (v := 0) (q34 (i := 42) rfl) (by decide) ?_
                  exact r_zret (q34 (i := 43) rfl) rfl (by decide) (by unfold canT at hQ; simp_all)
                · have c10 : ¬ (hasS (hI h 3 6 + hI h 3 7) c = 0) := c10
                  refine r_iconst (v := 1) (q34 (i := 40) rfl) (by decide) ?_
                  refine r_goto 83 (q34 (i := 41) rfl) (by decide) ?_
                  exact r_zret (q34 (i := 43) rfl) rfl (by decide) (by unfold canT at hQ; simp_all)
          · have c5 : ¬ (kd = 6) := c5
            refine r_iload_n (q34 (i := 19) rfl) rfl ?_
            refine r_bipush (v := 7) (q34 (i := 20) rfl) (by decide) ?_
            refine r_icmp 45 (q34 (i := 21) rfl) (by decide) (fun c6 => ?_) (fun c6 => ?_)
            · have c6 : ¬ kd = 7 := c6
              refine r_iconst (v := 0) (q34 (i := 24) rfl) (by decide) ?_
              refine r_istore (ls' := [(5, .int 0), (0, .ref 3), (1, .int kd), (2, .int a), (3, .int b), (4, .int c)]) (q34 (i := 25) rfl) (Nat.le_of_ble_eq_true rfl) rfl ?_
              refine r_aload_n (q34 (i := 26) rfl) rfl ?_
              refine r_iload_n (q34 (i := 27) rfl) rfl ?_
              refine r_cV (d := _) (q34 (i := 28) rfl) rfl rfl rfl (k_3 S) (Nat.le_of_ble_eq_true rfl) (Nat.zero_le _) (Nat.zero_le _) (sp_hasSignal_3 S a) ?_
              show Wp _ _ _ 53 [(5, .int 0), (0, .ref 3), (1, .int kd), (2, .int a), (3, .int b), (4, .int c)] [.int (hasS (hI h 3 6 + hI h 3 7) a)] h _ _
              refine r_if 82 (q34 (i := 29) rfl) (by decide) (fun c7 => ?_) (fun c7 => ?_)
              · have c7 : hasS (hI h 3 6 + hI h 3 7) a = 0 := c7
                refine r_iconst (v := 0) (q34 (i := 42) rfl) (by decide) ?_
                exact r_zret (q34 (i := 43) rfl) rfl (by decide) (by unfold canT at hQ; simp_all)
              · have c7 : ¬ (hasS (hI h 3 6 + hI h 3 7) a = 0) := c7
                refine r_aload_n (q34 (i := 30) rfl) rfl ?_
                refine r_iload_n (q34 (i := 31) rfl) rfl ?_
                refine r_cV (d := _) (q34 (i := 32) rfl) rfl rfl rfl (k_3 S) (Nat.le_of_ble_eq_true rfl) (Nat.zero_le _) (Nat.zero_le _) (sp_hasSignal_3 S b) ?_
                show Wp _ _ _ 61 [(5, .int 0), (0, .ref 3), (1, .int kd), (2, .int a), (3, .int b), (4, .int c)] [.int (hasS (hI h 3 6 + hI h 3 7) b)] h _ _
                refine r_if 82 (q34 (i := 33) rfl) (by decide) (fun c8 => ?_) (fun c8 => ?_)
                · have c8 : hasS (hI h 3 6 + hI h 3 7) b = 0 := c8
                  refine r_iconst (v := 0) (q34 (i := 42) rfl) (by decide) ?_
                  exact r_zret (q34 (i := 43) rfl) rfl (by decide) (by unfold canT at hQ; simp_all)
                · have c8 : ¬ (hasS (hI h 3 6 + hI h 3 7) b = 0) := c8
                  refine r_iload (q34 (i := 34) rfl) rfl ?_
                  refine r_if 78 (q34 (i := 35) rfl) (by decide) (fun _ => ?_) (fun c => absurd (show (0 : Int32) = 0 from by decide) c)
                  refine r_iconst (v := 1) (q34 (i := 40) rfl) (by decide) ?_
                  refine r_goto 83 (q34 (i := 41) rfl) (by decide) ?_
                  exact r_zret (q34 (i := 43) rfl) rfl (by decide) (by unfold canT at hQ; simp_all)
            · have c6 : ¬ (¬ kd = 7) := c6
              refine r_iconst (v := 1) (q34 (i := 22) rfl) (by decide) ?_
              refine r_goto 46 (q34 (i := 23) rfl) (by decide) ?_
              refine r_istore (ls' := [(5, .int 1), (0, .ref 3), (1, .int kd), (2, .int a), (3, .int b), (4, .int c)]) (q34 (i := 25) rfl) (Nat.le_of_ble_eq_true rfl) rfl ?_
              refine r_aload_n (q34 (i := 26) rfl) rfl ?_
              refine r_iload_n (q34 (i := 27) rfl) rfl ?_
              refine r_cV (d := _) (q34 (i := 28) rfl) rfl rfl rfl (k_3 S) (Nat.le_of_ble_eq_true rfl) (Nat.zero_le _) (Nat.zero_le _) (sp_hasSignal_3 S a) ?_
              show Wp _ _ _ 53 [(5, .int 1), (0, .ref 3), (1, .int kd), (2, .int a), (3, .int b), (4, .int c)] [.int (hasS (hI h 3 6 + hI h 3 7) a)] h _ _
              refine r_if 82 (q34 (i := 29) rfl) (by decide) (fun c7 => ?_) (fun c7 => ?_)
              · have c7 : hasS (hI h 3 6 + hI h 3 7) a = 0 := c7
                refine r_iconst (v := 0) (q34 (i := 42) rfl) (by decide) ?_
                exact r_zret (q34 (i := 43) rfl) rfl (by decide) (by unfold canT at hQ; simp_all)
              · have c7 : ¬ (hasS (hI h 3 6 + hI h 3 7) a = 0) := c7
                refine r_aload_n (q34 (i := 30) rfl) rfl ?_
                refine r_iload_n (q34 (i := 31) rfl) rfl ?_
                refine r_cV (d := _) (q34 (i := 32) rfl) rfl rfl rfl (k_3 S) (Nat.le_of_ble_eq_true rfl) (Nat.zero_le _) (Nat.zero_le _) (sp_hasSignal_3 S b) ?_
                show Wp _ _ _ 61 [(5, .int 1), (0, .ref 3), (1, .int kd), (2, .int a), (3, .int b), (4, .int c)] [.int (hasS (hI h 3 6 + hI h 3 7) b)] h _ _
                refine r_if 82 (q34 (i := 33) rfl) (by decide) (fun c8 => ?_) (fun c8 => ?_)
                · have c8 : hasS (hI h 3 6 + hI h 3 7) b = 0 := c8
                  refine r_iconst (v := 0) (q34 (i := 42) rfl) (by decide) ?_
                  exact r_zret (q34 (i := 43) rfl) rfl (by decide) (by unfold canT at hQ; simp_all)
                · have c8 : ¬ (hasS (hI h 3 6 + hI h 3 7) b = 0) := c8
                  refine r_iload (q34 (i := 34) rfl) rfl ?_
                  refine r_if 78 (q34 (i := 35) rfl) (by decide) (fun c => absurd c (show ¬ ((1 : Int32) = 0) from by decide)) (fun _ => ?_)
                  refine r_aload_n (q34 (i := 36) rfl) rfl ?_
                  refine r_iload (q34 (i := 37) rfl) rfl ?_
                  refine r_cV (d := _) (q34 (i := 38) rfl) rfl rfl rfl (k_3 S) (Nat.le_of_ble_eq_true rfl) (Nat.zero_le _) (Nat.zero_le _) (sp_hasSignal_3 S c) ?_
                  show Wp _ _ _ 75 [(5, .int 1), (0, .ref 3), (1, .int kd), (2, .int a), (3, .int b), (4, .int c)] [.int (hasS (hI h 3 6 + hI h 3 7) c)] h _ _
                  refine r_if 82 (q34 (i := 39) rfl) (by decide) (fun c10 => ?_) (fun c10 => ?_)
                  · have c10 : hasS (hI h 3 6 + hI h 3 7) c = 0 := c10
                    refine r_iconst (v := 0) (q34 (i := 42) rfl) (by decide) ?_
                    exact r_zret (q34 (i := 43) rfl) rfl (by decide) (by unfold canT at hQ; simp_all)
                  · have c10 : ¬ (hasS (hI h 3 6 + hI h 3 7) c = 0) := c10
                    refine r_iconst (v := 1) (q34 (i := 40) rfl) (by decide) ?_
                    refine r_goto 83 (q34 (i := 41) rfl) (by decide) ?_
                    exact r_zret (q34 (i := 43) rfl) rfl (by decide) (by unfold canT at hQ; simp_all)
        · have c4 : ¬ (¬ kd = 8) := c4
          refine r_iconst (v := 1) (q34 (i := 14) rfl) (by decide) ?_
          exact r_zret (q34 (i := 15) rfl) rfl (by decide) (by unfold canT at hQ; simp_all)
      · have c3 : ¬ (hI h 3 7 < 120) := c3
        have c3x : (120 : Int32) ≤ hI h 3 7 := by rw [← Int32.not_lt]; exact c3
        refine r_iconst (v := 0) (q34 (i := 9) rfl) (by decide) ?_
        exact r_zret (q34 (i := 10) rfl) rfl (by decide) (by unfold canT at hQ; simp_all)
set_option maxHeartbeats 2000000 in
set_option maxRecDepth 10000 in
theorem sp_addGate_3 {d : Nat} {h : hp} (S : Sh h) {g : Nat} (hg : hI h 3 7 = nI g) (hg1 : g < 120) (kd a b c : Int32) : Run (d + 1) 35 [.ref 3, .int kd, .int a, .int b, .int c] h 0 0 (some (.int (hI h 3 6 + nI (g + 1) - 1))) (sI (sI (sI (sI (sI h 4 g kd) 5 g a) 6 g b) 7 g c) 3 7 (nI (g + 1))) := by
  refine Run.of (Nat.le_of_ble_eq_true rfl) (fun Q hQ => ?_)
  show Wp (Ex (d)) 35 Q 0 [(0, .ref 3), (1, .int kd), (2, .int a), (3, .int b), (4, .int c)] [] h 0 0
  refine r_aload_n (q35 (i := 0) rfl) rfl ?_
  refine r_getI (x := nI g) (q35 (i := 1) rfl) rfl (by decide) (k_3 S) (fun _ _ _ => rfl) hg ?_
  refine r_bipush (v := 120) (q35 (i := 2) rfl) (by decide) ?_
  refine r_icmp 11 (q35 (i := 3) rfl) (by decide) (fun _ => ?_) (fun c => absurd (show nI g < 120 from nI_lt (b := 120) hg1 (by decide)) c)
  refine r_aload_n (q35 (i := 6) rfl) rfl ?_
  refine r_getR (b := 4) (q35 (i := 7) rfl) rfl (by decide) (k_3 S) (fun _ _ _ => rfl) (r_3_0 S) ?_
  refine r_aload_n (q35 (i := 8) rfl) rfl ?_
  refine r_getI (x := nI g) (q35 (i := 9) rfl) rfl (by decide) (k_3 S) (fun _ _ _ => rfl) hg ?_
  refine r_iload_n (q35 (i := 10) rfl) rfl ?_
  refine r_iasN (q35 (i := 11) rfl) (k_4 S) (by omega) (by decide) ?_
  refine r_aload_n (q35 (i := 12) rfl) rfl ?_
  refine r_getR (b := 5) (q35 (i := 13) rfl) rfl (by decide) (k_3 S) (fun _ _ _ => rfl) (r_3_1 S) ?_
  refine r_aload_n (q35 (i := 14) rfl) rfl ?_
  refine r_getI (x := nI g) (q35 (i := 15) rfl) rfl (by decide) (k_3 S) (fun _ _ _ => rfl) hg ?_
  refine r_iload_n (q35 (i := 16) rfl) rfl ?_
  refine r_iasN (q35 (i := 17) rfl) (k_5 S) (by omega) (by decide) ?_
  refine r_aload_n (q35 (i := 18) rfl) rfl ?_
  refine r_getR (b := 6) (q35 (i := 19) rfl) rfl (by decide) (k_3 S) (fun _ _ _ => rfl) (r_3_2 S) ?_
  refine r_aload_n (q35 (i := 20) rfl) rfl ?_
  refine r_getI (x := nI g) (q35 (i := 21) rfl) rfl (by decide) (k_3 S) (fun _ _ _ => rfl) hg ?_
  refine r_iload_n (q35 (i := 22) rfl) rfl ?_
  refine r_iasN (q35 (i := 23) rfl) (k_6 S) (by omega) (by decide) ?_
  refine r_aload_n (q35 (i := 24) rfl) rfl ?_
  refine r_getR (b := 7) (q35 (i := 25) rfl) rfl (by decide) (k_3 S) (fun _ _ _ => rfl) (r_3_3 S) ?_
  refine r_aload_n (q35 (i := 26) rfl) rfl ?_
  refine r_getI (x := nI g) (q35 (i := 27) rfl) rfl (by decide) (k_3 S) (fun _ _ _ => rfl) hg ?_
  refine r_iload (q35 (i := 28) rfl) rfl ?_
  refine r_iasN (q35 (i := 29) rfl) (k_7 S) (by omega) (by decide) ?_
  refine r_aload_n (q35 (i := 30) rfl) rfl ?_
  refine r_dup (q35 (i := 31) rfl) rfl ?_
  refine r_getI (x := nI g) (q35 (i := 32) rfl) rfl (by decide) (k_3 S) (fun _ _ _ => rfl) hg ?_
  refine r_iconst (v := 1) (q35 (i := 33) rfl) (by decide) ?_
  refine r_iadd (q35 (i := 34) rfl) ?_
  rw [show ((nI g) + 1 : Int32) = nI (g + 1) from nI_1 g]
  refine r_putI (q35 (i := 35) rfl) rfl (by decide) (k_3 S) rfl rfl ?_
  refine r_aload_n (q35 (i := 36) rfl) rfl ?_
  refine r_getI (x := hI h 3 6) (q35 (i := 37) rfl) rfl (by decide) (k_3 S) (fun _ _ _ => rfl) rfl ?_
  refine r_aload_n (q35 (i := 38) rfl) rfl ?_
  refine r_getI (x := nI (g + 1)) (q35 (i := 39) rfl) rfl (by decide) (k_3 S) (fun _ _ _ => rfl) rfl ?_
  refine r_iadd (q35 (i := 40) rfl) ?_
  refine r_iconst (v := 1) (q35 (i := 41) rfl) (by decide) ?_
  refine r_isub (q35 (i := 42) rfl) ?_
  exact r_iret (q35 (i := 43) rfl) rfl hQ
set_option maxHeartbeats 2000000 in
set_option maxRecDepth 10000 in
theorem sp_addOut_3 {d : Nat} {h : hp} (S : Sh h) {g : Nat} (hg : hI h 3 8 = nI g) (hg1 : g < 10) (s : Int32) : Run (d + 1) 36 [.ref 3, .int s] h 0 0 (some (.int (nI (g + 1) - 1))) (sI (sI h 8 g s) 3 8 (nI (g + 1))) := by
  refine Run.of (Nat.le_of_ble_eq_true rfl) (fun Q hQ => ?_)
  show Wp (Ex (d)) 36 Q 0 [(0, .ref 3), (1, .int s)] [] h 0 0
  refine r_aload_n (q36 (i := 0) rfl) rfl ?_
  refine r_getI (x := nI g) (q36 (i := 1) rfl) rfl (by decide) (k_3 S) (fun _ _ _ => rfl) hg ?_
  refine r_bipush (v := 10) (q36 (i := 2) rfl) (by decide) ?_
  refine r_icmp 11 (q36 (i := 3) rfl) (by decide) (fun _ => ?_) (fun c => absurd (show nI g < 10 from nI_lt (b := 10) hg1 (by decide)) c)
  refine r_aload_n (q36 (i := 6) rfl) rfl ?_
  refine r_getR (b := 8) (q36 (i := 7) rfl) rfl (by decide) (k_3 S) (fun _ _ _ => rfl) (r_3_4 S) ?_
  refine r_aload_n (q36 (i := 8) rfl) rfl ?_
  refine r_getI (x := nI g) (q36 (i := 9) rfl) rfl (by decide) (k_3 S) (fun _ _ _ => rfl) hg ?_
  refine r_iload_n (q36 (i := 10) rfl) rfl ?_
  refine r_iasN (q36 (i := 11) rfl) (k_8 S) (by omega) (by decide) ?_
  refine r_aload_n (q36 (i := 12) rfl) rfl ?_
  refine r_dup (q36 (i := 13) rfl) rfl ?_
  refine r_getI (x := nI g) (q36 (i := 14) rfl) rfl (by decide) (k_3 S) (fun _ _ _ => rfl) hg ?_
  refine r_iconst (v := 1) (q36 (i := 15) rfl) (by decide) ?_
  refine r_iadd (q36 (i := 16) rfl) ?_
  rw [show ((nI g) + 1 : Int32) = nI (g + 1) from nI_1 g]
  refine r_putI (q36 (i := 17) rfl) rfl (by decide) (k_3 S) rfl rfl ?_
  refine r_aload_n (q36 (i := 18) rfl) rfl ?_
  refine r_getI (x := nI (g + 1)) (q36 (i := 19) rfl) rfl (by decide) (k_3 S) (fun _ _ _ => rfl) rfl ?_
  refine r_iconst (v := 1) (q36 (i := 20) rfl) (by decide) ?_
  refine r_isub (q36 (i := 21) rfl) ?_
  exact r_iret (q36 (i := 22) rfl) rfl hQ
set_option maxHeartbeats 2000000 in
set_option maxRecDepth 10000 in
theorem sp_hasSignal_10 {d : Nat} {h : hp} (S : Sh h) (s : Int32) : Run (d + 1 + 1) 33 [.ref 10, .int s] h 0 0 (some (.int (hasS (hI h 10 6 + hI h 10 7) s))) h := by
  refine Run.of (Nat.le_of_ble_eq_true rfl) (fun Q hQ => ?_)
  show Wp (Ex (d + 1)) 33 Q 0 [(0, .ref 10), (1, .int s)] [] h 0 0
  refine r_iload_n (q33 (i := 0) rfl) rfl ?_
  refine r_cS (d := _) (q33 (i := 1) rfl) rfl (Nat.le_of_ble_eq_true rfl) rfl rfl (Nat.le_of_ble_eq_true rfl) (Nat.zero_le _) (Nat.zero_le _) (sp_plain s) ?_
  show Wp _ _ _ 4 [(0, .ref 10), (1, .int s)] [.int (pl s)] h _ _
  refine r_aload_n (q33 (i := 2) rfl) rfl ?_
  refine r_getI (x := hI h 10 6) (q33 (i := 3) rfl) rfl (by decide) (k_10 S) (fun _ _ _ => rfl) rfl ?_
  refine r_aload_n (q33 (i := 4) rfl) rfl ?_
  refine r_getI (x := hI h 10 7) (q33 (i := 5) rfl) rfl (by decide) (k_10 S) (fun _ _ _ => rfl) rfl ?_
  refine r_iadd (q33 (i := 6) rfl) ?_
  refine r_icmp 20 (q33 (i := 7) rfl) (by decide) (fun c => ?_) (fun c => ?_)
  · have c : (hI h 10 6) + (hI h 10 7) ≤ pl s := c
    refine r_iconst (v := 0) (q33 (i := 10) rfl) (by decide) ?_
    exact r_zret (q33 (i := 11) rfl) rfl (by decide) (by unfold hasS at hQ; first | (rw [if_pos (lt0 c)] at hQ; exact hQ) | (rw [if_neg (nlt0 c)] at hQ; exact hQ))
  · have c : ¬ ((hI h 10 6) + (hI h 10 7) ≤ pl s) := c
    refine r_iconst (v := 1) (q33 (i := 8) rfl) (by decide) ?_
    refine r_goto 21 (q33 (i := 9) rfl) (by decide) ?_
    exact r_zret (q33 (i := 11) rfl) rfl (by decide) (by unfold hasS at hQ; first | (rw [if_pos (lt0 c)] at hQ; exact hQ) | (rw [if_neg (nlt0 c)] at hQ; exact hQ))
set_option maxHeartbeats 2000000 in
set_option maxRecDepth 10000 in
theorem sp_reset_10 {d : Nat} {h : hp} (S : Sh h) (n : Int32) : Run (d + 1) 32 [.ref 10, .int n] h 0 0 none (sI (sI (sI h 10 6 n) 10 7 0) 10 8 0) := by
  refine Run.of (Nat.le_of_ble_eq_true rfl) (fun Q hQ => ?_)
  show Wp (Ex (d)) 32 Q 0 [(0, .ref 10), (1, .int n)] [] h 0 0
  refine r_aload_n (q32 (i := 0) rfl) rfl ?_
  refine r_iload_n (q32 (i := 1) rfl) rfl ?_
  refine r_putI (q32 (i := 2) rfl) rfl (by decide) (k_10 S) rfl rfl ?_
  refine r_aload_n (q32 (i := 3) rfl) rfl ?_
  refine r_iconst (v := 0) (q32 (i := 4) rfl) (by decide) ?_
  refine r_putI (q32 (i := 5) rfl) rfl (by decide) (k_10 S) rfl rfl ?_
  refine r_aload_n (q32 (i := 6) rfl) rfl ?_
  refine r_iconst (v := 0) (q32 (i := 7) rfl) (by decide) ?_
  refine r_putI (q32 (i := 8) rfl) rfl (by decide) (k_10 S) rfl rfl ?_
  exact r_vret (q32 (i := 9) rfl) rfl hQ
set_option maxHeartbeats 2000000 in
set_option maxRecDepth 10000 in
theorem sp_canTake_10 {d : Nat} {h : hp} (S : Sh h) (kd a b c : Int32) : Run (d + 2 + 1) 34 [.ref 10, .int kd, .int a, .int b, .int c] h 0 0 (some (.int (canT (hI h 10 6 + hI h 10 7) (hI h 10 7) kd a b c))) h := by
  refine Run.of (Nat.le_of_ble_eq_true rfl) (fun Q hQ => ?_)
  show Wp (Ex (d + 2)) 34 Q 0 [(0, .ref 10), (1, .int kd), (2, .int a), (3, .int b), (4, .int c)] [] h 0 0
  refine r_iload_n (q34 (i := 0) rfl) rfl ?_
  refine r_if 19 (q34 (i := 1) rfl) (by decide) (fun c1 => ?_) (fun c1 => ?_)
  · have c1 : kd < 0 := c1
    refine r_iconst (v := 0) (q34 (i := 9) rfl) (by decide) ?_
    exact r_zret (q34 (i := 10) rfl) rfl (by decide) (by unfold canT at hQ; simp_all)
  · have c1 : ¬ (kd < 0) := c1
    refine r_iload_n (q34 (i := 2) rfl) rfl ?_
    refine r_bipush (v := 8) (q34 (i := 3) rfl) (by decide) ?_
    refine r_icmp 19 (q34 (i := 4) rfl) (by decide) (fun c2 => ?_) (fun c2 => ?_)
    · have c2 : 8 < kd := c2
      refine r_iconst (v := 0) (q34 (i := 9) rfl) (by decide) ?_
      exact r_zret (q34 (i := 10) rfl) rfl (by decide) (by unfold canT at hQ; simp_all)
    · have c2 : ¬ (8 < kd) := c2
      refine r_aload_n (q34 (i := 5) rfl) rfl ?_
      refine r_getI (x := hI h 10 7) (q34 (i := 6) rfl) rfl (by decide) (k_10 S) (fun _ _ _ => rfl) rfl ?_
      refine r_bipush (v := 120) (q34 (i := 7) rfl) (by decide) ?_
      refine r_icmp 21 (q34 (i := 8) rfl) (by decide) (fun c3 => ?_) (fun c3 => ?_)
      · have c3 : hI h 10 7 < 120 := c3
        have c3x : ¬ (120 : Int32) ≤ hI h 10 7 := by rw [Int32.not_le]; exact c3
        refine r_iload_n (q34 (i := 11) rfl) rfl ?_
        refine r_bipush (v := 8) (q34 (i := 12) rfl) (by decide) ?_
        refine r_icmp 29 (q34 (i := 13) rfl) (by decide) (fun c4 => ?_) (fun c4 => ?_)
        · have c4 : ¬ kd = 8 := c4
          refine r_iload_n (q34 (i := 16) rfl) rfl ?_
          refine r_bipush (v := 6) (q34 (i := 17) rfl) (by decide) ?_
          refine r_icmp 41 (q34 (i := 18) rfl) (by decide) (fun c5 => ?_) (fun c5 => ?_)
          · have c5 : kd = 6 := c5
            refine r_iconst (v := 1) (q34 (i := 22) rfl) (by decide) ?_
            refine r_goto 46 (q34 (i := 23) rfl) (by decide) ?_
            refine r_istore (ls' := [(5, .int 1), (0, .ref 10), (1, .int kd), (2, .int a), (3, .int b), (4, .int c)]) (q34 (i := 25) rfl) (Nat.le_of_ble_eq_true rfl) rfl ?_
            refine r_aload_n (q34 (i := 26) rfl) rfl ?_
            refine r_iload_n (q34 (i := 27) rfl) rfl ?_
            refine r_cV (d := _) (q34 (i := 28) rfl) rfl rfl rfl (k_10 S) (Nat.le_of_ble_eq_true rfl) (Nat.zero_le _) (Nat.zero_le _) (sp_hasSignal_10 S a) ?_
            show Wp _ _ _ 53 [(5, .int 1), (0, .ref 10), (1, .int kd), (2, .int a), (3, .int b), (4, .int c)] [.int (hasS (hI h 10 6 + hI h 10 7) a)] h _ _
            refine r_if 82 (q34 (i := 29) rfl) (by decide) (fun c7 => ?_) (fun c7 => ?_)
            · have c7 : hasS (hI h 10 6 + hI h 10 7) a = 0 := c7
              refine r_iconst (v := 0) (q34 (i := 42) rfl) (by decide) ?_
              exact r_zret (q34 (i := 43) rfl) rfl (by decide) (by unfold canT at hQ; simp_all)
            · have c7 : ¬ (hasS (hI h 10 6 + hI h 10 7) a = 0) := c7
              refine r_aload_n (q34 (i := 30) rfl) rfl ?_
              refine r_iload_n (q34 (i := 31) rfl) rfl ?_
              refine r_cV (d := _) (q34 (i := 32) rfl) rfl rfl rfl (k_10 S) (Nat.le_of_ble_eq_true rfl) (Nat.zero_le _) (Nat.zero_le _) (sp_hasSignal_10 S b) ?_
              show Wp _ _ _ 61 [(5, .int 1), (0, .ref 10), (1, .int kd), (2, .int a), (3, .int b), (4, .int c)] [.int (hasS (hI h 10 6 + hI h 10 7) b)] h _ _
              refine r_if 82 (q34 (i := 33) rfl) (by decide) (fun c8 => ?_) (fun c8 => ?_)
              · have c8 : hasS (hI h 10 6 + hI h 10 7) b = 0 := c8
                refine r_iconst (v := 0) (q34 (i := 42) rfl) (by decide) ?_
                exact r_zret (q34 (i := 43) rfl) rfl (by decide) (by unfold canT at hQ; simp_all)
              · have c8 : ¬ (hasS (hI h 10 6 + hI h 10 7) b = 0) := c8
                refine r_iload (q34 (i := 34) rfl) rfl ?_
                refine r_if 78 (q34 (i := 35) rfl) (by decide) (fun c => absurd c (show ¬ ((1 : Int32) = 0) from by decide)) (fun _ => ?_)
                refine r_aload_n (q34 (i := 36) rfl) rfl ?_
                refine r_iload (q34 (i := 37) rfl) rfl ?_
                refine r_cV (d := _) (q34 (i := 38) rfl) rfl rfl rfl (k_10 S) (Nat.le_of_ble_eq_true rfl) (Nat.zero_le _) (Nat.zero_le _) (sp_hasSignal_10 S c) ?_
                show Wp _ _ _ 75 [(5, .int 1), (0, .ref 10), (1, .int kd), (2, .int a), (3, .int b), (4, .int c)] [.int (hasS (hI h 10 6 + hI h 10 7) c)] h _ _
                refine r_if 82 (q34 (i := 39) rfl) (by decide) (fun c10 => ?_) (fun c10 => ?_)
                · have c10 : hasS (hI h 10 6 + hI h 10 7) c = 0 := c10
                  refine r_iconst (v := 0) (q34 (i := 42) rfl) (by decide) ?_
                  exact r_zret (q34 (i := 43) rfl) rfl (by decide) (by unfold canT at hQ; simp_all)
                · have c10 : ¬ (hasS (hI h 10 6 + hI h 10 7) c = 0) := c10
                  refine r_iconst (v := 1) (q34 (i := 40) rfl) (by decide) ?_
                  refine r_goto 83 (q34 (i := 41) rfl) (by decide) ?_
                  exact r_zret (q34 (i := 43) rfl) rfl (by decide) (by unfold canT at hQ; simp_all)
          · have c5 : ¬ (kd = 6) := c5
            refine r_iload_n (q34 (i := 19) rfl) rfl ?_
            refine r_bipush (v := 7) (q34 (i := 20) rfl) (by decide) ?_
            refine r_icmp 45 (q34 (i := 21) rfl) (by decide) (fun c6 => ?_) (fun c6 => ?_)
            · have c6 : ¬ kd = 7 := c6
              refine r_iconst (v := 0) (q34 (i := 24) rfl) (by decide) ?_
              refine r_istore (ls' := [(5, .int 0), (0, .ref 10), (1, .int kd), (2, .int a), (3, .int b), (4, .int c)]) (q34 (i := 25) rfl) (Nat.le_of_ble_eq_true rfl) rfl ?_
              refine r_aload_n (q34 (i := 26) rfl) rfl ?_
              refine r_iload_n (q34 (i := 27) rfl) rfl ?_
              refine r_cV (d := _) (q34 (i := 28) rfl) rfl rfl rfl (k_10 S) (Nat.le_of_ble_eq_true rfl) (Nat.zero_le _) (Nat.zero_le _) (sp_hasSignal_10 S a) ?_
              show Wp _ _ _ 53 [(5, .int 0), (0, .ref 10), (1, .int kd), (2, .int a), (3, .int b), (4, .int c)] [.int (hasS (hI h 10 6 + hI h 10 7) a)] h _ _
              refine r_if 82 (q34 (i := 29) rfl) (by decide) (fun c7 => ?_) (fun c7 => ?_)
              · have c7 : hasS (hI h 10 6 + hI h 10 7) a = 0 := c7
                refine r_iconst (v := 0) (q34 (i := 42) rfl) (by decide) ?_
                exact r_zret (q34 (i := 43) rfl) rfl (by decide) (by unfold canT at hQ; simp_all)
              · have c7 : ¬ (hasS (hI h 10 6 + hI h 10 7) a = 0) := c7
                refine r_aload_n (q34 (i := 30) rfl) rfl ?_
                refine r_iload_n (q34 (i := 31) rfl) rfl ?_
                refine r_cV (d := _) (q34 (i := 32) rfl) rfl rfl rfl (k_10 S) (Nat.le_of_ble_eq_true rfl) (Nat.zero_le _) (Nat.zero_le _) (sp_hasSignal_10 S b) ?_
                show Wp _ _ _ 61 [(5, .int 0), (0, .ref 10), (1, .int kd), (2, .int a), (3, .int b), (4, .int c)] [.int (hasS (hI h 10 6 + hI h 10 7) b)] h _ _
                refine r_if 82 (q34 (i := 33) rfl) (by decide) (fun c8 => ?_) (fun c8 => ?_)
                · have c8 : hasS (hI h 10 6 + hI h 10 7) b = 0 := c8
                  refine r_iconst (v := 0) (q34 (i := 42) rfl) (by decide) ?_
                  exact r_zret (q34 (i := 43) rfl) rfl (by decide) (by unfold canT at hQ; simp_all)
                · have c8 : ¬ (hasS (hI h 10 6 + hI h 10 7) b = 0) := c8
                  refine r_iload (q34 (i := 34) rfl) rfl ?_
                  refine r_if 78 (q34 (i := 35) rfl) (by decide) (fun _ => ?_) (fun c => absurd (show (0 : Int32) = 0 from by decide) c)
                  refine r_iconst (v := 1) (q34 (i := 40) rfl) (by decide) ?_
                  refine r_goto 83 (q34 (i := 41) rfl) (by decide) ?_
                  exact r_zret (q34 (i := 43) rfl) rfl (by decide) (by unfold canT at hQ; simp_all)
            · have c6 : ¬ (¬ kd = 7) := c6
              refine r_iconst (v := 1) (q34 (i := 22) rfl) (by decide) ?_
              refine r_goto 46 (q34 (i := 23) rfl) (by decide) ?_
              refine r_istore (ls' := [(5, .int 1), (0, .ref 10), (1, .int kd), (2, .int a), (3, .int b), (4, .int c)]) (q34 (i := 25) rfl) (Nat.le_of_ble_eq_true rfl) rfl ?_
              refine r_aload_n (q34 (i := 26) rfl) rfl ?_
              refine r_iload_n (q34 (i := 27) rfl) rfl ?_
              refine r_cV (d := _) (q34 (i := 28) rfl) rfl rfl rfl (k_10 S) (Nat.le_of_ble_eq_true rfl) (Nat.zero_le _) (Nat.zero_le _) (sp_hasSignal_10 S a) ?_
              show Wp _ _ _ 53 [(5, .int 1), (0, .ref 10), (1, .int kd), (2, .int a), (3, .int b), (4, .int c)] [.int (hasS (hI h 10 6 + hI h 10 7) a)] h _ _
              refine r_if 82 (q34 (i := 29) rfl) (by decide) (fun c7 => ?_) (fun c7 => ?_)
              · have c7 : hasS (hI h 10 6 + hI h 10 7) a = 0 := c7
                refine r_iconst (v := 0) (q34 (i := 42) rfl) (by decide) ?_
                exact r_zret (q34 (i := 43) rfl) rfl (by decide) (by unfold canT at hQ; simp_all)
              · have c7 : ¬ (hasS (hI h 10 6 + hI h 10 7) a = 0) := c7
                refine r_aload_n (q34 (i := 30) rfl) rfl ?_
                refine r_iload_n (q34 (i := 31) rfl) rfl ?_
                refine r_cV (d := _) (q34 (i := 32) rfl) rfl rfl rfl (k_10 S) (Nat.le_of_ble_eq_true rfl) (Nat.zero_le _) (Nat.zero_le _) (sp_hasSignal_10 S b) ?_
                show Wp _ _ _ 61 [(5, .int 1), (0, .ref 10), (1, .int kd), (2, .int a), (3, .int b), (4, .int c)] [.int (hasS (hI h 10 6 + hI h 10 7) b)] h _ _
                refine r_if 82 (q34 (i := 33) rfl) (by decide) (fun c8 => ?_) (fun c8 => ?_)
                · have c8 : hasS (hI h 10 6 + hI h 10 7) b = 0 := c8
                  refine r_iconst (v := 0) (q34 (i := 42) rfl) (by decide) ?_
                  exact r_zret (q34 (i := 43) rfl) rfl (by decide) (by unfold canT at hQ; simp_all)
                · have c8 : ¬ (hasS (hI h 10 6 + hI h 10 7) b = 0) := c8
                  refine r_iload (q34 (i := 34) rfl) rfl ?_
                  refine r_if 78 (q34 (i := 35) rfl) (by decide) (fun c => absurd c (show ¬ ((1 : Int32) = 0) from by decide)) (fun _ => ?_)
                  refine r_aload_n (q34 (i := 36) rfl) rfl ?_
                  refine r_iload (q34 (i := 37) rfl) rfl ?_
                  refine r_cV (d := _) (q34 (i := 38) rfl) rfl rfl rfl (k_10 S) (Nat.le_of_ble_eq_true rfl) (Nat.zero_le _) (Nat.zero_le _) (sp_hasSignal_10 S c) ?_
                  show Wp _ _ _ 75 [(5, .int 1), (0, .ref 10), (1, .int kd), (2, .int a), (3, .int b), (4, .int c)] [.int (hasS (hI h 10 6 + hI h 10 7) c)] h _ _
                  refine r_if 82 (q34 (i := 39) rfl) (by decide) (fun c10 => ?_) (fun c10 => ?_)
                  · have c10 : hasS (hI h 10 6 + hI h 10 7) c = 0 := c10
                    refine r_iconst (v := 0) (q34 (i := 42) rfl) (by decide) ?_
                    exact r_zret (q34 (i := 43) rfl) rfl (by decide) (by unfold canT at hQ; simp_all)
                  · have c10 : ¬ (hasS (hI h 10 6 + hI h 10 7) c = 0) := c10
                    refine r_iconst (v := 1) (q34 (i := 40) rfl) (by decide) ?_
                    refine r_goto 83 (q34 (i := 41) rfl) (by decide) ?_
                    exact r_zret (q34 (i := 43) rfl) rfl (by decide) (by unfold canT at hQ; simp_all)
        · have c4 : ¬ (¬ kd = 8) := c4
          refine r_iconst (v := 1) (q34 (i := 14) rfl) (by decide) ?_
          exact r_zret (q34 (i := 15) rfl) rfl (by decide) (by unfold canT at hQ; simp_all)
      · have c3 : ¬ (hI h 10 7 < 120) := c3
        have c3x : (120 : Int32) ≤ hI h 10 7 := by rw [← Int32.not_lt]; exact c3
        refine r_iconst (v := 0) (q34 (i := 9) rfl) (by decide) ?_
        exact r_zret (q34 (i := 10) rfl) rfl (by decide) (by unfold canT at hQ; simp_all)
set_option maxHeartbeats 2000000 in
set_option maxRecDepth 10000 in
theorem sp_addGate_10 {d : Nat} {h : hp} (S : Sh h) {g : Nat} (hg : hI h 10 7 = nI g) (hg1 : g < 120) (kd a b c : Int32) : Run (d + 1) 35 [.ref 10, .int kd, .int a, .int b, .int c] h 0 0 (some (.int (hI h 10 6 + nI (g + 1) - 1))) (sI (sI (sI (sI (sI h 11 g kd) 12 g a) 13 g b) 14 g c) 10 7 (nI (g + 1))) := by
  refine Run.of (Nat.le_of_ble_eq_true rfl) (fun Q hQ => ?_)
  show Wp (Ex (d)) 35 Q 0 [(0, .ref 10), (1, .int kd), (2, .int a), (3, .int b), (4, .int c)] [] h 0 0
  refine r_aload_n (q35 (i := 0) rfl) rfl ?_
  refine r_getI (x := nI g) (q35 (i := 1) rfl) rfl (by decide) (k_10 S) (fun _ _ _ => rfl) hg ?_
  refine r_bipush (v := 120) (q35 (i := 2) rfl) (by decide) ?_
  refine r_icmp 11 (q35 (i := 3) rfl) (by decide) (fun _ => ?_) (fun c => absurd (show nI g < 120 from nI_lt (b := 120) hg1 (by decide)) c)
  refine r_aload_n (q35 (i := 6) rfl) rfl ?_
  refine r_getR (b := 11) (q35 (i := 7) rfl) rfl (by decide) (k_10 S) (fun _ _ _ => rfl) (r_10_0 S) ?_
  refine r_aload_n (q35 (i := 8) rfl) rfl ?_
  refine r_getI (x := nI g) (q35 (i := 9) rfl) rfl (by decide) (k_10 S) (fun _ _ _ => rfl) hg ?_
  refine r_iload_n (q35 (i := 10) rfl) rfl ?_
  refine r_iasN (q35 (i := 11) rfl) (k_11 S) (by omega) (by decide) ?_
  refine r_aload_n (q35 (i := 12) rfl) rfl ?_
  refine r_getR (b := 12) (q35 (i := 13) rfl) rfl (by decide) (k_10 S) (fun _ _ _ => rfl) (r_10_1 S) ?_
  refine r_aload_n (q35 (i := 14) rfl) rfl ?_
  refine r_getI (x := nI g) (q35 (i := 15) rfl) rfl (by decide) (k_10 S) (fun _ _ _ => rfl) hg ?_
  refine r_iload_n (q35 (i := 16) rfl) rfl ?_
  refine r_iasN (q35 (i := 17) rfl) (k_12 S) (by omega) (by decide) ?_
  refine r_aload_n (q35 (i := 18) rfl) rfl ?_
  refine r_getR (b := 13) (q35 (i := 19) rfl) rfl (by decide) (k_10 S) (fun _ _ _ => rfl) (r_10_2 S) ?_
  refine r_aload_n (q35 (i := 20) rfl) rfl ?_
  refine r_getI (x := nI g) (q35 (i := 21) rfl) rfl (by decide) (k_10 S) (fun _ _ _ => rfl) hg ?_
  refine r_iload_n (q35 (i := 22) rfl) rfl ?_
  refine r_iasN (q35 (i := 23) rfl) (k_13 S) (by omega) (by decide) ?_
  refine r_aload_n (q35 (i := 24) rfl) rfl ?_
  refine r_getR (b := 14) (q35 (i := 25) rfl) rfl (by decide) (k_10 S) (fun _ _ _ => rfl) (r_10_3 S) ?_
  refine r_aload_n (q35 (i := 26) rfl) rfl ?_
  refine r_getI (x := nI g) (q35 (i := 27) rfl) rfl (by decide) (k_10 S) (fun _ _ _ => rfl) hg ?_
  refine r_iload (q35 (i := 28) rfl) rfl ?_
  refine r_iasN (q35 (i := 29) rfl) (k_14 S) (by omega) (by decide) ?_
  refine r_aload_n (q35 (i := 30) rfl) rfl ?_
  refine r_dup (q35 (i := 31) rfl) rfl ?_
  refine r_getI (x := nI g) (q35 (i := 32) rfl) rfl (by decide) (k_10 S) (fun _ _ _ => rfl) hg ?_
  refine r_iconst (v := 1) (q35 (i := 33) rfl) (by decide) ?_
  refine r_iadd (q35 (i := 34) rfl) ?_
  rw [show ((nI g) + 1 : Int32) = nI (g + 1) from nI_1 g]
  refine r_putI (q35 (i := 35) rfl) rfl (by decide) (k_10 S) rfl rfl ?_
  refine r_aload_n (q35 (i := 36) rfl) rfl ?_
  refine r_getI (x := hI h 10 6) (q35 (i := 37) rfl) rfl (by decide) (k_10 S) (fun _ _ _ => rfl) rfl ?_
  refine r_aload_n (q35 (i := 38) rfl) rfl ?_
  refine r_getI (x := nI (g + 1)) (q35 (i := 39) rfl) rfl (by decide) (k_10 S) (fun _ _ _ => rfl) rfl ?_
  refine r_iadd (q35 (i := 40) rfl) ?_
  refine r_iconst (v := 1) (q35 (i := 41) rfl) (by decide) ?_
  refine r_isub (q35 (i := 42) rfl) ?_
  exact r_iret (q35 (i := 43) rfl) rfl hQ
set_option maxHeartbeats 2000000 in
set_option maxRecDepth 10000 in
theorem sp_addOut_10 {d : Nat} {h : hp} (S : Sh h) {g : Nat} (hg : hI h 10 8 = nI g) (hg1 : g < 10) (s : Int32) : Run (d + 1) 36 [.ref 10, .int s] h 0 0 (some (.int (nI (g + 1) - 1))) (sI (sI h 15 g s) 10 8 (nI (g + 1))) := by
  refine Run.of (Nat.le_of_ble_eq_true rfl) (fun Q hQ => ?_)
  show Wp (Ex (d)) 36 Q 0 [(0, .ref 10), (1, .int s)] [] h 0 0
  refine r_aload_n (q36 (i := 0) rfl) rfl ?_
  refine r_getI (x := nI g) (q36 (i := 1) rfl) rfl (by decide) (k_10 S) (fun _ _ _ => rfl) hg ?_
  refine r_bipush (v := 10) (q36 (i := 2) rfl) (by decide) ?_
  refine r_icmp 11 (q36 (i := 3) rfl) (by decide) (fun _ => ?_) (fun c => absurd (show nI g < 10 from nI_lt (b := 10) hg1 (by decide)) c)
  refine r_aload_n (q36 (i := 6) rfl) rfl ?_
  refine r_getR (b := 15) (q36 (i := 7) rfl) rfl (by decide) (k_10 S) (fun _ _ _ => rfl) (r_10_4 S) ?_
  refine r_aload_n (q36 (i := 8) rfl) rfl ?_
  refine r_getI (x := nI g) (q36 (i := 9) rfl) rfl (by decide) (k_10 S) (fun _ _ _ => rfl) hg ?_
  refine r_iload_n (q36 (i := 10) rfl) rfl ?_
  refine r_iasN (q36 (i := 11) rfl) (k_15 S) (by omega) (by decide) ?_
  refine r_aload_n (q36 (i := 12) rfl) rfl ?_
  refine r_dup (q36 (i := 13) rfl) rfl ?_
  refine r_getI (x := nI g) (q36 (i := 14) rfl) rfl (by decide) (k_10 S) (fun _ _ _ => rfl) hg ?_
  refine r_iconst (v := 1) (q36 (i := 15) rfl) (by decide) ?_
  refine r_iadd (q36 (i := 16) rfl) ?_
  rw [show ((nI g) + 1 : Int32) = nI (g + 1) from nI_1 g]
  refine r_putI (q36 (i := 17) rfl) rfl (by decide) (k_10 S) rfl rfl ?_
  refine r_aload_n (q36 (i := 18) rfl) rfl ?_
  refine r_getI (x := nI (g + 1)) (q36 (i := 19) rfl) rfl (by decide) (k_10 S) (fun _ _ _ => rfl) rfl ?_
  refine r_iconst (v := 1) (q36 (i := 20) rfl) (by decide) ?_
  refine r_isub (q36 (i := 21) rfl) ?_
  exact r_iret (q36 (i := 22) rfl) rfl hQ
end
section
/-! ===== literalOf, Arrays.fill, Long.bitCount ===== -/
theorem hasS_ne {n s : Int32} (h : ¬ hasS n s = 0) : pl s < n := by
  unfold hasS at h
  split at h
  · assumption
  · exact absurd rfl h
theorem hasS_eq {n s : Int32} (h : hasS n s = 0) : ¬ pl s < n := by
  unfold hasS at h
  split at h
  · exact absurd h (by decide)
  · assumption
theorem pl_pos {s : Int32} (h : 0 ≤ s) : pl s = s := by unfold pl; rw [if_neg (nlt0 h)]
set_option maxHeartbeats 2000000 in
set_option maxRecDepth 10000 in
theorem sp_literalOf_3 {d : Nat} {h : hp} (S : Sh h) {m : Nat} (hm : hI h 3 6 + hI h 3 7 = nI m) (hm1 : m ≤ 132) (s : Int32) : Run (d + 2 + 1) 37 [.ref 3, .int s] h 0 0 (some (.int (litS (hI h 9) (nI m) s))) h := by
  refine Run.of (Nat.le_of_ble_eq_true rfl) (fun Q hQ => ?_)
  show Wp (Ex (d + 2)) 37 Q 0 [(0, .ref 3), (1, .int s)] [] h 0 0
  refine r_aload_n (q37 (i := 0) rfl) rfl ?_
  refine r_iload_n (q37 (i := 1) rfl) rfl ?_
  refine r_cV (d := _) (q37 (i := 2) rfl) rfl rfl rfl (k_3 S) (Nat.le_of_ble_eq_true rfl) (Nat.zero_le _) (Nat.zero_le _) (sp_hasSignal_3 S s) ?_
  show Wp _ _ _ 5 [(0, .ref 3), (1, .int s)] [.int (hasS (hI h 3 6 + hI h 3 7) s)] h _ _
  refine r_if 10 (q37 (i := 3) rfl) (by decide) (fun c5 => ?_) (fun c5 => ?_)
  · have c5 : ¬ hasS (hI h 3 6 + hI h 3 7) s = 0 := c5
    have hp : pl s < nI m := by rw [← hm]; exact hasS_ne c5
    refine r_iload_n (q37 (i := 6) rfl) rfl ?_
    refine r_if 28 (q37 (i := 7) rfl) (by decide) (fun c => ?_) (fun c => ?_)
    · have c : 0 ≤ s := c
      obtain ⟨k, hk, e⟩ := pl_nat s (by omega) hp
      refine r_aload_n (q37 (i := 16) rfl) rfl ?_
      refine r_getR (b := 9) (q37 (i := 17) rfl) rfl (by decide) (k_3 S) (fun _ _ _ => rfl) (r_3_5 S) ?_
      refine r_iload_n (q37 (i := 18) rfl) rfl ?_
      refine r_iaload (x := hI h 9 s.toNatClampNeg) (q37 (i := 19) rfl) (k_9 S) (by rw [← pl_pos c, e]; exact vp_in_nI (by omega) (by decide)) rfl ?_
      exact r_iret (q37 (i := 20) rfl) rfl (by unfold litS at hQ; rw [if_pos hp] at hQ; first | (rw [if_pos (lt0 c)] at hQ; exact hQ) | (rw [if_neg (nlt0 c)] at hQ; exact hQ))
    · have c : ¬ (0 ≤ s) := c
      obtain ⟨k, hk, e⟩ := pl_nat s (by omega) hp
      refine r_aload_n (q37 (i := 8) rfl) rfl ?_
      refine r_getR (b := 9) (q37 (i := 9) rfl) rfl (by decide) (k_3 S) (fun _ _ _ => rfl) (r_3_5 S) ?_
      refine r_iload_n (q37 (i := 10) rfl) rfl ?_
      refine r_cS (d := _) (q37 (i := 11) rfl) rfl (Nat.le_of_ble_eq_true rfl) rfl rfl (Nat.le_of_ble_eq_true rfl) (Nat.zero_le _) (Nat.zero_le _) (sp_plain s) ?_
      show Wp _ _ _ 22 [(0, .ref 3), (1, .int s)] [.int (pl s), .ref 9] h _ _
      refine r_iaload (x := hI h 9 (pl s).toNatClampNeg) (q37 (i := 12) rfl) (k_9 S) (by rw [e]; exact vp_in_nI (by omega) (by decide)) rfl ?_
      refine r_iconst (v := 1) (q37 (i := 13) rfl) (by decide) ?_
      refine r_ixor (q37 (i := 14) rfl) ?_
      refine r_goto 34 (q37 (i := 15) rfl) (by decide) ?_
      exact r_iret (q37 (i := 20) rfl) rfl (by unfold litS at hQ; rw [if_pos hp] at hQ; first | (rw [if_pos (lt0 c)] at hQ; exact hQ) | (rw [if_neg (nlt0 c)] at hQ; exact hQ))
  · have c5 : ¬ (¬ hasS (hI h 3 6 + hI h 3 7) s = 0) := c5
    have c5 : hasS (hI h 3 6 + hI h 3 7) s = 0 := Classical.not_not.mp c5
    have hp : ¬ pl s < nI m := by rw [← hm]; exact hasS_eq c5
    refine r_iconst (v := 0) (q37 (i := 4) rfl) (by decide) ?_
    exact r_iret (q37 (i := 5) rfl) rfl (by unfold litS at hQ; rw [if_neg hp] at hQ; exact hQ)
set_option maxHeartbeats 2000000 in
set_option maxRecDepth 10000 in
theorem sp_literalOf_10 {d : Nat} {h : hp} (S : Sh h) {m : Nat} (hm : hI h 10 6 + hI h 10 7 = nI m) (hm1 : m ≤ 132) (s : Int32) : Run (d + 2 + 1) 37 [.ref 10, .int s] h 0 0 (some (.int (litS (hI h 16) (nI m) s))) h := by
  refine Run.of (Nat.le_of_ble_eq_true rfl) (fun Q hQ => ?_)
  show Wp (Ex (d + 2)) 37 Q 0 [(0, .ref 10), (1, .int s)] [] h 0 0
  refine r_aload_n (q37 (i := 0) rfl) rfl ?_
  refine r_iload_n (q37 (i := 1) rfl) rfl ?_
  refine r_cV (d := _) (q37 (i := 2) rfl) rfl rfl rfl (k_10 S) (Nat.le_of_ble_eq_true rfl) (Nat.zero_le _) (Nat.zero_le _) (sp_hasSignal_10 S s) ?_
  show Wp _ _ _ 5 [(0, .ref 10), (1, .int s)] [.int (hasS (hI h 10 6 + hI h 10 7) s)] h _ _
  refine r_if 10 (q37 (i := 3) rfl) (by decide) (fun c5 => ?_) (fun c5 => ?_)
  · have c5 : ¬ hasS (hI h 10 6 + hI h 10 7) s = 0 := c5
    have hp : pl s < nI m := by rw [← hm]; exact hasS_ne c5
    refine r_iload_n (q37 (i := 6) rfl) rfl ?_
    refine r_if 28 (q37 (i := 7) rfl) (by decide) (fun c => ?_) (fun c => ?_)
    · have c : 0 ≤ s := c
      obtain ⟨k, hk, e⟩ := pl_nat s (by omega) hp
      refine r_aload_n (q37 (i := 16) rfl) rfl ?_
      refine r_getR (b := 16) (q37 (i := 17) rfl) rfl (by decide) (k_10 S) (fun _ _ _ => rfl) (r_10_5 S) ?_
      refine r_iload_n (q37 (i := 18) rfl) rfl ?_
      refine r_iaload (x := hI h 16 s.toNatClampNeg) (q37 (i := 19) rfl) (k_16 S) (by rw [← pl_pos c, e]; exact vp_in_nI (by omega) (by decide)) rfl ?_
      exact r_iret (q37 (i := 20) rfl) rfl (by unfold litS at hQ; rw [if_pos hp] at hQ; first | (rw [if_pos (lt0 c)] at hQ; exact hQ) | (rw [if_neg (nlt0 c)] at hQ; exact hQ))
    · have c : ¬ (0 ≤ s) := c
      obtain ⟨k, hk, e⟩ := pl_nat s (by omega) hp
      refine r_aload_n (q37 (i := 8) rfl) rfl ?_
      refine r_getR (b := 16) (q37 (i := 9) rfl) rfl (by decide) (k_10 S) (fun _ _ _ => rfl) (r_10_5 S) ?_
      refine r_iload_n (q37 (i := 10) rfl) rfl ?_
      refine r_cS (d := _) (q37 (i := 11) rfl) rfl (Nat.le_of_ble_eq_true rfl) rfl rfl (Nat.le_of_ble_eq_true rfl) (Nat.zero_le _) (Nat.zero_le _) (sp_plain s) ?_
      show Wp _ _ _ 22 [(0, .ref 10), (1, .int s)] [.int (pl s), .ref 16] h _ _
      refine r_iaload (x := hI h 16 (pl s).toNatClampNeg) (q37 (i := 12) rfl) (k_16 S) (by rw [e]; exact vp_in_nI (by omega) (by decide)) rfl ?_
      refine r_iconst (v := 1) (q37 (i := 13) rfl) (by decide) ?_
      refine r_ixor (q37 (i := 14) rfl) ?_
      refine r_goto 34 (q37 (i := 15) rfl) (by decide) ?_
      exact r_iret (q37 (i := 20) rfl) rfl (by unfold litS at hQ; rw [if_pos hp] at hQ; first | (rw [if_pos (lt0 c)] at hQ; exact hQ) | (rw [if_neg (nlt0 c)] at hQ; exact hQ))
  · have c5 : ¬ (¬ hasS (hI h 10 6 + hI h 10 7) s = 0) := c5
    have c5 : hasS (hI h 10 6 + hI h 10 7) s = 0 := Classical.not_not.mp c5
    have hp : ¬ pl s < nI m := by rw [← hm]; exact hasS_eq c5
    refine r_iconst (v := 0) (q37 (i := 4) rfl) (by decide) ?_
    exact r_iret (q37 (i := 5) rfl) rfl (by unfold litS at hQ; rw [if_neg hp] at hQ; exact hQ)
/-- what a fill has done, i places in -/
def filI (f : Nat → Int32) (v : Int32) (i : Nat) : Nat → Int32 := fun q => if q < i then v else f q
theorem filI_s (f : Nat → Int32) (v : Int32) (i : Nat) : u1 (filI f v i) i v = filI f v (i + 1) := by
  funext q
  unfold u1 filI
  by_cases e : q = i
  · rw [if_pos e, if_pos (by omega)]
  · rw [if_neg e]
    by_cases e2 : q < i
    · rw [if_pos e2, if_pos (by omega)]
    · rw [if_neg e2, if_neg (by omega)]
theorem filI_0 (f : Nat → Int32) (v : Int32) : filI f v 0 = f := by
  funext q
  exact if_neg (Nat.not_lt_zero q)
set_option maxHeartbeats 2000000 in
set_option maxRecDepth 10000 in
theorem lp_fillI {d : Nat} {h : hp} {a n : Nat} (hk : hK h a = (1, n)) (hn : n < 2 ^ 31) (v : Int32) {Q : resP} (hQ : Q none (rI h a (filI (hI h a) v n))) {bc bs : Nat} : ∀ (k i : Nat), i + k = n → ∀ ls : List (Nat × Value), ls.lookup 2 = some (.int (nI i)) → ls.lookup 3 = some (.int (nI n)) → ls.lookup 0 = some (.ref a) → ls.lookup 1 = some (.int v) → Wp (Ex d) 162 Q 5 ls [] (rI h a (filI (hI h a) v i)) bc bs := by
  intro k
  induction k with
  | zero =>
    intro i hi ls l2 l3 l0 l1
    have e : i = n := by omega
    subst e
    refine r_iload_n (q162 (i := 5) rfl) l2 ?_
    refine r_iload_n (q162 (i := 6) rfl) l3 ?_
    refine r_icmp 20 (q162 (i := 7) rfl) (by decide) (fun _ => ?_) (fun c => absurd (show nI i ≤ nI i from Int32.le_refl _) c)
    exact r_vret (q162 (i := 14) rfl) rfl hQ
  | succ k ih =>
    intro i hi ls l2 l3 l0 l1
    refine r_iload_n (q162 (i := 5) rfl) l2 ?_
    refine r_iload_n (q162 (i := 6) rfl) l3 ?_
    refine r_icmp 20 (q162 (i := 7) rfl) (by decide) (fun c => absurd c (show ¬ (nI n ≤ nI i) from nI_ge (by omega) hn)) (fun _ => ?_)
    refine r_aload_n (q162 (i := 8) rfl) l0 ?_
    refine r_iload_n (q162 (i := 9) rfl) l2 ?_
    refine r_iload_n (q162 (i := 10) rfl) l1 ?_
    refine r_iasN (q162 (i := 11) rfl) hk (by omega) hn ?_
    rw [sI_rI, filI_s]
    refine r_iinc (y := nI (i + 1)) (q162 (i := 12) rfl) (Nat.le_of_ble_eq_true rfl) l2 (nI_1 i) rfl ?_
    have l3 := lk1 (k := 2) (v := .int (nI (i + 1))) l3 (by decide) (Or.inr (by decide))
    have l0 := lk1 (k := 2) (v := .int (nI (i + 1))) l0 (by decide) (Or.inr (by decide))
    have l1 := lk1 (k := 2) (v := .int (nI (i + 1))) l1 (by decide) (Or.inl rfl)
    have l2 := lk0 ls 2 (.int (nI (i + 1)))
    generalize lset1 ls 2 (.int (nI (i + 1))) = ls at l2 l3 l0 l1 ⊢
    refine r_goto 5 (q162 (i := 13) rfl) (by decide) ?_
    exact ih (i + 1) (by omega) ls l2 l3 l0 l1
set_option maxHeartbeats 2000000 in
set_option maxRecDepth 10000 in
theorem sp_fillI {d : Nat} {h : hp} {a n : Nat} (hk : hK h a = (1, n)) (hn : n < 2 ^ 31) (v : Int32) : Run (d + 1) 162 [.ref a, .int v] h 0 0 none (rI h a (filI (hI h a) v n)) := by
  refine Run.of (Nat.le_of_ble_eq_true rfl) (fun Q hQ => ?_)
  show Wp (Ex (d)) 162 Q 0 [(0, .ref a), (1, .int v)] [] h 0 0
  refine r_iconst (v := 0) (q162 (i := 0) rfl) (by decide) ?_
  refine r_istore_n (ls' := [(2, .int 0), (0, .ref a), (1, .int v)]) (q162 (i := 1) rfl) (Nat.le_of_ble_eq_true rfl) rfl ?_
  refine r_aload_n (q162 (i := 2) rfl) rfl ?_
  refine r_alen (q162 (i := 3) rfl) hk (by decide) (by decide) ?_
  refine r_istore_n (ls' := [(3, .int (Int32.ofNat n)), (2, .int 0), (0, .ref a), (1, .int v)]) (q162 (i := 4) rfl) (Nat.le_of_ble_eq_true rfl) rfl ?_
  have e : h = rI h a (filI (hI h a) v 0) := by rw [filI_0, rI_self]
  conv => arg 7; rw [e]
  exact lp_fillI hk hn v hQ n 0 (by omega) _ rfl rfl rfl rfl
/-- what a fill has done, i places in -/
def filJ (f : Nat → Int64) (v : Int64) (i : Nat) : Nat → Int64 := fun q => if q < i then v else f q
theorem filJ_s (f : Nat → Int64) (v : Int64) (i : Nat) : u1 (filJ f v i) i v = filJ f v (i + 1) := by
  funext q
  unfold u1 filJ
  by_cases e : q = i
  · rw [if_pos e, if_pos (by omega)]
  · rw [if_neg e]
    by_cases e2 : q < i
    · rw [if_pos e2, if_pos (by omega)]
    · rw [if_neg e2, if_neg (by omega)]
theorem filJ_0 (f : Nat → Int64) (v : Int64) : filJ f v 0 = f := by
  funext q
  exact if_neg (Nat.not_lt_zero q)
set_option maxHeartbeats 2000000 in
set_option maxRecDepth 10000 in
theorem lp_fillJ {d : Nat} {h : hp} {a n : Nat} (hk : hK h a = (2, n)) (hn : n < 2 ^ 31) (v : Int64) {Q : resP} (hQ : Q none (rJ h a (filJ (hJ h a) v n))) {bc bs : Nat} : ∀ (k i : Nat), i + k = n → ∀ ls : List (Nat × Value), ls.lookup 3 = some (.int (nI i)) → ls.lookup 4 = some (.int (nI n)) → ls.lookup 0 = some (.ref a) → ls.lookup 1 = some (.long v) → Wp (Ex d) 161 Q 6 ls [] (rJ h a (filJ (hJ h a) v i)) bc bs := by
  intro k
  induction k with
  | zero =>
    intro i hi ls l3 l4 l0 l1
    have e : i = n := by omega
    subst e
    refine r_iload_n (q161 (i := 5) rfl) l3 ?_
    refine r_iload (q161 (i := 6) rfl) l4 ?_
    refine r_icmp 22 (q161 (i := 7) rfl) (by decide) (fun _ => ?_) (fun c => absurd (show nI i ≤ nI i from Int32.le_refl _) c)
    exact r_vret (q161 (i := 14) rfl) rfl hQ
  | succ k ih =>
    intro i hi ls l3 l4 l0 l1
    refine r_iload_n (q161 (i := 5) rfl) l3 ?_
    refine r_iload (q161 (i := 6) rfl) l4 ?_
    refine r_icmp 22 (q161 (i := 7) rfl) (by decide) (fun c => absurd c (show ¬ (nI n ≤ nI i) from nI_ge (by omega) hn)) (fun _ => ?_)
    refine r_aload_n (q161 (i := 8) rfl) l0 ?_
    refine r_iload_n (q161 (i := 9) rfl) l3 ?_
    refine r_lload_n (q161 (i := 10) rfl) l1 ?_
    refine r_lasN (q161 (i := 11) rfl) hk (by omega) hn ?_
    rw [sJ_rJ, filJ_s]
    refine r_iinc (y := nI (i + 1)) (q161 (i := 12) rfl) (Nat.le_of_ble_eq_true rfl) l3 (nI_1 i) rfl ?_
    have l4 := lk1 (k := 3) (v := .int (nI (i + 1))) l4 (by decide) (Or.inr (by decide))
    have l0 := lk1 (k := 3) (v := .int (nI (i + 1))) l0 (by decide) (Or.inr (by decide))
    have l1 := lk1 (k := 3) (v := .int (nI (i + 1))) l1 (by decide) (Or.inr (by decide))
    have l3 := lk0 ls 3 (.int (nI (i + 1)))
    generalize lset1 ls 3 (.int (nI (i + 1))) = ls at l3 l4 l0 l1 ⊢
    refine r_goto 6 (q161 (i := 13) rfl) (by decide) ?_
    exact ih (i + 1) (by omega) ls l3 l4 l0 l1
set_option maxHeartbeats 2000000 in
set_option maxRecDepth 10000 in
theorem sp_fillJ {d : Nat} {h : hp} {a n : Nat} (hk : hK h a = (2, n)) (hn : n < 2 ^ 31) (v : Int64) : Run (d + 1) 161 [.ref a, .long v] h 0 0 none (rJ h a (filJ (hJ h a) v n)) := by
  refine Run.of (Nat.le_of_ble_eq_true rfl) (fun Q hQ => ?_)
  show Wp (Ex (d)) 161 Q 0 [(0, .ref a), (1, .long v)] [] h 0 0
  refine r_iconst (v := 0) (q161 (i := 0) rfl) (by decide) ?_
  refine r_istore_n (ls' := [(3, .int 0), (0, .ref a), (1, .long v)]) (q161 (i := 1) rfl) (Nat.le_of_ble_eq_true rfl) rfl ?_
  refine r_aload_n (q161 (i := 2) rfl) rfl ?_
  refine r_alen (q161 (i := 3) rfl) hk (by decide) (by decide) ?_
  refine r_istore (ls' := [(4, .int (Int32.ofNat n)), (3, .int 0), (0, .ref a), (1, .long v)]) (q161 (i := 4) rfl) (Nat.le_of_ble_eq_true rfl) rfl ?_
  have e : h = rJ h a (filJ (hJ h a) v 0) := by rw [filJ_0, rJ_self]
  conv => arg 7; rw [e]
  exact lp_fillJ hk hn v hQ n 0 (by omega) _ rfl rfl rfl rfl
end
section
/-! ===== Long.bitCount, Tape, VectorSet ===== -/
def bc1 (x : Int64) : Int64 := x - ((x.toUInt64 >>> ((1 : Int32).toInt64.toUInt64 &&& Int64.toUInt64 63)).toInt64 &&& 6148914691236517205)
def bc2 (x : Int64) : Int64 := (x &&& 3689348814741910323) + ((x.toUInt64 >>> ((2 : Int32).toInt64.toUInt64 &&& Int64.toUInt64 63)).toInt64 &&& 3689348814741910323)
def bc3 (x : Int64) : Int64 := (x + (x.toUInt64 >>> ((4 : Int32).toInt64.toUInt64 &&& Int64.toUInt64 63)).toInt64) &&& 1085102592571150095
def bcs8 (x : Int64) : Int64 := x + (x.toUInt64 >>> ((8 : Int32).toInt64.toUInt64 &&& Int64.toUInt64 63)).toInt64
def bcs16 (x : Int64) : Int64 := x + (x.toUInt64 >>> ((16 : Int32).toInt64.toUInt64 &&& Int64.toUInt64 63)).toInt64
def bcs32 (x : Int64) : Int64 := x + (x.toUInt64 >>> ((32 : Int32).toInt64.toUInt64 &&& Int64.toUInt64 63)).toInt64
def bcnt (x : Int64) : Int32 := (bcs32 (bcs16 (bcs8 (bc3 (bc2 (bc1 x)))))).toInt32 &&& 127
theorem bcnt_pow : ∀ k, k < 64 → bcnt (lN (2 ^ k - 1)) = nI k := by decide +kernel
set_option maxHeartbeats 2000000 in
set_option maxRecDepth 10000 in
theorem sp_bitCount {d : Nat} {h : hp} (x : Int64) : Run (d + 1) 160 [.long x] h 0 0 (some (.int (bcnt x))) h := by
  refine Run.of (Nat.le_of_ble_eq_true rfl) (fun Q hQ => ?_)
  show Wp (Ex (d)) 160 Q 0 [(0, .long x)] [] h 0 0
  refine r_lload_n (q160 (i := 0) rfl) rfl ?_
  refine r_lload_n (q160 (i := 1) rfl) rfl ?_
  refine r_iconst (v := 1) (q160 (i := 2) rfl) (by decide) ?_
  refine r_lushr (q160 (i := 3) rfl) ?_
  refine r_ldc2 (v := 6148914691236517205) (q160 (i := 4) rfl) rfl ?_
  refine r_land (q160 (i := 5) rfl) ?_
  refine r_lsub (q160 (i := 6) rfl) ?_
  rw [show (x - (((x.toUInt64 >>> ((1 : Int32).toInt64.toUInt64 &&& Int64.toUInt64 63)).toInt64) &&& 6148914691236517205) : Int64) = bc1 x from rfl]
  refine r_lstore_n (ls' := [(0, .long (bc1 x))]) (q160 (i := 7) rfl) (Nat.le_of_ble_eq_true rfl) rfl ?_
  refine r_lload_n (q160 (i := 8) rfl) rfl ?_
  refine r_ldc2 (v := 3689348814741910323) (q160 (i := 9) rfl) rfl ?_
  refine r_land (q160 (i := 10) rfl) ?_
  refine r_lload_n (q160 (i := 11) rfl) rfl ?_
  refine r_iconst (v := 2) (q160 (i := 12) rfl) (by decide) ?_
  refine r_lushr (q160 (i := 13) rfl) ?_
  refine r_ldc2 (v := 3689348814741910323) (q160 (i := 14) rfl) rfl ?_
  refine r_land (q160 (i := 15) rfl) ?_
  refine r_ladd (q160 (i := 16) rfl) ?_
  rw [show (((bc1 x) &&& 3689348814741910323) + ((((bc1 x).toUInt64 >>> ((2 : Int32).toInt64.toUInt64 &&& Int64.toUInt64 63)).toInt64) &&& 3689348814741910323) : Int64) = bc2 (bc1 x) from rfl]
  refine r_lstore_n (ls' := [(0, .long (bc2 (bc1 x)))]) (q160 (i := 17) rfl) (Nat.le_of_ble_eq_true rfl) rfl ?_
  refine r_lload_n (q160 (i := 18) rfl) rfl ?_
  refine r_lload_n (q160 (i := 19) rfl) rfl ?_
  refine r_iconst (v := 4) (q160 (i := 20) rfl) (by decide) ?_
  refine r_lushr (q160 (i := 21) rfl) ?_
  refine r_ladd (q160 (i := 22) rfl) ?_
  refine r_ldc2 (v := 1085102592571150095) (q160 (i := 23) rfl) rfl ?_
  refine r_land (q160 (i := 24) rfl) ?_
  rw [show (((bc2 (bc1 x)) + (((bc2 (bc1 x)).toUInt64 >>> ((4 : Int32).toInt64.toUInt64 &&& Int64.toUInt64 63)).toInt64)) &&& 1085102592571150095 : Int64) = bc3 (bc2 (bc1 x)) from rfl]
  refine r_lstore_n (ls' := [(0, .long (bc3 (bc2 (bc1 x))))]) (q160 (i := 25) rfl) (Nat.le_of_ble_eq_true rfl) rfl ?_
  refine r_lload_n (q160 (i := 26) rfl) rfl ?_
  refine r_lload_n (q160 (i := 27) rfl) rfl ?_
  refine r_bipush (v := 8) (q160 (i := 28) rfl) (by decide) ?_
  refine r_lushr (q160 (i := 29) rfl) ?_
  refine r_ladd (q160 (i := 30) rfl) ?_
  rw [show ((bc3 (bc2 (bc1 x))) + (((bc3 (bc2 (bc1 x))).toUInt64 >>> ((8 : Int32).toInt64.toUInt64 &&& Int64.toUInt64 63)).toInt64) : Int64) = bcs8 (bc3 (bc2 (bc1 x))) from rfl]
  refine r_lstore_n (ls' := [(0, .long (bcs8 (bc3 (bc2 (bc1 x)))))]) (q160 (i := 31) rfl) (Nat.le_of_ble_eq_true rfl) rfl ?_
  refine r_lload_n (q160 (i := 32) rfl) rfl ?_
  refine r_lload_n (q160 (i := 33) rfl) rfl ?_
  refine r_bipush (v := 16) (q160 (i := 34) rfl) (by decide) ?_
  refine r_lushr (q160 (i := 35) rfl) ?_
  refine r_ladd (q160 (i := 36) rfl) ?_
  rw [show ((bcs8 (bc3 (bc2 (bc1 x)))) + (((bcs8 (bc3 (bc2 (bc1 x)))).toUInt64 >>> ((16 : Int32).toInt64.toUInt64 &&& Int64.toUInt64 63)).toInt64) : Int64) = bcs16 (bcs8 (bc3 (bc2 (bc1 x)))) from rfl]
  refine r_lstore_n (ls' := [(0, .long (bcs16 (bcs8 (bc3 (bc2 (bc1 x))))))]) (q160 (i := 37) rfl) (Nat.le_of_ble_eq_true rfl) rfl ?_
  refine r_lload_n (q160 (i := 38) rfl) rfl ?_
  refine r_lload_n (q160 (i := 39) rfl) rfl ?_
  refine r_bipush (v := 32) (q160 (i := 40) rfl) (by decide) ?_
  refine r_lushr (q160 (i := 41) rfl) ?_
  refine r_ladd (q160 (i := 42) rfl) ?_
  rw [show ((bcs16 (bcs8 (bc3 (bc2 (bc1 x))))) + (((bcs16 (bcs8 (bc3 (bc2 (bc1 x))))).toUInt64 >>> ((32 : Int32).toInt64.toUInt64 &&& Int64.toUInt64 63)).toInt64) : Int64) = bcs32 (bcs16 (bcs8 (bc3 (bc2 (bc1 x))))) from rfl]
  refine r_lstore_n (ls' := [(0, .long (bcs32 (bcs16 (bcs8 (bc3 (bc2 (bc1 x)))))))]) (q160 (i := 43) rfl) (Nat.le_of_ble_eq_true rfl) rfl ?_
  refine r_lload_n (q160 (i := 44) rfl) rfl ?_
  refine r_l2i (q160 (i := 45) rfl) ?_
  refine r_bipush (v := 127) (q160 (i := 46) rfl) (by decide) ?_
  refine r_iand (q160 (i := 47) rfl) ?_
  exact r_iret (q160 (i := 48) rfl) rfl hQ
/-- the byte of v that begins at bit k -/
def byt (v k : Int32) : Int32 := (v >>> (k &&& 31)).toInt8.toInt32
theorem byt_nar (v k : Int32) : vp_nar .byte (byt v k) = byt v k := pk_vb _
/-- four bytes of v more, at cell a, and the count behind them at place k of the cell o -/
def put4 (h : hp) (a o k z : Nat) (v : Int32) : hp := sI (sI (sI (sI (sI (sI (sI (sI h a z (byt v 24)) o k (nI (z + 1))) a (z + 1) (byt v 16)) o k (nI (z + 2))) a (z + 2) (byt v 8)) o k (nI (z + 3))) a (z + 3) (byt v 0)) o k (nI (z + 4))
set_option maxHeartbeats 2000000 in
set_option maxRecDepth 10000 in
theorem sp_append {d : Nat} {h : hp} (S : Sh h) {z : Nat} (hz : hI h 33 1 = nI z) (hz1 : z + 4 ≤ 3000) (v : Int32) : Run (d + 1) 67 [.ref 33, .int v] h 0 0 none (put4 h 34 33 1 z v) := by
  refine Run.of (Nat.le_of_ble_eq_true rfl) (fun Q hQ => ?_)
  show Wp (Ex (d)) 67 Q 0 [(0, .ref 33), (1, .int v)] [] h 0 0
  refine r_bipush (v := 24) (q67 (i := 0) rfl) (by decide) ?_
  refine r_istore_n (ls' := [(2, .int 24), (0, .ref 33), (1, .int v)]) (q67 (i := 1) rfl) (Nat.le_of_ble_eq_true rfl) rfl ?_
  refine r_iload_n (q67 (i := 2) rfl) rfl ?_
  refine r_if 46 (q67 (i := 3) rfl) (by decide) (fun c => absurd c (show ¬ ((24 : Int32) < 0) from by decide)) (fun _ => ?_)
  refine r_aload_n (q67 (i := 4) rfl) rfl ?_
  refine r_getI (x := nI z) (q67 (i := 5) rfl) rfl (by decide) (k_33 S) (fun _ _ _ => rfl) hz ?_
  refine r_sipush (v := 3000) (q67 (i := 6) rfl) (by decide) ?_
  refine r_icmp 46 (q67 (i := 7) rfl) (by decide) (fun c => absurd c (show ¬ (3000 ≤ nI z) from nI_ge (b := 3000) (a := z) (by omega) (by decide))) (fun _ => ?_)
  refine r_aload_n (q67 (i := 8) rfl) rfl ?_
  refine r_getR (b := 34) (q67 (i := 9) rfl) rfl (by decide) (k_33 S) (fun _ _ _ => rfl) (r_33_0 S) ?_
  refine r_aload_n (q67 (i := 10) rfl) rfl ?_
  refine r_getI (x := nI z) (q67 (i := 11) rfl) rfl (by decide) (k_33 S) (fun _ _ _ => rfl) hz ?_
  refine r_iload_n (q67 (i := 12) rfl) rfl ?_
  refine r_iload_n (q67 (i := 13) rfl) rfl ?_
  refine r_ishr (q67 (i := 14) rfl) ?_
  refine r_i2b (q67 (i := 15) rfl) ?_
  rw [show ((v >>> (24 &&& 31)).toInt8.toInt32 : Int32) = byt v 24 from rfl]
  refine r_basN (y := byt v 24) (q67 (i := 16) rfl) (k_34 S) (by omega) (by decide) (byt_nar v 24) ?_
  refine r_aload_n (q67 (i := 17) rfl) rfl ?_
  refine r_dup (q67 (i := 18) rfl) rfl ?_
  refine r_getI (x := nI z) (q67 (i := 19) rfl) rfl (by decide) (k_33 S) (fun _ _ _ => rfl) hz ?_
  refine r_iconst (v := 1) (q67 (i := 20) rfl) (by decide) ?_
  refine r_iadd (q67 (i := 21) rfl) ?_
  rw [show ((nI z) + 1 : Int32) = nI (z + 1) from nI_1 (z)]
  refine r_putI (q67 (i := 22) rfl) rfl (by decide) (k_33 S) rfl rfl ?_
  refine r_iinc (y := 16) (ls' := [(2, .int 16), (0, .ref 33), (1, .int v)]) (q67 (i := 23) rfl) (Nat.le_of_ble_eq_true rfl) rfl (by decide) rfl ?_
  refine r_goto 3 (q67 (i := 24) rfl) (by decide) ?_
  refine r_iload_n (q67 (i := 2) rfl) rfl ?_
  refine r_if 46 (q67 (i := 3) rfl) (by decide) (fun c => absurd c (show ¬ ((16 : Int32) < 0) from by decide)) (fun _ => ?_)
  refine r_aload_n (q67 (i := 4) rfl) rfl ?_
  refine r_getI (x := nI (z + 1)) (q67 (i := 5) rfl) rfl (by decide) (k_33 S) (fun _ _ _ => rfl) rfl ?_
  refine r_sipush (v := 3000) (q67 (i := 6) rfl) (by decide) ?_
  refine r_icmp 46 (q67 (i := 7) rfl) (by decide) (fun c => absurd c (show ¬ (3000 ≤ nI (z + 1)) from nI_ge (b := 3000) (a := z + 1) (by omega) (by decide))) (fun _ => ?_)
  refine r_aload_n (q67 (i := 8) rfl) rfl ?_
  refine r_getR (b := 34) (q67 (i := 9) rfl) rfl (by decide) (k_33 S) (fun _ _ _ => rfl) (r_33_0 S) ?_
  refine r_aload_n (q67 (i := 10) rfl) rfl ?_
  refine r_getI (x := nI (z + 1)) (q67 (i := 11) rfl) rfl (by decide) (k_33 S) (fun _ _ _ => rfl) rfl ?_
  refine r_iload_n (q67 (i := 12) rfl) rfl ?_
  refine r_iload_n (q67 (i := 13) rfl) rfl ?_
  refine r_ishr (q67 (i := 14) rfl) ?_
  refine r_i2b (q67 (i := 15) rfl) ?_
  rw [show ((v >>> (16 &&& 31)).toInt8.toInt32 : Int32) = byt v 16 from rfl]
  refine r_basN (y := byt v 16) (q67 (i := 16) rfl) (k_34 S) (by omega) (by decide) (byt_nar v 16) ?_
  refine r_aload_n (q67 (i := 17) rfl) rfl ?_
  refine r_dup (q67 (i := 18) rfl) rfl ?_
  refine r_getI (x := nI (z + 1)) (q67 (i := 19) rfl) rfl (by decide) (k_33 S) (fun _ _ _ => rfl) rfl ?_
  refine r_iconst (v := 1) (q67 (i := 20) rfl) (by decide) ?_
  refine r_iadd (q67 (i := 21) rfl) ?_
  rw [show ((nI (z + 1)) + 1 : Int32) = nI (z + 2) from nI_1 (z + 1)]
  refine r_putI (q67 (i := 22) rfl) rfl (by decide) (k_33 S) rfl rfl ?_
  refine r_iinc (y := 8) (ls' := [(2, .int 8), (0, .ref 33), (1, .int v)]) (q67 (i := 23) rfl) (Nat.le_of_ble_eq_true rfl) rfl (by decide) rfl ?_
  refine r_goto 3 (q67 (i := 24) rfl) (by decide) ?_
  refine r_iload_n (q67 (i := 2) rfl) rfl ?_
  refine r_if 46 (q67 (i := 3) rfl) (by decide) (fun c => absurd c (show ¬ ((8 : Int32) < 0) from by decide)) (fun _ => ?_)
  refine r_aload_n (q67 (i := 4) rfl) rfl ?_
  refine r_getI (x := nI (z + 2)) (q67 (i := 5) rfl) rfl (by decide) (k_33 S) (fun _ _ _ => rfl) rfl ?_
  refine r_sipush (v := 3000) (q67 (i := 6) rfl) (by decide) ?_
  refine r_icmp 46 (q67 (i := 7) rfl) (by decide) (fun c => absurd c (show ¬ (3000 ≤ nI (z + 2)) from nI_ge (b := 3000) (a := z + 2) (by omega) (by decide))) (fun _ => ?_)
  refine r_aload_n (q67 (i := 8) rfl) rfl ?_
  refine r_getR (b := 34) (q67 (i := 9) rfl) rfl (by decide) (k_33 S) (fun _ _ _ => rfl) (r_33_0 S) ?_
  refine r_aload_n (q67 (i := 10) rfl) rfl ?_
  refine r_getI (x := nI (z + 2)) (q67 (i := 11) rfl) rfl (by decide) (k_33 S) (fun _ _ _ => rfl) rfl ?_
  refine r_iload_n (q67 (i := 12) rfl) rfl ?_
  refine r_iload_n (q67 (i := 13) rfl) rfl ?_
  refine r_ishr (q67 (i := 14) rfl) ?_
  refine r_i2b (q67 (i := 15) rfl) ?_
  rw [show ((v >>> (8 &&& 31)).toInt8.toInt32 : Int32) = byt v 8 from rfl]
  refine r_basN (y := byt v 8) (q67 (i := 16) rfl) (k_34 S) (by omega) (by decide) (byt_nar v 8) ?_
  refine r_aload_n (q67 (i := 17) rfl) rfl ?_
  refine r_dup (q67 (i := 18) rfl) rfl ?_
  refine r_getI (x := nI (z + 2)) (q67 (i := 19) rfl) rfl (by decide) (k_33 S) (fun _ _ _ => rfl) rfl ?_
  refine r_iconst (v := 1) (q67 (i := 20) rfl) (by decide) ?_
  refine r_iadd (q67 (i := 21) rfl) ?_
  rw [show ((nI (z + 2)) + 1 : Int32) = nI (z + 3) from nI_1 (z + 2)]
  refine r_putI (q67 (i := 22) rfl) rfl (by decide) (k_33 S) rfl rfl ?_
  refine r_iinc (y := 0) (ls' := [(2, .int 0), (0, .ref 33), (1, .int v)]) (q67 (i := 23) rfl) (Nat.le_of_ble_eq_true rfl) rfl (by decide) rfl ?_
  refine r_goto 3 (q67 (i := 24) rfl) (by decide) ?_
  refine r_iload_n (q67 (i := 2) rfl) rfl ?_
  refine r_if 46 (q67 (i := 3) rfl) (by decide) (fun c => absurd c (show ¬ ((0 : Int32) < 0) from by decide)) (fun _ => ?_)
  refine r_aload_n (q67 (i := 4) rfl) rfl ?_
  refine r_getI (x := nI (z + 3)) (q67 (i := 5) rfl) rfl (by decide) (k_33 S) (fun _ _ _ => rfl) rfl ?_
  refine r_sipush (v := 3000) (q67 (i := 6) rfl) (by decide) ?_
  refine r_icmp 46 (q67 (i := 7) rfl) (by decide) (fun c => absurd c (show ¬ (3000 ≤ nI (z + 3)) from nI_ge (b := 3000) (a := z + 3) (by omega) (by decide))) (fun _ => ?_)
  refine r_aload_n (q67 (i := 8) rfl) rfl ?_
  refine r_getR (b := 34) (q67 (i := 9) rfl) rfl (by decide) (k_33 S) (fun _ _ _ => rfl) (r_33_0 S) ?_
  refine r_aload_n (q67 (i := 10) rfl) rfl ?_
  refine r_getI (x := nI (z + 3)) (q67 (i := 11) rfl) rfl (by decide) (k_33 S) (fun _ _ _ => rfl) rfl ?_
  refine r_iload_n (q67 (i := 12) rfl) rfl ?_
  refine r_iload_n (q67 (i := 13) rfl) rfl ?_
  refine r_ishr (q67 (i := 14) rfl) ?_
  refine r_i2b (q67 (i := 15) rfl) ?_
  rw [show ((v >>> (0 &&& 31)).toInt8.toInt32 : Int32) = byt v 0 from rfl]
  refine r_basN (y := byt v 0) (q67 (i := 16) rfl) (k_34 S) (by omega) (by decide) (byt_nar v 0) ?_
  refine r_aload_n (q67 (i := 17) rfl) rfl ?_
  refine r_dup (q67 (i := 18) rfl) rfl ?_
  refine r_getI (x := nI (z + 3)) (q67 (i := 19) rfl) rfl (by decide) (k_33 S) (fun _ _ _ => rfl) rfl ?_
  refine r_iconst (v := 1) (q67 (i := 20) rfl) (by decide) ?_
  refine r_iadd (q67 (i := 21) rfl) ?_
  rw [show ((nI (z + 3)) + 1 : Int32) = nI (z + 4) from nI_1 (z + 3)]
  refine r_putI (q67 (i := 22) rfl) rfl (by decide) (k_33 S) rfl rfl ?_
  refine r_iinc (y := (-8)) (ls' := [(2, .int (-8)), (0, .ref 33), (1, .int v)]) (q67 (i := 23) rfl) (Nat.le_of_ble_eq_true rfl) rfl (by decide) rfl ?_
  refine r_goto 3 (q67 (i := 24) rfl) (by decide) ?_
  refine r_iload_n (q67 (i := 2) rfl) rfl ?_
  refine r_if 46 (q67 (i := 3) rfl) (by decide) (fun _ => ?_) (fun c => absurd (show (-8 : Int32) < 0 from by decide) c)
  exact r_vret (q67 (i := 25) rfl) rfl hQ
/-- the byte at a place, or -1 behind the end -/
def byAt (f : Nat → Int32) (n : Nat) (a : Int32) : Int32 := if a < 0 then -1 else if nI n ≤ a then -1 else f a.toNatClampNeg &&& 255
set_option maxHeartbeats 2000000 in
set_option maxRecDepth 10000 in
theorem sp_byteAt {d : Nat} {h : hp} (S : Sh h) {z : Nat} (hz : hI h 33 1 = nI z) (hz1 : z ≤ 3000) (a : Int32) : Run (d + 1) 68 [.ref 33, .int a] h 0 0 (some (.int (byAt (hI h 34) z a))) h := by
  refine Run.of (Nat.le_of_ble_eq_true rfl) (fun Q hQ => ?_)
  show Wp (Ex (d)) 68 Q 0 [(0, .ref 33), (1, .int a)] [] h 0 0
  refine r_iload_n (q68 (i := 0) rfl) rfl ?_
  refine r_if 25 (q68 (i := 1) rfl) (by decide) (fun c1 => ?_) (fun c1 => ?_)
  · have c1 : a < 0 := c1
    refine r_iconst (v := (-1)) (q68 (i := 13) rfl) (by decide) ?_
    exact r_iret (q68 (i := 14) rfl) rfl (by unfold byAt at hQ; simp_all)
  · have c1 : ¬ (a < 0) := c1
    refine r_iload_n (q68 (i := 2) rfl) rfl ?_
    refine r_aload_n (q68 (i := 3) rfl) rfl ?_
    refine r_getI (x := nI z) (q68 (i := 4) rfl) rfl (by decide) (k_33 S) (fun _ _ _ => rfl) hz ?_
    refine r_icmp 25 (q68 (i := 5) rfl) (by decide) (fun c2 => ?_) (fun c2 => ?_)
    · have c2 : nI z ≤ a := c2
      refine r_iconst (v := (-1)) (q68 (i := 13) rfl) (by decide) ?_
      exact r_iret (q68 (i := 14) rfl) rfl (by unfold byAt at hQ; simp_all)
    · have c2 : ¬ (nI z ≤ a) := c2
      refine r_aload_n (q68 (i := 6) rfl) rfl ?_
      refine r_getR (b := 34) (q68 (i := 7) rfl) rfl (by decide) (k_33 S) (fun _ _ _ => rfl) (r_33_0 S) ?_
      refine r_iload_n (q68 (i := 8) rfl) rfl ?_
      refine r_baload (x := hI h 34 a.toNatClampNeg) (q68 (i := 9) rfl) (k_34 S) (by rcases pk_ix a (n := z) (by omega) with q | q | ⟨k, hk, rfl⟩; exact absurd q c1; exact absurd q c2; exact vp_in_nI (by omega) (by decide)) rfl ?_
      refine r_sipush (v := 255) (q68 (i := 10) rfl) (by decide) ?_
      refine r_iand (q68 (i := 11) rfl) ?_
      refine r_goto 26 (q68 (i := 12) rfl) (by decide) ?_
      exact r_iret (q68 (i := 14) rfl) rfl (by unfold byAt at hQ; simp_all)
def isDig (x : Int32) : Int32 := if x < 48 then 0 else if 57 < x then 0 else 1
set_option maxHeartbeats 2000000 in
set_option maxRecDepth 10000 in
theorem sp_hasDigitAt {d : Nat} {h : hp} (S : Sh h) {z : Nat} (hz : hI h 33 1 = nI z) (hz1 : z ≤ 3000) (a : Int32) : Run (d + 1 + 1) 69 [.ref 33, .int a] h 0 0 (some (.int (isDig (byAt (hI h 34) z a)))) h := by
  refine Run.of (Nat.le_of_ble_eq_true rfl) (fun Q hQ => ?_)
  show Wp (Ex (d + 1)) 69 Q 0 [(0, .ref 33), (1, .int a)] [] h 0 0
  refine r_aload_n (q69 (i := 0) rfl) rfl ?_
  refine r_iload_n (q69 (i := 1) rfl) rfl ?_
  refine r_cV (d := _) (q69 (i := 2) rfl) rfl rfl rfl (k_33 S) (Nat.le_of_ble_eq_true rfl) (Nat.zero_le _) (Nat.zero_le _) (sp_byteAt S hz hz1 a) ?_
  show Wp _ _ _ 5 [(0, .ref 33), (1, .int a)] [.int (byAt (hI h 34) z a)] h _ _
  refine r_istore_n (ls' := [(2, .int (byAt (hI h 34) z a)), (0, .ref 33), (1, .int a)]) (q69 (i := 3) rfl) (Nat.le_of_ble_eq_true rfl) rfl ?_
  refine r_iload_n (q69 (i := 4) rfl) rfl ?_
  refine r_bipush (v := 48) (q69 (i := 5) rfl) (by decide) ?_
  refine r_icmp 22 (q69 (i := 6) rfl) (by decide) (fun c1 => ?_) (fun c1 => ?_)
  · have c1 : byAt (hI h 34) z a < 48 := c1
    refine r_iconst (v := 0) (q69 (i := 12) rfl) (by decide) ?_
    exact r_zret (q69 (i := 13) rfl) rfl (by decide) (by unfold isDig at hQ; simp_all)
  · have c1 : ¬ (byAt (hI h 34) z a < 48) := c1
    refine r_iload_n (q69 (i := 7) rfl) rfl ?_
    refine r_bipush (v := 57) (q69 (i := 8) rfl) (by decide) ?_
    refine r_icmp 22 (q69 (i := 9) rfl) (by decide) (fun c2 => ?_) (fun c2 => ?_)
    · have c2 : 57 < byAt (hI h 34) z a := c2
      refine r_iconst (v := 0) (q69 (i := 12) rfl) (by decide) ?_
      exact r_zret (q69 (i := 13) rfl) rfl (by decide) (by unfold isDig at hQ; simp_all)
    · have c2 : ¬ (57 < byAt (hI h 34) z a) := c2
      refine r_iconst (v := 1) (q69 (i := 10) rfl) (by decide) ?_
      refine r_goto 23 (q69 (i := 11) rfl) (by decide) ?_
      exact r_zret (q69 (i := 13) rfl) rfl (by decide) (by unfold isDig at hQ; simp_all)
/-- a SIGN as bits: is word w there -/
def inV (V : Nat → Int64) (w : Nat) : Bool := b64 (V (w / 64)) (w % 64)
set_option maxHeartbeats 2000000 in
set_option maxRecDepth 10000 in
theorem sp_empty {d : Nat} {h : hp} (S : Sh h) : Run (d + 1 + 1) 71 [.ref 17] h 0 0 none (sI (sI (rJ h 19 (filJ (hJ h 19) 0 64)) 17 3 0) 17 4 0) := by
  refine Run.of (Nat.le_of_ble_eq_true rfl) (fun Q hQ => ?_)
  show Wp (Ex (d + 1)) 71 Q 0 [(0, .ref 17)] [] h 0 0
  refine r_aload_n (q71 (i := 0) rfl) rfl ?_
  refine r_getR (b := 19) (q71 (i := 1) rfl) rfl (by decide) (k_17 S) (fun _ _ _ => rfl) (r_17_1 S) ?_
  refine r_lconst (v := 0) (q71 (i := 2) rfl) (by decide) ?_
  refine r_cS (d := _) (q71 (i := 3) rfl) rfl (Nat.le_of_ble_eq_true rfl) rfl rfl (Nat.le_of_ble_eq_true rfl) (Nat.zero_le _) (Nat.zero_le _) (sp_fillJ (k_19 S) (by decide) 0) ?_
  show Wp _ _ _ 8 [(0, .ref 17)] [] (rJ h 19 (filJ (hJ h 19) 0 64)) _ _
  refine r_aload_n (q71 (i := 4) rfl) rfl ?_
  refine r_iconst (v := 0) (q71 (i := 5) rfl) (by decide) ?_
  refine r_putI (q71 (i := 6) rfl) rfl (by decide) (k_17 S) rfl rfl ?_
  refine r_aload_n (q71 (i := 7) rfl) rfl ?_
  refine r_iconst (v := 0) (q71 (i := 8) rfl) (by decide) ?_
  refine r_putI (q71 (i := 9) rfl) rfl (by decide) (k_17 S) rfl rfl ?_
  exact r_vret (q71 (i := 10) rfl) rfl hQ
set_option maxHeartbeats 2000000 in
set_option maxRecDepth 10000 in
theorem sp_has {d : Nat} {h : hp} (S : Sh h) {w : Nat} (hw : w < 4096) : Run (d + 1) 72 [.ref 17, .int (nI w)] h 0 0 (some (.int (if inV (hJ h 19) w then 1 else 0))) h := by
  refine Run.of (Nat.le_of_ble_eq_true rfl) (fun Q hQ => ?_)
  show Wp (Ex (d)) 72 Q 0 [(0, .ref 17), (1, .int (nI w))] [] h 0 0
  refine r_iload_n (q72 (i := 0) rfl) rfl ?_
  refine r_if 11 (q72 (i := 1) rfl) (by decide) (fun c => absurd c (show ¬ (nI w < 0) from nI_pos (by omega))) (fun _ => ?_)
  refine r_iload_n (q72 (i := 2) rfl) rfl ?_
  refine r_sipush (v := 4096) (q72 (i := 3) rfl) (by decide) ?_
  refine r_icmp 13 (q72 (i := 4) rfl) (by decide) (fun _ => ?_) (fun c => absurd (show nI w < 4096 from nI_lt (b := 4096) hw (by decide)) c)
  refine r_aload_n (q72 (i := 7) rfl) rfl ?_
  refine r_getR (b := 19) (q72 (i := 8) rfl) rfl (by decide) (k_17 S) (fun _ _ _ => rfl) (r_17_1 S) ?_
  refine r_iload_n (q72 (i := 9) rfl) rfl ?_
  refine r_bipush (v := 6) (q72 (i := 10) rfl) (by decide) ?_
  refine r_ishr (q72 (i := 11) rfl) ?_
  rw [show ((nI w) >>> (6 &&& 31) : Int32) = nI (w / 64) from shr6 (by omega)]
  refine r_laN (x := hJ h 19 (w / 64)) (q72 (i := 12) rfl) (k_19 S) (by omega) (by decide) rfl ?_
  refine r_iload_n (q72 (i := 13) rfl) rfl ?_
  refine r_bipush (v := 63) (q72 (i := 14) rfl) (by decide) ?_
  refine r_iand (q72 (i := 15) rfl) ?_
  rw [show ((nI w) &&& 63 : Int32) = nI (w % 64) from and63 (by omega)]
  refine r_lushr (q72 (i := 16) rfl) ?_
  refine r_lconst (v := 1) (q72 (i := 17) rfl) (by decide) ?_
  refine r_land (q72 (i := 18) rfl) ?_
  rw [show ((((hJ h 19 (w / 64)).toUInt64 >>> ((nI (w % 64)).toInt64.toUInt64 &&& Int64.toUInt64 63)).toInt64) &&& 1 : Int64) = if inV (hJ h 19) w then 1 else 0 from b64_ubit _ (by omega)]
  refine r_lconst (v := 0) (q72 (i := 19) rfl) (by decide) ?_
  refine r_lcmp (q72 (i := 20) rfl) ?_
  refine r_if 38 (q72 (i := 21) rfl) (by decide) (fun c => ?_) (fun c => ?_)
  · have c : lg_cmp (if inV (hJ h 19) w then 1 else 0) 0 = 0 := c
    have hb : ¬ inV (hJ h 19) w = true := fun q => by rw [cmp0, if_pos q] at c; exact absurd c (by decide)
    refine r_iconst (v := 0) (q72 (i := 24) rfl) (by decide) ?_
    exact r_zret (q72 (i := 25) rfl) rfl (by decide) (by first | (rw [if_pos hb] at hQ; exact hQ) | (rw [if_neg hb] at hQ; exact hQ))
  · have c : ¬ (lg_cmp (if inV (hJ h 19) w then 1 else 0) 0 = 0) := c
    have hb : inV (hJ h 19) w = true := Classical.not_not.mp (fun q => c (by rw [if_neg q]; rfl))
    refine r_iconst (v := 1) (q72 (i := 22) rfl) (by decide) ?_
    refine r_goto 39 (q72 (i := 23) rfl) (by decide) ?_
    exact r_zret (q72 (i := 25) rfl) rfl (by decide) (by first | (rw [if_pos hb] at hQ; exact hQ) | (rw [if_neg hb] at hQ; exact hQ))
/-- a VECTOR more: its bit, its place; the word's first bit notes the word -/
def addV (h : hp) (w u z : Nat) : hp := sI (sI (sJ (if hJ h 19 (w / 64) = 0 then sI (sI h 20 u (nI (w / 64))) 17 3 (nI (u + 1)) else h) 19 (w / 64) (hJ h 19 (w / 64) ||| 1 <<< ((nI (w % 64)).toInt64 &&& 63))) 18 z (nI w)) 17 4 (nI (z + 1))
set_option maxHeartbeats 2000000 in
set_option maxRecDepth 10000 in
theorem sp_add {d : Nat} {h : hp} (S : Sh h) {w u z : Nat} (hw : w < 4096) (hz : hI h 17 4 = nI z) (hz1 : z < 4096) (hu : hI h 17 3 = nI u) (hu1 : hJ h 19 (w / 64) = 0 → u < 64) (hv : inV (hJ h 19) w = false) : Run (d + 1 + 1) 73 [.ref 17, .int (nI w)] h 0 0 none (addV h w u z) := by
  refine Run.of (Nat.le_of_ble_eq_true rfl) (fun Q hQ => ?_)
  show Wp (Ex (d + 1)) 73 Q 0 [(0, .ref 17), (1, .int (nI w))] [] h 0 0
  refine r_iload_n (q73 (i := 0) rfl) rfl ?_
  refine r_if 29 (q73 (i := 1) rfl) (by decide) (fun c => absurd c (show ¬ (nI w < 0) from nI_pos (by omega))) (fun _ => ?_)
  refine r_iload_n (q73 (i := 2) rfl) rfl ?_
  refine r_sipush (v := 4096) (q73 (i := 3) rfl) (by decide) ?_
  refine r_icmp 29 (q73 (i := 4) rfl) (by decide) (fun c => absurd c (show ¬ (4096 ≤ nI w) from nI_ge (b := 4096) hw (by decide))) (fun _ => ?_)
  refine r_aload_n (q73 (i := 5) rfl) rfl ?_
  refine r_getI (x := nI z) (q73 (i := 6) rfl) rfl (by decide) (k_17 S) (fun _ _ _ => rfl) hz ?_
  refine r_sipush (v := 4096) (q73 (i := 7) rfl) (by decide) ?_
  refine r_icmp 29 (q73 (i := 8) rfl) (by decide) (fun c => absurd c (show ¬ (4096 ≤ nI z) from nI_ge (b := 4096) hz1 (by decide))) (fun _ => ?_)
  refine r_aload_n (q73 (i := 9) rfl) rfl ?_
  refine r_iload_n (q73 (i := 10) rfl) rfl ?_
  refine r_cV (d := _) (q73 (i := 11) rfl) rfl rfl rfl (k_17 S) (Nat.le_of_ble_eq_true rfl) (Nat.zero_le _) (Nat.zero_le _) (sp_has S hw) ?_
  show Wp _ _ _ 26 [(0, .ref 17), (1, .int (nI w))] [.int (if inV (hJ h 19) w then 1 else 0)] h _ _
  rw [if_neg (by rw [hv]; decide)]
  refine r_if 30 (q73 (i := 12) rfl) (by decide) (fun _ => ?_) (fun c => absurd (show (0 : Int32) = 0 from by decide) c)
  refine r_iload_n (q73 (i := 14) rfl) rfl ?_
  refine r_bipush (v := 6) (q73 (i := 15) rfl) (by decide) ?_
  refine r_ishr (q73 (i := 16) rfl) ?_
  rw [show ((nI w) >>> (6 &&& 31) : Int32) = nI (w / 64) from shr6 (by omega)]
  refine r_istore_n (ls' := [(2, .int (nI (w / 64))), (0, .ref 17), (1, .int (nI w))]) (q73 (i := 17) rfl) (Nat.le_of_ble_eq_true rfl) rfl ?_
  refine r_aload_n (q73 (i := 18) rfl) rfl ?_
  refine r_getR (b := 19) (q73 (i := 19) rfl) rfl (by decide) (k_17 S) (fun _ _ _ => rfl) (r_17_1 S) ?_
  refine r_iload_n (q73 (i := 20) rfl) rfl ?_
  refine r_laN (x := hJ h 19 (w / 64)) (q73 (i := 21) rfl) (k_19 S) (by omega) (by decide) rfl ?_
  refine r_lconst (v := 0) (q73 (i := 22) rfl) (by decide) ?_
  refine r_lcmp (q73 (i := 23) rfl) ?_
  refine r_if 66 (q73 (i := 24) rfl) (by decide) (fun c => ?_) (fun c => ?_)
  · have c : ¬ lg_cmp (hJ h 19 (w / 64)) 0 = 0 := c
    have c : ¬ hJ h 19 (w / 64) = 0 := fun q => c (by rw [q]; rfl)
    refine r_aload_n (q73 (i := 37) rfl) rfl ?_
    refine r_getR (b := 19) (q73 (i := 38) rfl) rfl (by decide) (k_17 S) (fun _ _ _ => rfl) (r_17_1 S) ?_
    refine r_iload_n (q73 (i := 39) rfl) rfl ?_
    refine r_dup2 (q73 (i := 40) rfl) rfl rfl ?_
    refine r_laN (x := hJ h 19 (w / 64)) (q73 (i := 41) rfl) (k_19 S) (by omega) (by decide) rfl ?_
    refine r_lconst (v := 1) (q73 (i := 42) rfl) (by decide) ?_
    refine r_iload_n (q73 (i := 43) rfl) rfl ?_
    refine r_bipush (v := 63) (q73 (i := 44) rfl) (by decide) ?_
    refine r_iand (q73 (i := 45) rfl) ?_
    rw [show ((nI w) &&& 63 : Int32) = nI (w % 64) from and63 (by omega)]
    refine r_lshl (q73 (i := 46) rfl) ?_
    refine r_lor (q73 (i := 47) rfl) ?_
    refine r_lasN (q73 (i := 48) rfl) (k_19 S) (by omega) (by decide) ?_
    refine r_aload_n (q73 (i := 49) rfl) rfl ?_
    refine r_getR (b := 18) (q73 (i := 50) rfl) rfl (by decide) (k_17 S) (fun _ _ _ => rfl) (r_17_0 S) ?_
    refine r_aload_n (q73 (i := 51) rfl) rfl ?_
    refine r_getI (x := nI z) (q73 (i := 52) rfl) rfl (by decide) (k_17 S) (fun _ _ _ => rfl) hz ?_
    refine r_iload_n (q73 (i := 53) rfl) rfl ?_
    refine r_iasN (q73 (i := 54) rfl) (k_18 S) hz1 (by decide) ?_
    refine r_aload_n (q73 (i := 55) rfl) rfl ?_
    refine r_dup (q73 (i := 56) rfl) rfl ?_
    refine r_getI (x := nI z) (q73 (i := 57) rfl) rfl (by decide) (k_17 S) (fun _ _ _ => rfl) hz ?_
    refine r_iconst (v := 1) (q73 (i := 58) rfl) (by decide) ?_
    refine r_iadd (q73 (i := 59) rfl) ?_
    rw [show ((nI z) + 1 : Int32) = nI (z + 1) from nI_1 z]
    refine r_putI (q73 (i := 60) rfl) rfl (by decide) (k_17 S) rfl rfl ?_
    exact r_vret (q73 (i := 61) rfl) rfl (by unfold addV at hQ; first | (rw [if_pos c] at hQ; exact hQ) | (rw [if_neg c] at hQ; exact hQ))
  · have c : ¬ (¬ lg_cmp (hJ h 19 (w / 64)) 0 = 0) := c
    have c : hJ h 19 (w / 64) = 0 := (cmp0 _ _).mp (Classical.not_not.mp c)
    have hu2 := hu1 c
    refine r_aload_n (q73 (i := 25) rfl) rfl ?_
    refine r_getR (b := 20) (q73 (i := 26) rfl) rfl (by decide) (k_17 S) (fun _ _ _ => rfl) (r_17_2 S) ?_
    refine r_aload_n (q73 (i := 27) rfl) rfl ?_
    refine r_getI (x := nI u) (q73 (i := 28) rfl) rfl (by decide) (k_17 S) (fun _ _ _ => rfl) hu ?_
    refine r_iload_n (q73 (i := 29) rfl) rfl ?_
    refine r_iasN (q73 (i := 30) rfl) (k_20 S) hu2 (by decide) ?_
    refine r_aload_n (q73 (i := 31) rfl) rfl ?_
    refine r_dup (q73 (i := 32) rfl) rfl ?_
    refine r_getI (x := nI u) (q73 (i := 33) rfl) rfl (by decide) (k_17 S) (fun _ _ _ => rfl) hu ?_
    refine r_iconst (v := 1) (q73 (i := 34) rfl) (by decide) ?_
    refine r_iadd (q73 (i := 35) rfl) ?_
    rw [show ((nI u) + 1 : Int32) = nI (u + 1) from nI_1 u]
    refine r_putI (q73 (i := 36) rfl) rfl (by decide) (k_17 S) rfl rfl ?_
    refine r_aload_n (q73 (i := 37) rfl) rfl ?_
    refine r_getR (b := 19) (q73 (i := 38) rfl) rfl (by decide) (k_17 S) (fun _ _ _ => rfl) (r_17_1 S) ?_
    refine r_iload_n (q73 (i := 39) rfl) rfl ?_
    refine r_dup2 (q73 (i := 40) rfl) rfl rfl ?_
    refine r_laN (x := hJ h 19 (w / 64)) (q73 (i := 41) rfl) (k_19 S) (by omega) (by decide) rfl ?_
    refine r_lconst (v := 1) (q73 (i := 42) rfl) (by decide) ?_
    refine r_iload_n (q73 (i := 43) rfl) rfl ?_
    refine r_bipush (v := 63) (q73 (i := 44) rfl) (by decide) ?_
    refine r_iand (q73 (i := 45) rfl) ?_
    rw [show ((nI w) &&& 63 : Int32) = nI (w % 64) from and63 (by omega)]
    refine r_lshl (q73 (i := 46) rfl) ?_
    refine r_lor (q73 (i := 47) rfl) ?_
    refine r_lasN (q73 (i := 48) rfl) (k_19 S) (by omega) (by decide) ?_
    refine r_aload_n (q73 (i := 49) rfl) rfl ?_
    refine r_getR (b := 18) (q73 (i := 50) rfl) rfl (by decide) (k_17 S) (fun _ _ _ => rfl) (r_17_0 S) ?_
    refine r_aload_n (q73 (i := 51) rfl) rfl ?_
    refine r_getI (x := nI z) (q73 (i := 52) rfl) rfl (by decide) (k_17 S) (fun _ _ _ => rfl) hz ?_
    refine r_iload_n (q73 (i := 53) rfl) rfl ?_
    refine r_iasN (q73 (i := 54) rfl) (k_18 S) hz1 (by decide) ?_
    refine r_aload_n (q73 (i := 55) rfl) rfl ?_
    refine r_dup (q73 (i := 56) rfl) rfl ?_
    refine r_getI (x := nI z) (q73 (i := 57) rfl) rfl (by decide) (k_17 S) (fun _ _ _ => rfl) hz ?_
    refine r_iconst (v := 1) (q73 (i := 58) rfl) (by decide) ?_
    refine r_iadd (q73 (i := 59) rfl) ?_
    rw [show ((nI z) + 1 : Int32) = nI (z + 1) from nI_1 z]
    refine r_putI (q73 (i := 60) rfl) rfl (by decide) (k_17 S) rfl rfl ?_
    exact r_vret (q73 (i := 61) rfl) rfl (by unfold addV at hQ; first | (rw [if_pos c] at hQ; exact hQ) | (rw [if_neg c] at hQ; exact hQ))
end
section
/-! ===== the graph, pure: how many nodes, their sides, their rows ===== -/
abbrev gs : Type := Nat × (Nat → Nat) × (Nat → Nat) × (Nat → Nat → Int64)
abbrev gC (γ : gs) : Nat := γ.1
abbrev gL (γ : gs) : Nat → Nat := γ.2.1
abbrev gR (γ : gs) : Nat → Nat := γ.2.2.1
abbrev gW (γ : gs) : Nat → Nat → Int64 := γ.2.2.2
/-- a LITERAL's row -/
def lw (T : Nat → Nat → Int64) (p w : Nat) : Int64 := if p % 2 = 0 then T (p / 2) w else T (p / 2) w ^^^ (-1)
/-- the greatest AND below m whose lesser side is p, or 0 -/
def prv (n : Nat) (L : Nat → Nat) (p : Nat) : Nat → Nat
  | 0 => 0
  | m + 1 => if n < m ∧ L m = p then m else prv n L p m
/-- the greatest AND below m with these sides, or 0 -/
def gfind (n : Nat) (L R : Nat → Nat) (l r : Nat) : Nat → Nat
  | 0 => 0
  | m + 1 => if n < m ∧ L m = l ∧ R m = r then m else gfind n L R l r m
def gpush (γ : gs) (l r : Nat) : gs := (gC γ + 1, u1 (gL γ) (gC γ) l, u1 (gR γ) (gC γ) r, u1 (gW γ) (gC γ) (fun w => lw (gW γ) l w &&& lw (gW γ) r w))
def gnew (n : Nat) (γ : gs) (l r : Nat) : Nat × gs := if gfind n (gL γ) (gR γ) l r (gC γ) = 0 then (2 * gC γ, gpush γ l r) else (2 * gfind n (gL γ) (gR γ) l r (gC γ), γ)
def gand (n : Nat) (γ : gs) (p q : Nat) : Nat × gs := if p = 0 ∨ q = 0 ∨ p = q ^^^ 1 then (0, γ) else if q = p ∨ q = 1 then (p, γ) else if p = 1 then (q, γ) else if p < q then gnew n γ p q else gnew n γ q p
theorem prv_lt (n : Nat) (L : Nat → Nat) (p : Nat) : ∀ m, prv n L p m ≠ 0 → n < prv n L p m ∧ prv n L p m < m ∧ L (prv n L p m) = p
  | 0, h => absurd rfl h
  | m + 1, h => by
    unfold prv at h ⊢
    split
    · next e => exact ⟨e.1, by omega, e.2⟩
    · next e =>
      rw [if_neg e] at h
      obtain ⟨a, b, c⟩ := prv_lt n L p m h
      exact ⟨a, by omega, c⟩
theorem prv_0 (n : Nat) (L : Nat → Nat) (p : Nat) : ∀ m, prv n L p m = 0 → ∀ k, n < k → k < m → L k ≠ p
  | 0, _, k, _, hk => absurd hk (Nat.not_lt_zero k)
  | m + 1, h, k, hn, hk => by
    unfold prv at h
    split at h
    · next e => omega
    · next e =>
      by_cases q : k = m
      · subst q; exact fun z => e ⟨hn, z⟩
      · exact prv_0 n L p m h k hn (by omega)
theorem prv_none (n : Nat) (L : Nat → Nat) (p : Nat) : ∀ m, (∀ k, n < k → k < m → L k ≠ p) → prv n L p m = 0
  | 0, _ => rfl
  | m + 1, h => by
    unfold prv
    rw [if_neg (fun e => h m e.1 (by omega) e.2)]
    exact prv_none n L p m (fun k a b => h k a (by omega))
theorem prv_congr (n : Nat) {L L' : Nat → Nat} (p : Nat) : ∀ m, (∀ k, k < m → L k = L' k) → prv n L p m = prv n L' p m
  | 0, _ => rfl
  | m + 1, h => by
    unfold prv
    rw [h m (by omega), prv_congr n p m (fun k hk => h k (by omega))]
theorem gfind_0 (n : Nat) (L R : Nat → Nat) (l r : Nat) : ∀ m, prv n L l m = 0 → gfind n L R l r m = 0
  | 0, _ => rfl
  | m + 1, h => by
    unfold prv at h
    unfold gfind
    split at h
    · next e => omega
    · next e =>
      rw [if_neg (fun q => e ⟨q.1, q.2.1⟩)]
      exact gfind_0 n L R l r m h
theorem gfind_prv (n : Nat) (L R : Nat → Nat) (l r : Nat) : ∀ m, prv n L l m ≠ 0 → gfind n L R l r m = if R (prv n L l m) = r then prv n L l m else gfind n L R l r (prv n L l m)
  | 0, h => absurd rfl h
  | m + 1, h => by
    unfold prv at h ⊢
    have eg : gfind n L R l r (m + 1) = if n < m ∧ L m = l ∧ R m = r then m else gfind n L R l r m := rfl
    rw [eg]
    split at h
    · next e =>
      rw [if_pos e]
      by_cases q : R m = r
      · rw [if_pos ⟨e.1, e.2, q⟩, if_pos q]
      · rw [if_neg (fun z => q z.2.2), if_neg q]
    · next e =>
      rw [if_neg e, if_neg (fun q => e ⟨q.1, q.2.1⟩)]
      exact gfind_prv n L R l r m h
theorem gfind_lt (n : Nat) (L R : Nat → Nat) (l r : Nat) : ∀ m, gfind n L R l r m ≠ 0 → n < gfind n L R l r m ∧ gfind n L R l r m < m ∧ L (gfind n L R l r m) = l ∧ R (gfind n L R l r m) = r
  | 0, h => absurd rfl h
  | m + 1, h => by
    unfold gfind at h ⊢
    split
    · next e => exact ⟨e.1, by omega, e.2⟩
    · next e =>
      rw [if_neg e] at h
      obtain ⟨a, b, c⟩ := gfind_lt n L R l r m h
      exact ⟨a, by omega, c⟩
theorem gfind_none (n : Nat) (L R : Nat → Nat) (l r : Nat) : ∀ m, gfind n L R l r m = 0 → ∀ k, n < k → k < m → ¬ (L k = l ∧ R k = r)
  | 0, _, k, _, hk => absurd hk (Nat.not_lt_zero k)
  | m + 1, h, k, hn, hk => by
    unfold gfind at h
    split at h
    · next e => omega
    · next e =>
      by_cases q : k = m
      · subst q; exact fun z => e ⟨hn, z⟩
      · exact gfind_none n L R l r m h k hn (by omega)
/-- a graph over n inputs: sides stand below, the lesser first, nothing twice -/
def gwf (n : Nat) (γ : gs) : Prop := n < gC γ ∧ (∀ k, n < k → k < gC γ → gL γ k < gR γ k ∧ gR γ k < 2 * k) ∧ ∀ i j, n < i → i < j → j < gC γ → ¬ (gL γ i = gL γ j ∧ gR γ i = gR γ j)
theorem gwf_push {n : Nat} {γ : gs} {l r : Nat} (h : gwf n γ) (hl : l < r) (hr : r < 2 * gC γ) (hf : gfind n (gL γ) (gR γ) l r (gC γ) = 0) : gwf n (gpush γ l r) := by
  obtain ⟨h1, h2, h3⟩ := h
  have eC : gC (gpush γ l r) = gC γ + 1 := rfl
  have eL : ∀ k, k < gC γ → gL (gpush γ l r) k = gL γ k := fun k hk => u1_n (by omega)
  have eR : ∀ k, k < gC γ → gR (gpush γ l r) k = gR γ k := fun k hk => u1_n (by omega)
  have eL0 : gL (gpush γ l r) (gC γ) = l := u1_s
  have eR0 : gR (gpush γ l r) (gC γ) = r := u1_s
  refine ⟨by rw [eC]; omega, fun k a b => ?_, fun i j a b c => ?_⟩
  · rw [eC] at b
    by_cases q : k = gC γ
    · subst q; rw [eL0, eR0]; exact ⟨hl, hr⟩
    · rw [eL k (by omega), eR k (by omega)]; exact h2 k a (by omega)
  · rw [eC] at c
    rw [eL i (by omega), eR i (by omega)]
    by_cases q : j = gC γ
    · subst q
      rw [eL0, eR0]
      exact gfind_none n _ _ l r _ hf i a b
    · rw [eL j (by omega), eR j (by omega)]
      exact h3 i j a b (by omega)
theorem gnew_facts {n : Nat} {γ : gs} {l r : Nat} (h : gwf n γ) (hl : l < r) (hr : r < 2 * gC γ) : gwf n (gnew n γ l r).2 ∧ (gnew n γ l r).1 < 2 * gC (gnew n γ l r).2 ∧ gC γ ≤ gC (gnew n γ l r).2 ∧ gC (gnew n γ l r).2 ≤ gC γ + 1 := by
  unfold gnew
  split
  · next e => exact ⟨gwf_push h hl hr e, by show 2 * gC γ < 2 * (gC γ + 1); omega, by show gC γ ≤ gC γ + 1; omega, Nat.le_refl _⟩
  · next e =>
    have := gfind_lt n _ _ l r _ e
    exact ⟨h, by show 2 * gfind _ _ _ _ _ _ < 2 * gC γ; omega, Nat.le_refl _, by show gC γ ≤ gC γ + 1; omega⟩
theorem xor1_lt {p m : Nat} (h : p < 2 * m) : p ^^^ 1 < 2 * m := by
  have e : p ^^^ 1 = if p % 2 = 0 then p + 1 else p - 1 := by
    by_cases q : p % 2 = 0
    · rw [if_pos q]
      obtain ⟨k, rfl⟩ : ∃ k, p = 2 * k := ⟨p / 2, by omega⟩
      apply Nat.eq_of_testBit_eq
      intro i
      rw [Nat.testBit_xor]
      cases i with
      | zero => simp
      | succ i => simp [Nat.testBit_succ, show (2 * k + 1) / 2 = k by omega]
    · rw [if_neg q]
      obtain ⟨k, rfl⟩ : ∃ k, p = 2 * k + 1 := ⟨p / 2, by omega⟩
      apply Nat.eq_of_testBit_eq
      intro i
      rw [Nat.testBit_xor]
      cases i with
      | zero => simp
      | succ i => simp [Nat.testBit_succ, show (2 * k + 1) / 2 = k by omega]
  rw [e]
  split <;> omega
theorem gand_facts {n : Nat} {γ : gs} {p q : Nat} (h : gwf n γ) (hp : p < 2 * gC γ) (hq : q < 2 * gC γ) : gwf n (gand n γ p q).2 ∧ (gand n γ p q).1 < 2 * gC (gand n γ p q).2 ∧ gC γ ≤ gC (gand n γ p q).2 ∧ gC (gand n γ p q).2 ≤ gC γ + 1 := by
  have h0 := h.1
  unfold gand
  split
  · exact ⟨h, by show 0 < 2 * gC γ; omega, Nat.le_refl _, by show gC γ ≤ gC γ + 1; omega⟩
  · next c1 =>
    split
    · exact ⟨h, hp, Nat.le_refl _, by show gC γ ≤ gC γ + 1; omega⟩
    · next c2 =>
      split
      · exact ⟨h, hq, Nat.le_refl _, by show gC γ ≤ gC γ + 1; omega⟩
      · split
        · next c4 => exact gnew_facts h c4 hq
        · next c4 => exact gnew_facts h (by omega) hp
end
section
/-! ===== the class's graph holds a pure graph ===== -/
def GC (h : hp) (ρ n rw : Nat) (γ : gs) : Prop :=
  ((∃ ℓ, Rw h ρ ℓ ∧ 973 * rw ≤ ℓ ∧ ℓ < 100000) ∧ 1 ≤ rw ∧ rw ≤ 64 ∧ n ≤ 12) ∧ (hI h 21 7 = nI rw ∧ hI h 21 8 = nI n ∧ hI h 21 9 = nI (gC γ) ∧ gC γ ≤ 973) ∧
  (∀ k, k < gC γ → hI h 22 k = nI (gL γ k) ∧ hI h 23 k = nI (gR γ k)) ∧ (∀ p, p < 2 * gC γ → hI h 24 p = nI (prv n (gL γ) p (gC γ))) ∧ (∀ k, n < k → k < gC γ → hI h 25 k = nI (prv n (gL γ) (gL γ k) k)) ∧
  (∀ x w, x < gC γ → w < rw → hJ h ρ (x * rw + w) = gW γ x w)
/-- what the graph's methods leave as it was -/
def FrG (ρ : Nat) (h h' : hp) : Prop := h'.2.2 = h.2.2 ∧ (∀ k, k < 21 ∨ 25 < k → hI h' k = hI h k) ∧ (∀ k, k ≠ ρ → hJ h' k = hJ h k) ∧ ∀ j, j ≠ 9 → hI h' 21 j = hI h 21 j
theorem FrG.rf (ρ : Nat) (h : hp) : FrG ρ h h := ⟨rfl, fun _ _ => rfl, fun _ _ => rfl, fun _ _ => rfl⟩
theorem FrG.tr {ρ : Nat} {h h' h'' : hp} (a : FrG ρ h h') (b : FrG ρ h' h'') : FrG ρ h h'' := ⟨b.1.trans a.1, fun k hk => (b.2.1 k hk).trans (a.2.1 k hk), fun k hk => (b.2.2.1 k hk).trans (a.2.2.1 k hk), fun j hj => (b.2.2.2 j hj).trans (a.2.2.2 j hj)⟩
theorem Sh.to {h h' : hp} (S : Sh h) (e : h'.2.2 = h.2.2) : Sh h' := by
  unfold Sh hK hR at S ⊢
  rw [e]
  exact S
theorem ix_lt {x rw w : Nat} (hx : x < 973) (hw : w < rw) : x * rw + w < 973 * rw := by
  have : (x + 1) * rw ≤ 973 * rw := Nat.mul_le_mul_right rw (by omega)
  rw [Nat.succ_mul] at this
  omega
set_option maxHeartbeats 2000000 in
set_option maxRecDepth 10000 in
theorem sp_wordOf {d : Nat} {h : hp} (S : Sh h) {ρ n rw : Nat} {γ : gs} (G : GC h ρ n rw γ) {p w : Nat} (hp : p < 2 * gC γ) (hw : w < rw) : Run (d + 1) 55 [.ref 21, .int (nI p), .int (nI w)] h 0 0 (some (.long (lw (gW γ) p w))) h := by
  obtain ⟨⟨⟨ℓ, hRw, hℓ, hℓ1⟩, hr1, hr2, hn12⟩, ⟨e7, e8, e9, hc⟩, eLR, eCh, eNx, eRow⟩ := G
  have hix : p / 2 * rw + w < ℓ := by have := ix_lt (x := p / 2) (rw := rw) (w := w) (by omega) hw; omega
  refine Run.of (Nat.le_of_ble_eq_true rfl) (fun Q hQ => ?_)
  show Wp (Ex (d)) 55 Q 0 [(0, .ref 21), (1, .int (nI p)), (2, .int (nI w))] [] h 0 0
  refine r_aload_n (q55 (i := 0) rfl) rfl ?_
  refine r_getR (b := ρ) (q55 (i := 1) rfl) rfl (by decide) (k_21 S) (fun _ _ _ => rfl) hRw.1 ?_
  refine r_iload_n (q55 (i := 2) rfl) rfl ?_
  refine r_iconst (v := 1) (q55 (i := 3) rfl) (by decide) ?_
  refine r_ishr (q55 (i := 4) rfl) ?_
  rw [show ((nI p) >>> (1 &&& 31) : Int32) = nI (p / 2) from shr1 (by omega)]
  refine r_aload_n (q55 (i := 5) rfl) rfl ?_
  refine r_getI (x := nI rw) (q55 (i := 6) rfl) rfl (by decide) (k_21 S) (fun _ _ _ => rfl) e7 ?_
  refine r_imul (q55 (i := 7) rfl) ?_
  rw [show ((nI (p / 2)) * (nI rw) : Int32) = nI (p / 2 * rw) from pk_mul _ _]
  refine r_iload_n (q55 (i := 8) rfl) rfl ?_
  refine r_iadd (q55 (i := 9) rfl) ?_
  rw [show ((nI (p / 2 * rw)) + (nI w) : Int32) = nI (p / 2 * rw + w) from nI_add _ _]
  refine r_laN (x := gW γ (p / 2) w) (q55 (i := 10) rfl) hRw.2.1 hix (by omega) (eRow _ _ (by omega) hw) ?_
  refine r_lstore_n (ls' := [(3, .long (gW γ (p / 2) w)), (0, .ref 21), (1, .int (nI p)), (2, .int (nI w))]) (q55 (i := 11) rfl) (Nat.le_of_ble_eq_true rfl) rfl ?_
  refine r_iload_n (q55 (i := 12) rfl) rfl ?_
  refine r_iconst (v := 1) (q55 (i := 13) rfl) (by decide) ?_
  refine r_iand (q55 (i := 14) rfl) ?_
  rw [show ((nI p) &&& 1 : Int32) = nI (p % 2) from and1 (by omega)]
  refine r_if 26 (q55 (i := 15) rfl) (by decide) (fun c => ?_) (fun c => ?_)
  · have c : ¬ nI (p % 2) = 0 := c
    have c : ¬ p % 2 = 0 := fun q => c (by rw [q]; rfl)
    refine r_lload_n (q55 (i := 18) rfl) rfl ?_
    refine r_ldc2 (v := (-1)) (q55 (i := 19) rfl) rfl ?_
    refine r_lxor (q55 (i := 20) rfl) ?_
    exact r_lret (q55 (i := 21) rfl) rfl (by unfold lw at hQ; first | (rw [if_pos c] at hQ; exact hQ) | (rw [if_neg c] at hQ; exact hQ))
  · have c : ¬ (¬ nI (p % 2) = 0) := c
    have c : p % 2 = 0 := Classical.not_not.mp (fun q => c (fun z => by have := (nI_eq (a := p % 2) (b := 0) (by omega) (by decide)).mp z; exact q this))
    refine r_lload_n (q55 (i := 16) rfl) rfl ?_
    refine r_goto 31 (q55 (i := 17) rfl) (by decide) ?_
    exact r_lret (q55 (i := 21) rfl) rfl (by unfold lw at hQ; first | (rw [if_pos c] at hQ; exact hQ) | (rw [if_neg c] at hQ; exact hQ))
/-- a node more, its two chains empty -/
def nodH (h : hp) (x l r : Nat) : hp := sI (sI (sI (sI (sI (sI h 22 x (nI l)) 23 x (nI r)) 25 x 0) 24 (2 * x) 0) 24 (2 * x + 1) 0) 21 9 (nI (x + 1))
set_option maxHeartbeats 2000000 in
set_option maxRecDepth 10000 in
theorem sp_addNode {d : Nat} {h : hp} (S : Sh h) {x : Nat} (hx : hI h 21 9 = nI x) (hx1 : x < 973) (l r : Nat) : Run (d + 1) 54 [.ref 21, .int (nI l), .int (nI r)] h 0 0 none (nodH h x l r) := by
  refine Run.of (Nat.le_of_ble_eq_true rfl) (fun Q hQ => ?_)
  show Wp (Ex (d)) 54 Q 0 [(0, .ref 21), (1, .int (nI l)), (2, .int (nI r))] [] h 0 0
  refine r_aload_n (q54 (i := 0) rfl) rfl ?_
  refine r_getI (x := nI x) (q54 (i := 1) rfl) rfl (by decide) (k_21 S) (fun _ _ _ => rfl) hx ?_
  refine r_istore_n (ls' := [(3, .int (nI x)), (0, .ref 21), (1, .int (nI l)), (2, .int (nI r))]) (q54 (i := 2) rfl) (Nat.le_of_ble_eq_true rfl) rfl ?_
  refine r_aload_n (q54 (i := 3) rfl) rfl ?_
  refine r_getR (b := 22) (q54 (i := 4) rfl) rfl (by decide) (k_21 S) (fun _ _ _ => rfl) (r_21_2 S) ?_
  refine r_iload_n (q54 (i := 5) rfl) rfl ?_
  refine r_iload_n (q54 (i := 6) rfl) rfl ?_
  refine r_iasN (q54 (i := 7) rfl) (k_22 S) (by omega) (by decide) ?_
  refine r_aload_n (q54 (i := 8) rfl) rfl ?_
  refine r_getR (b := 23) (q54 (i := 9) rfl) rfl (by decide) (k_21 S) (fun _ _ _ => rfl) (r_21_3 S) ?_
  refine r_iload_n (q54 (i := 10) rfl) rfl ?_
  refine r_iload_n (q54 (i := 11) rfl) rfl ?_
  refine r_iasN (q54 (i := 12) rfl) (k_23 S) (by omega) (by decide) ?_
  refine r_aload_n (q54 (i := 13) rfl) rfl ?_
  refine r_getR (b := 25) (q54 (i := 14) rfl) rfl (by decide) (k_21 S) (fun _ _ _ => rfl) (r_21_5 S) ?_
  refine r_iload_n (q54 (i := 15) rfl) rfl ?_
  refine r_iconst (v := 0) (q54 (i := 16) rfl) (by decide) ?_
  refine r_iasN (q54 (i := 17) rfl) (k_25 S) (by omega) (by decide) ?_
  refine r_aload_n (q54 (i := 18) rfl) rfl ?_
  refine r_getR (b := 24) (q54 (i := 19) rfl) rfl (by decide) (k_21 S) (fun _ _ _ => rfl) (r_21_4 S) ?_
  refine r_iconst (v := 2) (q54 (i := 20) rfl) (by decide) ?_
  refine r_iload_n (q54 (i := 21) rfl) rfl ?_
  refine r_imul (q54 (i := 22) rfl) ?_
  rw [show (2 * (nI x) : Int32) = nI (2 * x) from pk_mul 2 x]
  refine r_iconst (v := 0) (q54 (i := 23) rfl) (by decide) ?_
  refine r_iasN (q54 (i := 24) rfl) (k_24 S) (by omega) (by decide) ?_
  refine r_aload_n (q54 (i := 25) rfl) rfl ?_
  refine r_getR (b := 24) (q54 (i := 26) rfl) rfl (by decide) (k_21 S) (fun _ _ _ => rfl) (r_21_4 S) ?_
  refine r_iconst (v := 2) (q54 (i := 27) rfl) (by decide) ?_
  refine r_iload_n (q54 (i := 28) rfl) rfl ?_
  refine r_imul (q54 (i := 29) rfl) ?_
  rw [show (2 * (nI x) : Int32) = nI (2 * x) from pk_mul 2 x]
  refine r_iconst (v := 1) (q54 (i := 30) rfl) (by decide) ?_
  refine r_iadd (q54 (i := 31) rfl) ?_
  rw [show ((nI (2 * x)) + 1 : Int32) = nI (2 * x + 1) from nI_1 _]
  refine r_iconst (v := 0) (q54 (i := 32) rfl) (by decide) ?_
  refine r_iasN (q54 (i := 33) rfl) (k_24 S) (by omega) (by decide) ?_
  refine r_aload_n (q54 (i := 34) rfl) rfl ?_
  refine r_dup (q54 (i := 35) rfl) rfl ?_
  refine r_getI (x := nI x) (q54 (i := 36) rfl) rfl (by decide) (k_21 S) (fun _ _ _ => rfl) hx ?_
  refine r_iconst (v := 1) (q54 (i := 37) rfl) (by decide) ?_
  refine r_iadd (q54 (i := 38) rfl) ?_
  rw [show ((nI x) + 1 : Int32) = nI (x + 1) from nI_1 x]
  refine r_putI (q54 (i := 39) rfl) rfl (by decide) (k_21 S) rfl rfl ?_
  exact r_vret (q54 (i := 40) rfl) rfl hQ
/-- a stretch of a row written: i places from b on -/
def rowF (f : Nat → Int64) (b : Nat) (g : Nat → Int64) (i : Nat) : Nat → Int64 := fun q => if b ≤ q ∧ q < b + i then g (q - b) else f q
theorem rowF_s (f : Nat → Int64) (b : Nat) (g : Nat → Int64) (i : Nat) : u1 (rowF f b g i) (b + i) (g i) = rowF f b g (i + 1) := by
  funext q
  unfold u1 rowF
  by_cases e : q = b + i
  · rw [if_pos e, if_pos (by omega), show q - b = i by omega]
  · rw [if_neg e]
    by_cases e2 : b ≤ q ∧ q < b + i
    · rw [if_pos e2, if_pos (by omega)]
    · rw [if_neg e2, if_neg (by omega)]
theorem rowF_0 (f : Nat → Int64) (b : Nat) (g : Nat → Int64) : rowF f b g 0 = f := by
  funext q
  exact if_neg (by omega)
theorem rowF_in {f g : Nat → Int64} {b i q : Nat} (h : q < i) : rowF f b g i (b + q) = g q := by
  unfold rowF
  rw [if_pos (by omega), Nat.add_sub_cancel_left]
theorem rowF_lt {f g : Nat → Int64} {b i q : Nat} (h : q < b) : rowF f b g i q = f q := if_neg (by omega)
theorem GC.row {h : hp} {ρ n rw : Nat} {γ : gs} (G : GC h ρ n rw γ) (f : Nat → Int64) (hf : ∀ q, q < gC γ * rw → f q = hJ h ρ q) : GC (rJ h ρ f) ρ n rw γ := by
  obtain ⟨a, b, c, e, g, r⟩ := G
  refine ⟨a, b, c, e, g, fun x w hx hw => ?_⟩
  show u1 h.2.1 ρ f ρ (x * rw + w) = _
  rw [u1_s, hf, r x w hx hw]
  have : (x + 1) * rw ≤ gC γ * rw := Nat.mul_le_mul_right rw (by omega)
  rw [Nat.succ_mul] at this
  omega
theorem nod24 {h : hp} {x l r q : Nat} (hq : q < 2 * x) : hI (nodH h x l r) 24 q = hI h 24 q := by
  show u1 (u1 (hI h 24) (2 * x) 0) (2 * x + 1) 0 q = _
  rw [u1_n (by omega), u1_n (by omega)]
def addH (h : hp) (ρ n rw : Nat) (γ : gs) (l r : Nat) : hp := sI (sI (nodH (rJ h ρ (rowF (hJ h ρ) (gC γ * rw) (fun w => lw (gW γ) l w &&& lw (gW γ) r w) rw)) (gC γ) l r) 25 (gC γ) (nI (prv n (gL γ) l (gC γ)))) 24 l (nI (gC γ))
set_option maxHeartbeats 2000000 in
set_option maxRecDepth 10000 in
theorem lp_addAnd {d : Nat} {h : hp} (S : Sh h) {ρ n rw : Nat} {γ : gs} (G : GC h ρ n rw γ) {l r : Nat} (hl : l < 2 * gC γ) (hr : r < 2 * gC γ) (hc3 : gC γ < 973) {Q : resP} {bc bs : Nat} (hk : ∀ ls : List (Nat × Value), ls.lookup 4 = some (.int (nI rw)) → ls.lookup 3 = some (.int (nI (gC γ))) → ls.lookup 0 = some (.ref 21) → ls.lookup 1 = some (.int (nI l)) → ls.lookup 2 = some (.int (nI r)) → Wp (Ex (d + 1)) 53 Q 64 ls [] (rJ h ρ (rowF (hJ h ρ) (gC γ * rw) (fun w => lw (gW γ) l w &&& lw (gW γ) r w) rw)) bc bs) : ∀ (k i : Nat), i + k = rw → ∀ ls : List (Nat × Value), ls.lookup 4 = some (.int (nI i)) → ls.lookup 3 = some (.int (nI (gC γ))) → ls.lookup 0 = some (.ref 21) → ls.lookup 1 = some (.int (nI l)) → ls.lookup 2 = some (.int (nI r)) → Wp (Ex (d + 1)) 53 Q 20 ls [] (rJ h ρ (rowF (hJ h ρ) (gC γ * rw) (fun w => lw (gW γ) l w &&& lw (gW γ) r w) i)) bc bs := by
  have G0 := G
  obtain ⟨⟨⟨ℓ, hRw, hℓ, hℓ1⟩, hr1, hr2, hn12⟩, ⟨e7, e8, e9, hc⟩, eLR, eCh, eNx, eRow⟩ := G
  intro k
  induction k with
  | zero =>
    intro i hi ls l4 l3 l0 l1 l2
    have e : i = rw := by omega
    subst e
    refine r_iload (q53 (i := 11) rfl) l4 ?_
    refine r_aload_n (q53 (i := 12) rfl) l0 ?_
    refine r_getI (x := nI i) (q53 (i := 13) rfl) rfl (by decide) (k_21 S) (fun _ _ _ => rfl) e7 ?_
    refine r_icmp 64 (q53 (i := 14) rfl) (by decide) (fun _ => ?_) (fun c => absurd (show nI i ≤ nI i from Int32.le_refl _) c)
    exact hk ls l4 l3 l0 l1 l2
  | succ k ih =>
    intro i hi ls l4 l3 l0 l1 l2
    have G1 : GC (rJ h ρ (rowF (hJ h ρ) (gC γ * rw) (fun w => lw (gW γ) l w &&& lw (gW γ) r w) i)) ρ n rw γ := G0.row _ (fun q hq => rowF_lt hq)
    have hix : gC γ * rw + i < ℓ := by have := ix_lt (x := gC γ) (rw := rw) (w := i) hc3 (by omega); omega
    refine r_iload (q53 (i := 11) rfl) l4 ?_
    refine r_aload_n (q53 (i := 12) rfl) l0 ?_
    refine r_getI (x := nI rw) (q53 (i := 13) rfl) rfl (by decide) (k_21 S) (fun _ _ _ => rfl) e7 ?_
    refine r_icmp 64 (q53 (i := 14) rfl) (by decide) (fun c => absurd c (show ¬ (nI rw ≤ nI i) from nI_ge (by omega) (by omega))) (fun _ => ?_)
    refine r_aload_n (q53 (i := 15) rfl) l0 ?_
    refine r_getR (b := ρ) (q53 (i := 16) rfl) rfl (by decide) (k_21 S) (fun _ _ _ => rfl) hRw.1 ?_
    refine r_iload_n (q53 (i := 17) rfl) l3 ?_
    refine r_aload_n (q53 (i := 18) rfl) l0 ?_
    refine r_getI (x := nI rw) (q53 (i := 19) rfl) rfl (by decide) (k_21 S) (fun _ _ _ => rfl) e7 ?_
    refine r_imul (q53 (i := 20) rfl) ?_
    rw [show ((nI (gC γ)) * (nI rw) : Int32) = nI (gC γ * rw) from pk_mul _ _]
    refine r_iload (q53 (i := 21) rfl) l4 ?_
    refine r_iadd (q53 (i := 22) rfl) ?_
    rw [show ((nI (gC γ * rw)) + (nI i) : Int32) = nI (gC γ * rw + i) from nI_add _ _]
    refine r_aload_n (q53 (i := 23) rfl) l0 ?_
    refine r_iload_n (q53 (i := 24) rfl) l1 ?_
    refine r_iload (q53 (i := 25) rfl) l4 ?_
    refine r_cV (d := _) (q53 (i := 26) rfl) rfl rfl rfl (k_21 S) (Nat.le_of_ble_eq_true rfl) (Nat.zero_le _) (Nat.zero_le _) (sp_wordOf (h := (rJ h ρ (rowF (hJ h ρ) (gC γ * rw) (fun w => lw (gW γ) l w &&& lw (gW γ) r w) i))) (Sh.to S rfl) G1 hl (by omega)) ?_
    show Wp _ _ _ 49 ls [.long (lw (gW γ) l i), .int (nI (gC γ * rw + i)), .ref ρ] (rJ h ρ (rowF (hJ h ρ) (gC γ * rw) (fun w => lw (gW γ) l w &&& lw (gW γ) r w) i)) _ _
    refine r_aload_n (q53 (i := 27) rfl) l0 ?_
    refine r_iload_n (q53 (i := 28) rfl) l2 ?_
    refine r_iload (q53 (i := 29) rfl) l4 ?_
    refine r_cV (d := _) (q53 (i := 30) rfl) rfl rfl rfl (k_21 S) (Nat.le_of_ble_eq_true rfl) (Nat.zero_le _) (Nat.zero_le _) (sp_wordOf (h := (rJ h ρ (rowF (hJ h ρ) (gC γ * rw) (fun w => lw (gW γ) l w &&& lw (gW γ) r w) i))) (Sh.to S rfl) G1 hr (by omega)) ?_
    show Wp _ _ _ 56 ls [.long (lw (gW γ) r i), .long (lw (gW γ) l i), .int (nI (gC γ * rw + i)), .ref ρ] (rJ h ρ (rowF (hJ h ρ) (gC γ * rw) (fun w => lw (gW γ) l w &&& lw (gW γ) r w) i)) _ _
    refine r_land (q53 (i := 31) rfl) ?_
    refine r_lasN (q53 (i := 32) rfl) hRw.2.1 hix (by omega) ?_
    rw [sJ_rJ, show lw (gW γ) l i &&& lw (gW γ) r i = (fun w => lw (gW γ) l w &&& lw (gW γ) r w) i from rfl, rowF_s]
    refine r_iinc (y := nI (i + 1)) (q53 (i := 33) rfl) (Nat.le_of_ble_eq_true rfl) l4 (nI_1 i) rfl ?_
    have l3 := lk1 (k := 4) (v := .int (nI (i + 1))) l3 (by decide) (Or.inl rfl)
    have l0 := lk1 (k := 4) (v := .int (nI (i + 1))) l0 (by decide) (Or.inr (by decide))
    have l1 := lk1 (k := 4) (v := .int (nI (i + 1))) l1 (by decide) (Or.inr (by decide))
    have l2 := lk1 (k := 4) (v := .int (nI (i + 1))) l2 (by decide) (Or.inr (by decide))
    have l4 := lk0 ls 4 (.int (nI (i + 1)))
    generalize lset1 ls 4 (.int (nI (i + 1))) = ls at l4 l3 l0 l1 l2 ⊢
    refine r_goto 20 (q53 (i := 34) rfl) (by decide) ?_
    exact ih (i + 1) (by omega) ls l4 l3 l0 l1 l2
set_option maxHeartbeats 2000000 in
set_option maxRecDepth 10000 in
theorem sp_addAnd0 {d : Nat} {h : hp} (S : Sh h) {ρ n rw : Nat} {γ : gs} (G : GC h ρ n rw γ) {l r : Nat} (hl : l < 2 * gC γ) (hr : r < 2 * gC γ) (hc3 : gC γ < 973) (hn : n < gC γ) : Run (d + 1 + 1) 53 [.ref 21, .int (nI l), .int (nI r)] h 0 0 (some (.int (nI (2 * gC γ)))) (addH h ρ n rw γ l r) := by
  have G0 := G
  obtain ⟨⟨⟨ℓ, hRw, hℓ, hℓ1⟩, hr1, hr2, hn12⟩, ⟨e7, e8, e9, hc⟩, eLR, eCh, eNx, eRow⟩ := G
  refine Run.of (Nat.le_of_ble_eq_true rfl) (fun Q hQ => ?_)
  show Wp (Ex (d + 1)) 53 Q 0 [(0, .ref 21), (1, .int (nI l)), (2, .int (nI r))] [] h 0 0
  refine r_aload_n (q53 (i := 0) rfl) rfl ?_
  refine r_getI (x := nI (gC γ)) (q53 (i := 1) rfl) rfl (by decide) (k_21 S) (fun _ _ _ => rfl) e9 ?_
  refine r_sipush (v := 973) (q53 (i := 2) rfl) (by decide) ?_
  refine r_icmp 12 (q53 (i := 3) rfl) (by decide) (fun _ => ?_) (fun c => absurd (show nI (gC γ) < 973 from nI_lt (b := 973) hc3 (by decide)) c)
  refine r_aload_n (q53 (i := 6) rfl) rfl ?_
  refine r_getI (x := nI (gC γ)) (q53 (i := 7) rfl) rfl (by decide) (k_21 S) (fun _ _ _ => rfl) e9 ?_
  refine r_istore_n (ls' := [(3, .int (nI (gC γ))), (0, .ref 21), (1, .int (nI l)), (2, .int (nI r))]) (q53 (i := 8) rfl) (Nat.le_of_ble_eq_true rfl) rfl ?_
  refine r_iconst (v := 0) (q53 (i := 9) rfl) (by decide) ?_
  refine r_istore (ls' := [(4, .int 0), (3, .int (nI (gC γ))), (0, .ref 21), (1, .int (nI l)), (2, .int (nI r))]) (q53 (i := 10) rfl) (Nat.le_of_ble_eq_true rfl) rfl ?_
  have e0 : h = rJ h ρ (rowF (hJ h ρ) (gC γ * rw) (fun w => lw (gW γ) l w &&& lw (gW γ) r w) 0) := by rw [rowF_0, rJ_self]
  conv => arg 7; rw [e0]
  refine lp_addAnd S G0 hl hr hc3 (fun ls l4 l3 l0 l1 l2 => ?_) rw 0 (by omega) _ rfl rfl rfl rfl rfl
  refine r_aload_n (q53 (i := 35) rfl) l0 ?_
  refine r_iload_n (q53 (i := 36) rfl) l1 ?_
  refine r_iload_n (q53 (i := 37) rfl) l2 ?_
  have S1 : Sh (rJ h ρ (rowF (hJ h ρ) (gC γ * rw) (fun w => lw (gW γ) l w &&& lw (gW γ) r w) rw)) := Sh.to S rfl
  have S2 : Sh (nodH (rJ h ρ (rowF (hJ h ρ) (gC γ * rw) (fun w => lw (gW γ) l w &&& lw (gW γ) r w) rw)) (gC γ) l r) := Sh.to S rfl
  refine r_cV (d := _) (q53 (i := 38) rfl) rfl rfl rfl (k_21 S1) (Nat.le_of_ble_eq_true rfl) (Nat.zero_le _) (Nat.zero_le _) (sp_addNode S1 e9 hc3 l r) ?_
  show Wp _ _ _ 70 ls [] (nodH (rJ h ρ (rowF (hJ h ρ) (gC γ * rw) (fun w => lw (gW γ) l w &&& lw (gW γ) r w) rw)) (gC γ) l r) _ _
  refine r_aload_n (q53 (i := 39) rfl) l0 ?_
  refine r_getR (b := 25) (q53 (i := 40) rfl) rfl (by decide) (k_21 S2) (fun _ _ _ => rfl) (r_21_5 S2) ?_
  refine r_iload_n (q53 (i := 41) rfl) l3 ?_
  refine r_aload_n (q53 (i := 42) rfl) l0 ?_
  refine r_getR (b := 24) (q53 (i := 43) rfl) rfl (by decide) (k_21 S2) (fun _ _ _ => rfl) (r_21_4 S2) ?_
  refine r_iload_n (q53 (i := 44) rfl) l1 ?_
  refine r_iaN (x := nI (prv n (gL γ) l (gC γ))) (q53 (i := 45) rfl) (k_24 S2) (by omega) (by decide) ((nod24 hl).trans (eCh l hl)) ?_
  refine r_iasN (q53 (i := 46) rfl) (k_25 S2) (by omega) (by decide) ?_
  refine r_aload_n (q53 (i := 47) rfl) l0 ?_
  refine r_getR (b := 24) (q53 (i := 48) rfl) rfl (by decide) (k_21 S2) (fun _ _ _ => rfl) (r_21_4 S2) ?_
  refine r_iload_n (q53 (i := 49) rfl) l1 ?_
  refine r_iload_n (q53 (i := 50) rfl) l3 ?_
  refine r_iasN (q53 (i := 51) rfl) (k_24 S2) (by omega) (by decide) ?_
  refine r_iconst (v := 2) (q53 (i := 52) rfl) (by decide) ?_
  refine r_iload_n (q53 (i := 53) rfl) l3 ?_
  refine r_imul (q53 (i := 54) rfl) ?_
  rw [show (2 * (nI (gC γ)) : Int32) = nI (2 * gC γ) from pk_mul 2 _]
  exact r_iret (q53 (i := 55) rfl) rfl hQ
theorem u1_nn {α : Type} {f : Nat → α} {k j : Nat} {v : α} (h : j ≠ k) : u1 f k v j = f j := if_neg h
theorem addH_ok {h : hp} {ρ n rw : Nat} {γ : gs} (G : GC h ρ n rw γ) (W : gwf n γ) {l r : Nat} (hlr : l < r) (hr : r < 2 * gC γ) (hc3 : gC γ < 973) : GC (addH h ρ n rw γ l r) ρ n rw (gpush γ l r) ∧ FrG ρ h (addH h ρ n rw γ l r) := by
  obtain ⟨⟨⟨ℓ, hRw, hℓ, hℓ1⟩, hr1, hr2, hn12⟩, ⟨e7, e8, e9, hc⟩, eLR, eCh, eNx, eRow⟩ := G
  have hn : n < gC γ := W.1
  have i22 : hI (addH h ρ n rw γ l r) 22 = u1 (hI h 22) (gC γ) (nI l) := rfl
  have i23 : hI (addH h ρ n rw γ l r) 23 = u1 (hI h 23) (gC γ) (nI r) := rfl
  have i24 : hI (addH h ρ n rw γ l r) 24 = u1 (u1 (u1 (hI h 24) (2 * gC γ) 0) (2 * gC γ + 1) 0) l (nI (gC γ)) := rfl
  have i25 : hI (addH h ρ n rw γ l r) 25 = u1 (u1 (hI h 25) (gC γ) 0) (gC γ) (nI (prv n (gL γ) l (gC γ))) := rfl
  have j1 : hJ (addH h ρ n rw γ l r) ρ = rowF (hJ h ρ) (gC γ * rw) (fun w => lw (gW γ) l w &&& lw (gW γ) r w) rw := by
    show u1 h.2.1 ρ _ ρ = _
    exact u1_s
  have eC : gC (gpush γ l r) = gC γ + 1 := rfl
  have pL : ∀ p m, m ≤ gC γ → prv n (gL (gpush γ l r)) p m = prv n (gL γ) p m := fun p m hm => prv_congr n p m (fun k hk => u1_n (by omega))
  have pS : ∀ p, prv n (gL (gpush γ l r)) p (gC γ + 1) = if l = p then gC γ else prv n (gL γ) p (gC γ) := fun p => by
    have e : prv n (gL (gpush γ l r)) p (gC γ + 1) = if n < gC γ ∧ gL (gpush γ l r) (gC γ) = p then gC γ else prv n (gL (gpush γ l r)) p (gC γ) := rfl
    rw [e, pL p _ (Nat.le_refl _), show gL (gpush γ l r) (gC γ) = l from u1_s]
    by_cases q : l = p
    · rw [if_pos ⟨hn, q⟩, if_pos q]
    · rw [if_neg (fun z => q z.2), if_neg q]
  have big : ∀ p, 2 * gC γ ≤ p → prv n (gL γ) p (gC γ) = 0 := fun p hp => prv_none n _ p _ (fun k a b q => by have := W.2.1 k a b; omega)
  refine ⟨⟨⟨⟨ℓ, hRw, hℓ, hℓ1⟩, hr1, hr2, hn12⟩, ⟨e7, e8, by rw [eC]; rfl, by rw [eC]; omega⟩, fun k hk => ?_, fun p hp => ?_, fun k a hk => ?_, fun x w hx hw => ?_⟩, ⟨rfl, fun k hk => ?_, fun k hk => ?_, fun j hj => ?_⟩⟩
  · rw [eC] at hk
    rw [i22, i23]
    by_cases q : k = gC γ
    · subst q
      exact ⟨by rw [u1_s]; exact (congrArg nI (u1_s (f := gL γ) (v := l))).symm, by rw [u1_s]; exact (congrArg nI (u1_s (f := gR γ) (v := r))).symm⟩
    · rw [u1_n q, u1_n q, show gL (gpush γ l r) k = gL γ k from u1_n q, show gR (gpush γ l r) k = gR γ k from u1_n q]
      exact eLR k (by omega)
  · rw [eC] at hp ⊢
    rw [i24, pS p]
    by_cases q : p = l
    · subst q
      rw [u1_s, if_pos rfl]
    · rw [u1_n q, if_neg (fun z => q z.symm)]
      by_cases q1 : p = 2 * gC γ + 1
      · subst q1
        rw [u1_s, big _ (by omega)]
        rfl
      · rw [u1_n q1]
        by_cases q2 : p = 2 * gC γ
        · subst q2
          rw [u1_s, big _ (by omega)]
          rfl
        · rw [u1_n q2]
          exact eCh p (by omega)
  · rw [eC] at hk
    rw [i25, u1_u1]
    by_cases q : k = gC γ
    · subst q
      rw [u1_s, pL _ _ (Nat.le_refl _), show gL (gpush γ l r) (gC γ) = l from u1_s]
    · rw [u1_n q, pL _ _ (by omega), show gL (gpush γ l r) k = gL γ k from u1_n q]
      exact eNx k a (by omega)
  · rw [eC] at hx
    rw [j1]
    by_cases q : x = gC γ
    · subst q
      rw [rowF_in hw]
      exact (congrFun (u1_s (f := gW γ) (v := fun w => lw (gW γ) l w &&& lw (gW γ) r w)) w).symm
    · have hb : x * rw + w < gC γ * rw := by
        have : (x + 1) * rw ≤ gC γ * rw := Nat.mul_le_mul_right rw (by omega)
        rw [Nat.succ_mul] at this
        omega
      rw [rowF_lt hb, eRow x w (by omega) hw]
      exact (congrFun (u1_n (f := gW γ) q) w).symm
  · show u2 (u2 (u2 (u2 (u2 (u2 (u2 (u2 h.1 22 _ _) 23 _ _) 25 _ _) 24 _ _) 24 _ _) 21 _ _) 25 _ _) 24 _ _ k = _
    rw [u2_n (by omega), u2_n (by omega), u2_n (by omega), u2_n (by omega), u2_n (by omega), u2_n (by omega), u2_n (by omega), u2_n (by omega)]
  · show u1 h.2.1 ρ _ k = _
    exact u1_n hk
  · show u1 (hI h 21) 9 _ j = _
    exact u1_n hj
end
section
/-! ===== makeAnd ===== -/
def newH (h : hp) (ρ n rw : Nat) (γ : gs) (l r : Nat) : hp := if gfind n (gL γ) (gR γ) l r (gC γ) = 0 then addH h ρ n rw γ l r else h
theorem newH_ok {h : hp} {ρ n rw : Nat} {γ : gs} (G : GC h ρ n rw γ) (W : gwf n γ) {l r : Nat} (hlr : l < r) (hr : r < 2 * gC γ) (hc3 : gC γ < 973) : GC (newH h ρ n rw γ l r) ρ n rw (gnew n γ l r).2 ∧ FrG ρ h (newH h ρ n rw γ l r) := by
  unfold newH gnew
  split
  · exact addH_ok G W hlr hr hc3
  · exact ⟨G, FrG.rf ρ h⟩
theorem neN {a b : Nat} (ha : a < 2 ^ 31) (hb : b < 2 ^ 31) (h : a ≠ b) : ¬ nI a = nI b := fun z => h ((nI_eq ha hb).mp z)
set_option maxHeartbeats 2000000 in
set_option maxRecDepth 10000 in
theorem lp_makeAnd {d : Nat} {h : hp} (S : Sh h) {ρ n rw : Nat} {γ : gs} (G : GC h ρ n rw γ) (W : gwf n γ) {l r : Nat} (hlr : l < r) (hr : r < 2 * gC γ) (hc3 : gC γ < 973) {Q : resP} (hQ : Q (some (.int (nI (gnew n γ l r).1))) (newH h ρ n rw γ l r)) {bc bs : Nat} : ∀ (m t : Nat), m ≤ gC γ → t + m ≤ gC γ → gfind n (gL γ) (gR γ) l r (gC γ) = gfind n (gL γ) (gR γ) l r m → ∀ ls : List (Nat × Value), ls.lookup 5 = some (.int (nI (prv n (gL γ) l m))) → ls.lookup 6 = some (.int (nI t)) → ls.lookup 3 = some (.int (nI l)) → ls.lookup 4 = some (.int (nI r)) → ls.lookup 0 = some (.ref 21) → Wp (Ex (d + 2)) 52 Q 60 ls [] h bc bs := by
  have G0 := G
  obtain ⟨⟨⟨ℓ, hRw, hℓ, hℓ1⟩, hr1, hr2, hn12⟩, ⟨e7, e8, e9, hc⟩, eLR, eCh, eNx, eRow⟩ := G
  intro m
  induction m using Nat.strongRecOn with
  | _ m ih =>
    intro t hm ht hg ls l5 l6 l3 l4 l0
    have fin : gfind n (gL γ) (gR γ) l r m = 0 → Wp (Ex (d + 2)) 52 Q 105 ls [] h bc bs := by
      intro hz
      refine r_aload_n (q52 (i := 61) rfl) l0 ?_
      refine r_iload_n (q52 (i := 62) rfl) l3 ?_
      refine r_iload (q52 (i := 63) rfl) l4 ?_
      refine r_cV (d := _) (q52 (i := 64) rfl) rfl rfl rfl (k_21 S) (Nat.le_of_ble_eq_true rfl) (Nat.zero_le _) (Nat.zero_le _) (sp_addAnd0 S G0 (by omega) hr hc3 W.1) ?_
      exact r_iret (q52 (i := 65) rfl) rfl (by unfold newH gnew at hQ; rw [if_pos (hg.trans hz), if_pos (hg.trans hz)] at hQ; exact hQ)
    refine r_iload (q52 (i := 39) rfl) l6 ?_
    refine r_sipush (v := 973) (q52 (i := 40) rfl) (by decide) ?_
    refine r_icmp 105 (q52 (i := 41) rfl) (by decide) (fun c1 => ?_) (fun c1 => ?_)
    · have c1 : 973 ≤ nI t := c1
      have c1 : 973 ≤ t := (nI_leI (a := 973) (by decide) (by omega)).mp c1
      exact fin (by rw [show m = 0 by omega]; rfl)
    · have c1 : ¬ (973 ≤ nI t) := c1
      refine r_iload (q52 (i := 42) rfl) l5 ?_
      refine r_if 105 (q52 (i := 43) rfl) (by decide) (fun c2 => ?_) (fun c2 => ?_)
      · have c2 : nI (prv n (gL γ) l m) = 0 := c2
        have c2 : prv n (gL γ) l m = 0 := (nI_eq (b := 0) (by have := prv_lt n (gL γ) l m; by_cases q : prv n (gL γ) l m = 0; omega; have := this q; omega) (by decide)).mp c2
        exact fin (gfind_0 n _ _ l r m c2)
      · have c2 : ¬ (nI (prv n (gL γ) l m) = 0) := c2
        have c2 : prv n (gL γ) l m ≠ 0 := fun q => c2 (by rw [q]; rfl)
        obtain ⟨x1, x2, x3⟩ := prv_lt n (gL γ) l m c2
        have gp := gfind_prv n (gL γ) (gR γ) l r m c2
        generalize hx : prv n (gL γ) l m = x at l5 x1 x2 x3 gp c2 ⊢
        refine r_aload_n (q52 (i := 44) rfl) l0 ?_
        refine r_getR (b := 23) (q52 (i := 45) rfl) rfl (by decide) (k_21 S) (fun _ _ _ => rfl) (r_21_3 S) ?_
        refine r_iload (q52 (i := 46) rfl) l5 ?_
        refine r_iaN (x := nI (gR γ x)) (q52 (i := 47) rfl) (k_23 S) (by omega) (by decide) ((eLR x (by omega)).2) ?_
        refine r_iload (q52 (i := 48) rfl) l4 ?_
        refine r_icmp 90 (q52 (i := 49) rfl) (by decide) (fun c3 => ?_) (fun c3 => ?_)
        · have c3 : ¬ nI (gR γ x) = nI r := c3
          have c3 : gR γ x ≠ r := fun q => c3 (by rw [q])
          rw [if_neg c3] at gp
          refine r_aload_n (q52 (i := 54) rfl) l0 ?_
          refine r_getR (b := 25) (q52 (i := 55) rfl) rfl (by decide) (k_21 S) (fun _ _ _ => rfl) (r_21_5 S) ?_
          refine r_iload (q52 (i := 56) rfl) l5 ?_
          refine r_iaN (x := nI (prv n (gL γ) l x)) (q52 (i := 57) rfl) (k_25 S) (by omega) (by decide) (by rw [eNx x x1 (by omega), x3]) ?_
          refine r_istore (q52 (i := 58) rfl) (Nat.le_of_ble_eq_true rfl) rfl ?_
          have l6 := lk1 (k := 5) (v := .int (nI (prv n (gL γ) l x))) l6 (by decide) (Or.inr (by decide))
          have l3 := lk1 (k := 5) (v := .int (nI (prv n (gL γ) l x))) l3 (by decide) (Or.inr (by decide))
          have l4 := lk1 (k := 5) (v := .int (nI (prv n (gL γ) l x))) l4 (by decide) (Or.inl rfl)
          have l0 := lk1 (k := 5) (v := .int (nI (prv n (gL γ) l x))) l0 (by decide) (Or.inr (by decide))
          have l5 := lk0 ls 5 (.int (nI (prv n (gL γ) l x)))
          generalize lset1 ls 5 (.int (nI (prv n (gL γ) l x))) = ls at l5 l6 l3 l4 l0 ⊢
          refine r_iinc (y := nI (t + 1)) (q52 (i := 59) rfl) (Nat.le_of_ble_eq_true rfl) l6 (nI_1 t) rfl ?_
          have l5 := lk1 (k := 6) (v := .int (nI (t + 1))) l5 (by decide) (Or.inl rfl)
          have l3 := lk1 (k := 6) (v := .int (nI (t + 1))) l3 (by decide) (Or.inr (by decide))
          have l4 := lk1 (k := 6) (v := .int (nI (t + 1))) l4 (by decide) (Or.inr (by decide))
          have l0 := lk1 (k := 6) (v := .int (nI (t + 1))) l0 (by decide) (Or.inr (by decide))
          have l6 := lk0 ls 6 (.int (nI (t + 1)))
          generalize lset1 ls 6 (.int (nI (t + 1))) = ls at l6 l5 l3 l4 l0 ⊢
          refine r_goto 60 (q52 (i := 60) rfl) (by decide) ?_
          exact ih x x2 (t + 1) (by omega) (by omega) (hg.trans gp) ls l5 l6 l3 l4 l0
        · have c3 : ¬ (¬ nI (gR γ x) = nI r) := c3
          have c3 : gR γ x = r := (nI_eq (by have := W.2.1 x x1 (by omega); omega) (by omega)).mp (Classical.not_not.mp c3)
          rw [if_pos c3] at gp
          refine r_iconst (v := 2) (q52 (i := 50) rfl) (by decide) ?_
          refine r_iload (q52 (i := 51) rfl) l5 ?_
          refine r_imul (q52 (i := 52) rfl) ?_
          rw [show (2 * (nI x) : Int32) = nI (2 * x) from pk_mul 2 x]
          exact r_iret (q52 (i := 53) rfl) rfl (by unfold newH gnew at hQ; rw [hg, gp, if_neg c2, if_neg c2] at hQ; exact hQ)
set_option maxHeartbeats 2000000 in
set_option maxRecDepth 10000 in
theorem mA_0 {d : Nat} {h : hp} (S : Sh h) {ρ n rw : Nat} {γ : gs} (G : GC h ρ n rw γ) (W : gwf n γ) {p q : Nat} (hp : p < 2 * gC γ) (hq : q < 2 * gC γ) (hc3 : gC γ < 973) (h0 : p = 0) : Run (d + 2 + 1) 52 [.ref 21, .int (nI p), .int (nI q)] h 0 0 (some (.int (nI 0))) h := by
  have G0 := G
  obtain ⟨⟨⟨ℓ, hRw, hℓ, hℓ1⟩, hr1, hr2, hn12⟩, ⟨e7, e8, e9, hc⟩, eLR, eCh, eNx, eRow⟩ := G
  refine Run.of (Nat.le_of_ble_eq_true rfl) (fun Q hQ => ?_)
  show Wp (Ex (d + 2)) 52 Q 0 [(0, .ref 21), (1, .int (nI p)), (2, .int (nI q))] [] h 0 0
  refine r_iload_n (q52 (i := 0) rfl) rfl ?_
  refine r_if 15 (q52 (i := 1) rfl) (by decide) (fun _ => ?_) (fun c => absurd (show nI p = 0 from (congrArg nI h0 : nI p = nI 0)) c)
  refine r_iconst (v := 0) (q52 (i := 9) rfl) (by decide) ?_
  exact r_iret (q52 (i := 10) rfl) rfl hQ
set_option maxHeartbeats 2000000 in
set_option maxRecDepth 10000 in
theorem mA_1 {d : Nat} {h : hp} (S : Sh h) {ρ n rw : Nat} {γ : gs} (G : GC h ρ n rw γ) (W : gwf n γ) {p q : Nat} (hp : p < 2 * gC γ) (hq : q < 2 * gC γ) (hc3 : gC γ < 973) (h0 : p ≠ 0) (h1 : q = 0) : Run (d + 2 + 1) 52 [.ref 21, .int (nI p), .int (nI q)] h 0 0 (some (.int (nI 0))) h := by
  have G0 := G
  obtain ⟨⟨⟨ℓ, hRw, hℓ, hℓ1⟩, hr1, hr2, hn12⟩, ⟨e7, e8, e9, hc⟩, eLR, eCh, eNx, eRow⟩ := G
  refine Run.of (Nat.le_of_ble_eq_true rfl) (fun Q hQ => ?_)
  show Wp (Ex (d + 2)) 52 Q 0 [(0, .ref 21), (1, .int (nI p)), (2, .int (nI q))] [] h 0 0
  refine r_iload_n (q52 (i := 0) rfl) rfl ?_
  refine r_if 15 (q52 (i := 1) rfl) (by decide) (fun c => absurd c (show ¬ (nI p = 0) from neN (b := 0) (by omega) (by decide) h0)) (fun _ => ?_)
  refine r_iload_n (q52 (i := 2) rfl) rfl ?_
  refine r_if 15 (q52 (i := 3) rfl) (by decide) (fun _ => ?_) (fun c => absurd (show nI q = 0 from (congrArg nI h1 : nI q = nI 0)) c)
  refine r_iconst (v := 0) (q52 (i := 9) rfl) (by decide) ?_
  exact r_iret (q52 (i := 10) rfl) rfl hQ
set_option maxHeartbeats 2000000 in
set_option maxRecDepth 10000 in
theorem mA_2 {d : Nat} {h : hp} (S : Sh h) {ρ n rw : Nat} {γ : gs} (G : GC h ρ n rw γ) (W : gwf n γ) {p q : Nat} (hp : p < 2 * gC γ) (hq : q < 2 * gC γ) (hc3 : gC γ < 973) (h0 : p ≠ 0) (h1 : q ≠ 0) (h2 : p = q ^^^ 1) : Run (d + 2 + 1) 52 [.ref 21, .int (nI p), .int (nI q)] h 0 0 (some (.int (nI 0))) h := by
  have G0 := G
  obtain ⟨⟨⟨ℓ, hRw, hℓ, hℓ1⟩, hr1, hr2, hn12⟩, ⟨e7, e8, e9, hc⟩, eLR, eCh, eNx, eRow⟩ := G
  refine Run.of (Nat.le_of_ble_eq_true rfl) (fun Q hQ => ?_)
  show Wp (Ex (d + 2)) 52 Q 0 [(0, .ref 21), (1, .int (nI p)), (2, .int (nI q))] [] h 0 0
  refine r_iload_n (q52 (i := 0) rfl) rfl ?_
  refine r_if 15 (q52 (i := 1) rfl) (by decide) (fun c => absurd c (show ¬ (nI p = 0) from neN (b := 0) (by omega) (by decide) h0)) (fun _ => ?_)
  refine r_iload_n (q52 (i := 2) rfl) rfl ?_
  refine r_if 15 (q52 (i := 3) rfl) (by decide) (fun c => absurd c (show ¬ (nI q = 0) from neN (b := 0) (by omega) (by decide) h1)) (fun _ => ?_)
  refine r_iload_n (q52 (i := 4) rfl) rfl ?_
  refine r_iload_n (q52 (i := 5) rfl) rfl ?_
  refine r_iconst (v := 1) (q52 (i := 6) rfl) (by decide) ?_
  refine r_ixor (q52 (i := 7) rfl) ?_
  rw [show ((nI q) ^^^ 1 : Int32) = nI (q ^^^ 1) from xor1 q]
  refine r_icmp 17 (q52 (i := 8) rfl) (by decide) (fun c => absurd c (show ¬ (¬ nI p = nI (q ^^^ 1)) from fun z => z (congrArg nI h2))) (fun _ => ?_)
  refine r_iconst (v := 0) (q52 (i := 9) rfl) (by decide) ?_
  exact r_iret (q52 (i := 10) rfl) rfl hQ
set_option maxHeartbeats 2000000 in
set_option maxRecDepth 10000 in
theorem mA_3 {d : Nat} {h : hp} (S : Sh h) {ρ n rw : Nat} {γ : gs} (G : GC h ρ n rw γ) (W : gwf n γ) {p q : Nat} (hp : p < 2 * gC γ) (hq : q < 2 * gC γ) (hc3 : gC γ < 973) (h0 : p ≠ 0) (h1 : q ≠ 0) (h2 : p ≠ q ^^^ 1) (h3 : q = p) : Run (d + 2 + 1) 52 [.ref 21, .int (nI p), .int (nI q)] h 0 0 (some (.int (nI p))) h := by
  have G0 := G
  obtain ⟨⟨⟨ℓ, hRw, hℓ, hℓ1⟩, hr1, hr2, hn12⟩, ⟨e7, e8, e9, hc⟩, eLR, eCh, eNx, eRow⟩ := G
  refine Run.of (Nat.le_of_ble_eq_true rfl) (fun Q hQ => ?_)
  show Wp (Ex (d + 2)) 52 Q 0 [(0, .ref 21), (1, .int (nI p)), (2, .int (nI q))] [] h 0 0
  refine r_iload_n (q52 (i := 0) rfl) rfl ?_
  refine r_if 15 (q52 (i := 1) rfl) (by decide) (fun c => absurd c (show ¬ (nI p = 0) from neN (b := 0) (by omega) (by decide) h0)) (fun _ => ?_)
  refine r_iload_n (q52 (i := 2) rfl) rfl ?_
  refine r_if 15 (q52 (i := 3) rfl) (by decide) (fun c => absurd c (show ¬ (nI q = 0) from neN (b := 0) (by omega) (by decide) h1)) (fun _ => ?_)
  refine r_iload_n (q52 (i := 4) rfl) rfl ?_
  refine r_iload_n (q52 (i := 5) rfl) rfl ?_
  refine r_iconst (v := 1) (q52 (i := 6) rfl) (by decide) ?_
  refine r_ixor (q52 (i := 7) rfl) ?_
  rw [show ((nI q) ^^^ 1 : Int32) = nI (q ^^^ 1) from xor1 q]
  refine r_icmp 17 (q52 (i := 8) rfl) (by decide) (fun _ => ?_) (fun c => absurd (show ¬ nI p = nI (q ^^^ 1) from neN (by omega) (by have := xor1_lt hq; omega) h2) c)
  refine r_iload_n (q52 (i := 11) rfl) rfl ?_
  refine r_iload_n (q52 (i := 12) rfl) rfl ?_
  refine r_icmp 27 (q52 (i := 13) rfl) (by decide) (fun _ => ?_) (fun c => absurd (show nI q = nI p from congrArg nI h3) c)
  refine r_iload_n (q52 (i := 17) rfl) rfl ?_
  exact r_iret (q52 (i := 18) rfl) rfl hQ
set_option maxHeartbeats 2000000 in
set_option maxRecDepth 10000 in
theorem mA_4 {d : Nat} {h : hp} (S : Sh h) {ρ n rw : Nat} {γ : gs} (G : GC h ρ n rw γ) (W : gwf n γ) {p q : Nat} (hp : p < 2 * gC γ) (hq : q < 2 * gC γ) (hc3 : gC γ < 973) (h0 : p ≠ 0) (h1 : q ≠ 0) (h2 : p ≠ q ^^^ 1) (h3 : q ≠ p) (h4 : q = 1) : Run (d + 2 + 1) 52 [.ref 21, .int (nI p), .int (nI q)] h 0 0 (some (.int (nI p))) h := by
  have G0 := G
  obtain ⟨⟨⟨ℓ, hRw, hℓ, hℓ1⟩, hr1, hr2, hn12⟩, ⟨e7, e8, e9, hc⟩, eLR, eCh, eNx, eRow⟩ := G
  refine Run.of (Nat.le_of_ble_eq_true rfl) (fun Q hQ => ?_)
  show Wp (Ex (d + 2)) 52 Q 0 [(0, .ref 21), (1, .int (nI p)), (2, .int (nI q))] [] h 0 0
  refine r_iload_n (q52 (i := 0) rfl) rfl ?_
  refine r_if 15 (q52 (i := 1) rfl) (by decide) (fun c => absurd c (show ¬ (nI p = 0) from neN (b := 0) (by omega) (by decide) h0)) (fun _ => ?_)
  refine r_iload_n (q52 (i := 2) rfl) rfl ?_
  refine r_if 15 (q52 (i := 3) rfl) (by decide) (fun c => absurd c (show ¬ (nI q = 0) from neN (b := 0) (by omega) (by decide) h1)) (fun _ => ?_)
  refine r_iload_n (q52 (i := 4) rfl) rfl ?_
  refine r_iload_n (q52 (i := 5) rfl) rfl ?_
  refine r_iconst (v := 1) (q52 (i := 6) rfl) (by decide) ?_
  refine r_ixor (q52 (i := 7) rfl) ?_
  rw [show ((nI q) ^^^ 1 : Int32) = nI (q ^^^ 1) from xor1 q]
  refine r_icmp 17 (q52 (i := 8) rfl) (by decide) (fun _ => ?_) (fun c => absurd (show ¬ nI p = nI (q ^^^ 1) from neN (by omega) (by have := xor1_lt hq; omega) h2) c)
  refine r_iload_n (q52 (i := 11) rfl) rfl ?_
  refine r_iload_n (q52 (i := 12) rfl) rfl ?_
  refine r_icmp 27 (q52 (i := 13) rfl) (by decide) (fun c => absurd c (show ¬ (nI q = nI p) from neN (by omega) (by omega) h3)) (fun _ => ?_)
  refine r_iload_n (q52 (i := 14) rfl) rfl ?_
  refine r_iconst (v := 1) (q52 (i := 15) rfl) (by decide) ?_
  refine r_icmp 29 (q52 (i := 16) rfl) (by decide) (fun c => absurd c (show ¬ (¬ nI q = 1) from fun z => z (congrArg nI h4))) (fun _ => ?_)
  refine r_iload_n (q52 (i := 17) rfl) rfl ?_
  exact r_iret (q52 (i := 18) rfl) rfl hQ
set_option maxHeartbeats 2000000 in
set_option maxRecDepth 10000 in
theorem mA_5 {d : Nat} {h : hp} (S : Sh h) {ρ n rw : Nat} {γ : gs} (G : GC h ρ n rw γ) (W : gwf n γ) {p q : Nat} (hp : p < 2 * gC γ) (hq : q < 2 * gC γ) (hc3 : gC γ < 973) (h0 : p ≠ 0) (h1 : q ≠ 0) (h2 : p ≠ q ^^^ 1) (h3 : q ≠ p) (h4 : q ≠ 1) (h5 : p = 1) : Run (d + 2 + 1) 52 [.ref 21, .int (nI p), .int (nI q)] h 0 0 (some (.int (nI q))) h := by
  have G0 := G
  obtain ⟨⟨⟨ℓ, hRw, hℓ, hℓ1⟩, hr1, hr2, hn12⟩, ⟨e7, e8, e9, hc⟩, eLR, eCh, eNx, eRow⟩ := G
  refine Run.of (Nat.le_of_ble_eq_true rfl) (fun Q hQ => ?_)
  show Wp (Ex (d + 2)) 52 Q 0 [(0, .ref 21), (1, .int (nI p)), (2, .int (nI q))] [] h 0 0
  refine r_iload_n (q52 (i := 0) rfl) rfl ?_
  refine r_if 15 (q52 (i := 1) rfl) (by decide) (fun c => absurd c (show ¬ (nI p = 0) from neN (b := 0) (by omega) (by decide) h0)) (fun _ => ?_)
  refine r_iload_n (q52 (i := 2) rfl) rfl ?_
  refine r_if 15 (q52 (i := 3) rfl) (by decide) (fun c => absurd c (show ¬ (nI q = 0) from neN (b := 0) (by omega) (by decide) h1)) (fun _ => ?_)
  refine r_iload_n (q52 (i := 4) rfl) rfl ?_
  refine r_iload_n (q52 (i := 5) rfl) rfl ?_
  refine r_iconst (v := 1) (q52 (i := 6) rfl) (by decide) ?_
  refine r_ixor (q52 (i := 7) rfl) ?_
  rw [show ((nI q) ^^^ 1 : Int32) = nI (q ^^^ 1) from xor1 q]
  refine r_icmp 17 (q52 (i := 8) rfl) (by decide) (fun _ => ?_) (fun c => absurd (show ¬ nI p = nI (q ^^^ 1) from neN (by omega) (by have := xor1_lt hq; omega) h2) c)
  refine r_iload_n (q52 (i := 11) rfl) rfl ?_
  refine r_iload_n (q52 (i := 12) rfl) rfl ?_
  refine r_icmp 27 (q52 (i := 13) rfl) (by decide) (fun c => absurd c (show ¬ (nI q = nI p) from neN (by omega) (by omega) h3)) (fun _ => ?_)
  refine r_iload_n (q52 (i := 14) rfl) rfl ?_
  refine r_iconst (v := 1) (q52 (i := 15) rfl) (by decide) ?_
  refine r_icmp 29 (q52 (i := 16) rfl) (by decide) (fun _ => ?_) (fun c => absurd (show ¬ nI q = 1 from neN (b := 1) (by omega) (by decide) h4) c)
  refine r_iload_n (q52 (i := 19) rfl) rfl ?_
  refine r_iconst (v := 1) (q52 (i := 20) rfl) (by decide) ?_
  refine r_icmp 36 (q52 (i := 21) rfl) (by decide) (fun c => absurd c (show ¬ (¬ nI p = 1) from fun z => z (congrArg nI h5))) (fun _ => ?_)
  refine r_iload_n (q52 (i := 22) rfl) rfl ?_
  exact r_iret (q52 (i := 23) rfl) rfl hQ
set_option maxHeartbeats 2000000 in
set_option maxRecDepth 10000 in
theorem mA_6 {d : Nat} {h : hp} (S : Sh h) {ρ n rw : Nat} {γ : gs} (G : GC h ρ n rw γ) (W : gwf n γ) {p q : Nat} (hp : p < 2 * gC γ) (hq : q < 2 * gC γ) (hc3 : gC γ < 973) (h0 : p ≠ 0) (h1 : q ≠ 0) (h2 : p ≠ q ^^^ 1) (h3 : q ≠ p) (h4 : q ≠ 1) (h5 : p ≠ 1) (h6 : p < q) : Run (d + 2 + 1) 52 [.ref 21, .int (nI p), .int (nI q)] h 0 0 (some (.int (nI (gnew n γ p q).1))) (newH h ρ n rw γ p q) := by
  have G0 := G
  obtain ⟨⟨⟨ℓ, hRw, hℓ, hℓ1⟩, hr1, hr2, hn12⟩, ⟨e7, e8, e9, hc⟩, eLR, eCh, eNx, eRow⟩ := G
  refine Run.of (Nat.le_of_ble_eq_true rfl) (fun Q hQ => ?_)
  show Wp (Ex (d + 2)) 52 Q 0 [(0, .ref 21), (1, .int (nI p)), (2, .int (nI q))] [] h 0 0
  refine r_iload_n (q52 (i := 0) rfl) rfl ?_
  refine r_if 15 (q52 (i := 1) rfl) (by decide) (fun c => absurd c (show ¬ (nI p = 0) from neN (b := 0) (by omega) (by decide) h0)) (fun _ => ?_)
  refine r_iload_n (q52 (i := 2) rfl) rfl ?_
  refine r_if 15 (q52 (i := 3) rfl) (by decide) (fun c => absurd c (show ¬ (nI q = 0) from neN (b := 0) (by omega) (by decide) h1)) (fun _ => ?_)
  refine r_iload_n (q52 (i := 4) rfl) rfl ?_
  refine r_iload_n (q52 (i := 5) rfl) rfl ?_
  refine r_iconst (v := 1) (q52 (i := 6) rfl) (by decide) ?_
  refine r_ixor (q52 (i := 7) rfl) ?_
  rw [show ((nI q) ^^^ 1 : Int32) = nI (q ^^^ 1) from xor1 q]
  refine r_icmp 17 (q52 (i := 8) rfl) (by decide) (fun _ => ?_) (fun c => absurd (show ¬ nI p = nI (q ^^^ 1) from neN (by omega) (by have := xor1_lt hq; omega) h2) c)
  refine r_iload_n (q52 (i := 11) rfl) rfl ?_
  refine r_iload_n (q52 (i := 12) rfl) rfl ?_
  refine r_icmp 27 (q52 (i := 13) rfl) (by decide) (fun c => absurd c (show ¬ (nI q = nI p) from neN (by omega) (by omega) h3)) (fun _ => ?_)
  refine r_iload_n (q52 (i := 14) rfl) rfl ?_
  refine r_iconst (v := 1) (q52 (i := 15) rfl) (by decide) ?_
  refine r_icmp 29 (q52 (i := 16) rfl) (by decide) (fun _ => ?_) (fun c => absurd (show ¬ nI q = 1 from neN (b := 1) (by omega) (by decide) h4) c)
  refine r_iload_n (q52 (i := 19) rfl) rfl ?_
  refine r_iconst (v := 1) (q52 (i := 20) rfl) (by decide) ?_
  refine r_icmp 36 (q52 (i := 21) rfl) (by decide) (fun _ => ?_) (fun c => absurd (show ¬ nI p = 1 from neN (b := 1) (by omega) (by decide) h5) c)
  refine r_iload_n (q52 (i := 24) rfl) rfl ?_
  refine r_iload_n (q52 (i := 25) rfl) rfl ?_
  refine r_min (q52 (i := 26) rfl) rfl (Nat.le_of_ble_eq_true rfl) ?_
  rw [show (if (nI q) < (nI p) then (nI q) else (nI p) : Int32) = nI p from if_neg (nI_nlt (by omega) (by omega))]
  refine r_istore_n (ls' := [(3, .int (nI p)), (0, .ref 21), (1, .int (nI p)), (2, .int (nI q))]) (q52 (i := 27) rfl) (Nat.le_of_ble_eq_true rfl) rfl ?_
  refine r_iload_n (q52 (i := 28) rfl) rfl ?_
  refine r_iload_n (q52 (i := 29) rfl) rfl ?_
  refine r_max (q52 (i := 30) rfl) rfl (Nat.le_of_ble_eq_true rfl) ?_
  rw [show (if (nI p) < (nI q) then (nI q) else (nI p) : Int32) = nI q from if_pos (nI_lt h6 (by omega))]
  refine r_istore (ls' := [(4, .int (nI q)), (3, .int (nI p)), (0, .ref 21), (1, .int (nI p)), (2, .int (nI q))]) (q52 (i := 31) rfl) (Nat.le_of_ble_eq_true rfl) rfl ?_
  refine r_aload_n (q52 (i := 32) rfl) rfl ?_
  refine r_getR (b := 24) (q52 (i := 33) rfl) rfl (by decide) (k_21 S) (fun _ _ _ => rfl) (r_21_4 S) ?_
  refine r_iload_n (q52 (i := 34) rfl) rfl ?_
  refine r_iaN (x := nI (prv n (gL γ) p (gC γ))) (q52 (i := 35) rfl) (k_24 S) (by omega) (by decide) (eCh p (by omega)) ?_
  refine r_istore (ls' := [(5, .int (nI (prv n (gL γ) p (gC γ)))), (4, .int (nI q)), (3, .int (nI p)), (0, .ref 21), (1, .int (nI p)), (2, .int (nI q))]) (q52 (i := 36) rfl) (Nat.le_of_ble_eq_true rfl) rfl ?_
  refine r_iconst (v := 0) (q52 (i := 37) rfl) (by decide) ?_
  refine r_istore (ls' := [(6, .int 0), (5, .int (nI (prv n (gL γ) p (gC γ)))), (4, .int (nI q)), (3, .int (nI p)), (0, .ref 21), (1, .int (nI p)), (2, .int (nI q))]) (q52 (i := 38) rfl) (Nat.le_of_ble_eq_true rfl) rfl ?_
  exact lp_makeAnd S G0 W h6 (by omega) hc3 hQ (gC γ) 0 (Nat.le_refl _) (by omega) rfl _ rfl rfl rfl rfl rfl
set_option maxHeartbeats 2000000 in
set_option maxRecDepth 10000 in
theorem mA_7 {d : Nat} {h : hp} (S : Sh h) {ρ n rw : Nat} {γ : gs} (G : GC h ρ n rw γ) (W : gwf n γ) {p q : Nat} (hp : p < 2 * gC γ) (hq : q < 2 * gC γ) (hc3 : gC γ < 973) (h0 : p ≠ 0) (h1 : q ≠ 0) (h2 : p ≠ q ^^^ 1) (h3 : q ≠ p) (h4 : q ≠ 1) (h5 : p ≠ 1) (h6 : q < p) : Run (d + 2 + 1) 52 [.ref 21, .int (nI p), .int (nI q)] h 0 0 (some (.int (nI (gnew n γ q p).1))) (newH h ρ n rw γ q p) := by
  have G0 := G
  obtain ⟨⟨⟨ℓ, hRw, hℓ, hℓ1⟩, hr1, hr2, hn12⟩, ⟨e7, e8, e9, hc⟩, eLR, eCh, eNx, eRow⟩ := G
  refine Run.of (Nat.le_of_ble_eq_true rfl) (fun Q hQ => ?_)
  show Wp (Ex (d + 2)) 52 Q 0 [(0, .ref 21), (1, .int (nI p)), (2, .int (nI q))] [] h 0 0
  refine r_iload_n (q52 (i := 0) rfl) rfl ?_
  refine r_if 15 (q52 (i := 1) rfl) (by decide) (fun c => absurd c (show ¬ (nI p = 0) from neN (b := 0) (by omega) (by decide) h0)) (fun _ => ?_)
  refine r_iload_n (q52 (i := 2) rfl) rfl ?_
  refine r_if 15 (q52 (i := 3) rfl) (by decide) (fun c => absurd c (show ¬ (nI q = 0) from neN (b := 0) (by omega) (by decide) h1)) (fun _ => ?_)
  refine r_iload_n (q52 (i := 4) rfl) rfl ?_
  refine r_iload_n (q52 (i := 5) rfl) rfl ?_
  refine r_iconst (v := 1) (q52 (i := 6) rfl) (by decide) ?_
  refine r_ixor (q52 (i := 7) rfl) ?_
  rw [show ((nI q) ^^^ 1 : Int32) = nI (q ^^^ 1) from xor1 q]
  refine r_icmp 17 (q52 (i := 8) rfl) (by decide) (fun _ => ?_) (fun c => absurd (show ¬ nI p = nI (q ^^^ 1) from neN (by omega) (by have := xor1_lt hq; omega) h2) c)
  refine r_iload_n (q52 (i := 11) rfl) rfl ?_
  refine r_iload_n (q52 (i := 12) rfl) rfl ?_
  refine r_icmp 27 (q52 (i := 13) rfl) (by decide) (fun c => absurd c (show ¬ (nI q = nI p) from neN (by omega) (by omega) h3)) (fun _ => ?_)
  refine r_iload_n (q52 (i := 14) rfl) rfl ?_
  refine r_iconst (v := 1) (q52 (i := 15) rfl) (by decide) ?_
  refine r_icmp 29 (q52 (i := 16) rfl) (by decide) (fun _ => ?_) (fun c => absurd (show ¬ nI q = 1 from neN (b := 1) (by omega) (by decide) h4) c)
  refine r_iload_n (q52 (i := 19) rfl) rfl ?_
  refine r_iconst (v := 1) (q52 (i := 20) rfl) (by decide) ?_
  refine r_icmp 36 (q52 (i := 21) rfl) (by decide) (fun _ => ?_) (fun c => absurd (show ¬ nI p = 1 from neN (b := 1) (by omega) (by decide) h5) c)
  refine r_iload_n (q52 (i := 24) rfl) rfl ?_
  refine r_iload_n (q52 (i := 25) rfl) rfl ?_
  refine r_min (q52 (i := 26) rfl) rfl (Nat.le_of_ble_eq_true rfl) ?_
  rw [show (if (nI q) < (nI p) then (nI q) else (nI p) : Int32) = nI q from if_pos (nI_lt h6 (by omega))]
  refine r_istore_n (ls' := [(3, .int (nI q)), (0, .ref 21), (1, .int (nI p)), (2, .int (nI q))]) (q52 (i := 27) rfl) (Nat.le_of_ble_eq_true rfl) rfl ?_
  refine r_iload_n (q52 (i := 28) rfl) rfl ?_
  refine r_iload_n (q52 (i := 29) rfl) rfl ?_
  refine r_max (q52 (i := 30) rfl) rfl (Nat.le_of_ble_eq_true rfl) ?_
  rw [show (if (nI p) < (nI q) then (nI q) else (nI p) : Int32) = nI p from if_neg (nI_nlt (by omega) (by omega))]
  refine r_istore (ls' := [(4, .int (nI p)), (3, .int (nI q)), (0, .ref 21), (1, .int (nI p)), (2, .int (nI q))]) (q52 (i := 31) rfl) (Nat.le_of_ble_eq_true rfl) rfl ?_
  refine r_aload_n (q52 (i := 32) rfl) rfl ?_
  refine r_getR (b := 24) (q52 (i := 33) rfl) rfl (by decide) (k_21 S) (fun _ _ _ => rfl) (r_21_4 S) ?_
  refine r_iload_n (q52 (i := 34) rfl) rfl ?_
  refine r_iaN (x := nI (prv n (gL γ) q (gC γ))) (q52 (i := 35) rfl) (k_24 S) (by omega) (by decide) (eCh q (by omega)) ?_
  refine r_istore (ls' := [(5, .int (nI (prv n (gL γ) q (gC γ)))), (4, .int (nI p)), (3, .int (nI q)), (0, .ref 21), (1, .int (nI p)), (2, .int (nI q))]) (q52 (i := 36) rfl) (Nat.le_of_ble_eq_true rfl) rfl ?_
  refine r_iconst (v := 0) (q52 (i := 37) rfl) (by decide) ?_
  refine r_istore (ls' := [(6, .int 0), (5, .int (nI (prv n (gL γ) q (gC γ)))), (4, .int (nI p)), (3, .int (nI q)), (0, .ref 21), (1, .int (nI p)), (2, .int (nI q))]) (q52 (i := 38) rfl) (Nat.le_of_ble_eq_true rfl) rfl ?_
  exact lp_makeAnd S G0 W h6 (by omega) hc3 hQ (gC γ) 0 (Nat.le_refl _) (by omega) rfl _ rfl rfl rfl rfl rfl
theorem sp_makeAnd {d : Nat} {h : hp} (S : Sh h) {ρ n rw : Nat} {γ : gs} (G : GC h ρ n rw γ) (W : gwf n γ) {p q : Nat} (hp : p < 2 * gC γ) (hq : q < 2 * gC γ) (hc3 : gC γ < 973) : ∃ h', Run (d + 2 + 1) 52 [.ref 21, .int (nI p), .int (nI q)] h 0 0 (some (.int (nI (gand n γ p q).1))) h' ∧ GC h' ρ n rw (gand n γ p q).2 ∧ FrG ρ h h' := by
  unfold gand
  by_cases h0 : p = 0
  · rw [if_pos (Or.inl h0)]; exact ⟨h, mA_0 S G W hp hq hc3 h0, G, FrG.rf ρ h⟩
  · by_cases h1 : q = 0
    · rw [if_pos (Or.inr (Or.inl h1))]; exact ⟨h, mA_1 S G W hp hq hc3 h0 h1, G, FrG.rf ρ h⟩
    · by_cases h2 : p = q ^^^ 1
      · rw [if_pos (Or.inr (Or.inr h2))]; exact ⟨h, mA_2 S G W hp hq hc3 h0 h1 h2, G, FrG.rf ρ h⟩
      · rw [if_neg (fun z => by rcases z with z | z | z; exact h0 z; exact h1 z; exact h2 z)]
        by_cases h3 : q = p
        · rw [if_pos (Or.inl h3)]; exact ⟨h, mA_3 S G W hp hq hc3 h0 h1 h2 h3, G, FrG.rf ρ h⟩
        · by_cases h4 : q = 1
          · rw [if_pos (Or.inr h4)]; exact ⟨h, mA_4 S G W hp hq hc3 h0 h1 h2 h3 h4, G, FrG.rf ρ h⟩
          · rw [if_neg (fun z => by rcases z with z | z; exact h3 z; exact h4 z)]
            by_cases h5 : p = 1
            · rw [if_pos h5]; exact ⟨h, mA_5 S G W hp hq hc3 h0 h1 h2 h3 h4 h5, G, FrG.rf ρ h⟩
            · rw [if_neg h5]
              by_cases h6 : p < q
              · rw [if_pos h6]; exact ⟨_, mA_6 S G W hp hq hc3 h0 h1 h2 h3 h4 h5 h6, newH_ok G W h6 hq hc3⟩
              · rw [if_neg h6]; exact ⟨_, mA_7 S G W hp hq hc3 h0 h1 h2 h3 h4 h5 (by omega), newH_ok G W (by omega) hp hc3⟩
end
section
/-! ===== gates, pure ===== -/
def gchoice (n : Nat) (γ : gs) (a b c : Nat) : Nat × gs := ((gand n (gand n (gand n γ a b).2 (a ^^^ 1) c).2 ((gand n γ a b).1 ^^^ 1) ((gand n (gand n γ a b).2 (a ^^^ 1) c).1 ^^^ 1)).1 ^^^ 1, (gand n (gand n (gand n γ a b).2 (a ^^^ 1) c).2 ((gand n γ a b).1 ^^^ 1) ((gand n (gand n γ a b).2 (a ^^^ 1) c).1 ^^^ 1)).2)
def gmaj (n : Nat) (γ : gs) (a b c : Nat) : Nat × gs :=
  let r1 := gand n γ a b
  let r2 := gand n r1.2 (a ^^^ 1) (b ^^^ 1)
  let r3 := gand n r2.2 c (r2.1 ^^^ 1)
  let r4 := gand n r3.2 (r1.1 ^^^ 1) (r3.1 ^^^ 1)
  (r4.1 ^^^ 1, r4.2)
def gnot (r : Nat × gs) : Nat × gs := (r.1 ^^^ 1, r.2)
def gkind (n : Nat) (γ : gs) (kd a b c : Nat) : Nat × gs :=
  if kd = 0 then gand n γ a b else if kd = 1 then gnot (gand n γ (a ^^^ 1) (b ^^^ 1)) else if kd = 2 then gchoice n γ a (b ^^^ 1) b else if kd = 3 then gnot (gand n γ a b) else if kd = 4 then gand n γ (a ^^^ 1) (b ^^^ 1)
  else if kd = 5 then gnot (gchoice n γ a (b ^^^ 1) b) else if kd = 6 then gchoice n γ a b c else if kd = 7 then gmaj n γ a b c else (0, γ)
/-- what a step of the graph keeps: it's a graph, the LITERAL is in it, it has grown by k at most -/
def gok (n : Nat) (γ : gs) (k : Nat) (r : Nat × gs) : Prop := gwf n r.2 ∧ r.1 < 2 * gC r.2 ∧ gC γ ≤ gC r.2 ∧ gC r.2 ≤ gC γ + k
theorem gok_and {n : Nat} {γ : gs} {p q : Nat} (h : gwf n γ) (hp : p < 2 * gC γ) (hq : q < 2 * gC γ) : gok n γ 1 (gand n γ p q) := gand_facts h hp hq
theorem gok_not {n : Nat} {γ : gs} {k : Nat} {r : Nat × gs} (h : gok n γ k r) : gok n γ k (gnot r) := ⟨h.1, xor1_lt h.2.1, h.2.2⟩
theorem gok_choice {n : Nat} {γ : gs} {a b c : Nat} (h : gwf n γ) (ha : a < 2 * gC γ) (hb : b < 2 * gC γ) (hc : c < 2 * gC γ) : gok n γ 3 (gchoice n γ a b c) := by
  obtain ⟨w1, l1, u1, v1⟩ := gok_and h ha hb
  obtain ⟨w2, l2, u2, v2⟩ := gok_and (n := n) (γ := (gand n γ a b).2) (p := a ^^^ 1) (q := c) w1 (by have := xor1_lt ha; omega) (by omega)
  obtain ⟨w3, l3, u3, v3⟩ := gok_and (n := n) (γ := (gand n (gand n γ a b).2 (a ^^^ 1) c).2) (p := (gand n γ a b).1 ^^^ 1) (q := (gand n (gand n γ a b).2 (a ^^^ 1) c).1 ^^^ 1) w2 (by have := xor1_lt l1; omega) (xor1_lt l2)
  exact ⟨w3, xor1_lt l3, by show _ ≤ gC (gchoice n γ a b c).2; unfold gchoice; dsimp only; omega, by show gC (gchoice n γ a b c).2 ≤ _; unfold gchoice; dsimp only; omega⟩
theorem gok_maj {n : Nat} {γ : gs} {a b c : Nat} (h : gwf n γ) (ha : a < 2 * gC γ) (hb : b < 2 * gC γ) (hc : c < 2 * gC γ) : gok n γ 4 (gmaj n γ a b c) := by
  unfold gmaj
  dsimp only
  obtain ⟨w1, l1, u1, v1⟩ := gok_and h ha hb
  generalize gand n γ a b = r1 at *
  obtain ⟨w2, l2, u2, v2⟩ := gok_and (n := n) (γ := r1.2) (p := a ^^^ 1) (q := b ^^^ 1) w1 (by have := xor1_lt ha; omega) (by have := xor1_lt hb; omega)
  generalize gand n r1.2 (a ^^^ 1) (b ^^^ 1) = r2 at *
  obtain ⟨w3, l3, u3, v3⟩ := gok_and (n := n) (γ := r2.2) (p := c) (q := r2.1 ^^^ 1) w2 (by omega) (xor1_lt l2)
  generalize gand n r2.2 c (r2.1 ^^^ 1) = r3 at *
  obtain ⟨w4, l4, u4, v4⟩ := gok_and (n := n) (γ := r3.2) (p := r1.1 ^^^ 1) (q := r3.1 ^^^ 1) w3 (by have := xor1_lt l1; omega) (xor1_lt l3)
  exact ⟨w4, xor1_lt l4, by dsimp only; omega, by dsimp only; omega⟩
theorem gok_more {n : Nat} {γ : gs} {k k' : Nat} {r : Nat × gs} (h : gok n γ k r) (hk : k ≤ k') : gok n γ k' r := ⟨h.1, h.2.1, h.2.2.1, by have := h.2.2.2; omega⟩
theorem gok_kind {n : Nat} {γ : gs} (kd : Nat) {a b c : Nat} (h : gwf n γ) (ha : a < 2 * gC γ) (hb : b < 2 * gC γ) (hc : c < 2 * gC γ) : gok n γ 4 (gkind n γ kd a b c) := by
  unfold gkind
  split
  · exact gok_more (gok_and h ha hb) (by decide)
  · split
    · exact gok_more (gok_not (gok_and h (xor1_lt ha) (xor1_lt hb))) (by decide)
    · split
      · exact gok_more (gok_choice h ha (xor1_lt hb) hb) (by decide)
      · split
        · exact gok_more (gok_not (gok_and h ha hb)) (by decide)
        · split
          · exact gok_more (gok_and h (xor1_lt ha) (xor1_lt hb)) (by decide)
          · split
            · exact gok_more (gok_not (gok_choice h ha (xor1_lt hb) hb)) (by decide)
            · split
              · exact gok_more (gok_choice h ha hb hc) (by decide)
              · split
                · exact gok_maj h ha hb hc
                · exact ⟨h, by have := h.1; show 0 < 2 * gC γ; omega, Nat.le_refl _, by show gC γ ≤ gC γ + 4; omega⟩
set_option maxHeartbeats 2000000 in
set_option maxRecDepth 10000 in
theorem sp_makeChoice {d : Nat} {h : hp} (S : Sh h) {ρ n rw : Nat} {γ : gs} (G : GC h ρ n rw γ) (W : gwf n γ) {a b c : Nat} (ha : a < 2 * gC γ) (hb : b < 2 * gC γ) (hc : c < 2 * gC γ) (hc3 : gC γ + 2 < 973) : ∃ h', Run (d + 3 + 1) 50 [.ref 21, .int (nI a), .int (nI b), .int (nI c)] h 0 0 (some (.int (nI (gchoice n γ a b c).1))) h' ∧ GC h' ρ n rw (gchoice n γ a b c).2 ∧ FrG ρ h h' := by
  have xa := xor1_lt ha
  obtain ⟨h1, R1, G1, F1⟩ := sp_makeAnd (d := d) S G W ha hb (by omega)
  obtain ⟨W1, t1, u1, v1⟩ := gok_and W ha hb
  unfold gchoice
  generalize gand n γ a b = r1 at *
  have S1 := S.to F1.1
  obtain ⟨h2, R2, G2, F2⟩ := sp_makeAnd (d := d) (p := a ^^^ 1) (q := c) S1 G1 W1 (by omega) (by omega) (by omega)
  obtain ⟨W2, t2, u2, v2⟩ := gok_and (n := n) (p := a ^^^ 1) (q := c) W1 (by omega) (by omega)
  generalize gand n r1.2 (a ^^^ 1) c = r2 at *
  have S2 := S1.to F2.1
  have x1 := xor1_lt t1
  have x2 := xor1_lt t2
  obtain ⟨h3, R3, G3, F3⟩ := sp_makeAnd (d := d) (p := r1.1 ^^^ 1) (q := r2.1 ^^^ 1) S2 G2 W2 (by omega) (by omega) (by omega)
  generalize gand n r2.2 (r1.1 ^^^ 1) (r2.1 ^^^ 1) = r3 at *
  refine ⟨h3, ?_, G3, (F1.tr F2).tr F3⟩
  refine Run.of (Nat.le_of_ble_eq_true rfl) (fun Q hQ => ?_)
  show Wp (Ex (d + 3)) 50 Q 0 [(0, .ref 21), (1, .int (nI a)), (2, .int (nI b)), (3, .int (nI c))] [] h 0 0
  refine r_aload_n (q50 (i := 0) rfl) rfl ?_
  refine r_iload_n (q50 (i := 1) rfl) rfl ?_
  refine r_iload_n (q50 (i := 2) rfl) rfl ?_
  refine r_cV (d := _) (q50 (i := 3) rfl) rfl rfl rfl (k_21 S) (Nat.le_of_ble_eq_true rfl) (Nat.zero_le _) (Nat.zero_le _) R1 ?_
  show Wp _ _ _ 6 [(0, .ref 21), (1, .int (nI a)), (2, .int (nI b)), (3, .int (nI c))] [.int (nI r1.1)] h1 _ _
  refine r_istore (ls' := [(4, .int (nI r1.1)), (0, .ref 21), (1, .int (nI a)), (2, .int (nI b)), (3, .int (nI c))]) (q50 (i := 4) rfl) (Nat.le_of_ble_eq_true rfl) rfl ?_
  refine r_aload_n (q50 (i := 5) rfl) rfl ?_
  refine r_iload_n (q50 (i := 6) rfl) rfl ?_
  refine r_iconst (v := 1) (q50 (i := 7) rfl) (by decide) ?_
  refine r_ixor (q50 (i := 8) rfl) ?_
  rw [show ((nI a) ^^^ 1 : Int32) = nI (a ^^^ 1) from xor1 _]
  refine r_iload_n (q50 (i := 9) rfl) rfl ?_
  refine r_cV (d := _) (q50 (i := 10) rfl) rfl rfl rfl (k_21 S1) (Nat.le_of_ble_eq_true rfl) (Nat.zero_le _) (Nat.zero_le _) R2 ?_
  show Wp _ _ _ 16 [(4, .int (nI r1.1)), (0, .ref 21), (1, .int (nI a)), (2, .int (nI b)), (3, .int (nI c))] [.int (nI r2.1)] h2 _ _
  refine r_istore (ls' := [(5, .int (nI r2.1)), (4, .int (nI r1.1)), (0, .ref 21), (1, .int (nI a)), (2, .int (nI b)), (3, .int (nI c))]) (q50 (i := 11) rfl) (Nat.le_of_ble_eq_true rfl) rfl ?_
  refine r_aload_n (q50 (i := 12) rfl) rfl ?_
  refine r_iload (q50 (i := 13) rfl) rfl ?_
  refine r_iconst (v := 1) (q50 (i := 14) rfl) (by decide) ?_
  refine r_ixor (q50 (i := 15) rfl) ?_
  rw [show ((nI r1.1) ^^^ 1 : Int32) = nI (r1.1 ^^^ 1) from xor1 _]
  refine r_iload (q50 (i := 16) rfl) rfl ?_
  refine r_iconst (v := 1) (q50 (i := 17) rfl) (by decide) ?_
  refine r_ixor (q50 (i := 18) rfl) ?_
  rw [show ((nI r2.1) ^^^ 1 : Int32) = nI (r2.1 ^^^ 1) from xor1 _]
  refine r_cV (d := _) (q50 (i := 19) rfl) rfl rfl rfl (k_21 S2) (Nat.le_of_ble_eq_true rfl) (Nat.zero_le _) (Nat.zero_le _) R3 ?_
  show Wp _ _ _ 30 [(5, .int (nI r2.1)), (4, .int (nI r1.1)), (0, .ref 21), (1, .int (nI a)), (2, .int (nI b)), (3, .int (nI c))] [.int (nI r3.1)] h3 _ _
  refine r_iconst (v := 1) (q50 (i := 20) rfl) (by decide) ?_
  refine r_ixor (q50 (i := 21) rfl) ?_
  rw [show ((nI r3.1) ^^^ 1 : Int32) = nI (r3.1 ^^^ 1) from xor1 _]
  exact r_iret (q50 (i := 22) rfl) rfl hQ
set_option maxHeartbeats 2000000 in
set_option maxRecDepth 10000 in
theorem sp_makeMajority {d : Nat} {h : hp} (S : Sh h) {ρ n rw : Nat} {γ : gs} (G : GC h ρ n rw γ) (W : gwf n γ) {a b c : Nat} (ha : a < 2 * gC γ) (hb : b < 2 * gC γ) (hc : c < 2 * gC γ) (hc3 : gC γ + 3 < 973) : ∃ h', Run (d + 3 + 1) 51 [.ref 21, .int (nI a), .int (nI b), .int (nI c)] h 0 0 (some (.int (nI (gmaj n γ a b c).1))) h' ∧ GC h' ρ n rw (gmaj n γ a b c).2 ∧ FrG ρ h h' := by
  have xa := xor1_lt ha
  have xb := xor1_lt hb
  obtain ⟨h1, R1, G1, F1⟩ := sp_makeAnd (d := d) S G W ha hb (by omega)
  obtain ⟨W1, t1, u1, v1⟩ := gok_and W ha hb
  unfold gmaj
  dsimp only
  generalize gand n γ a b = r1 at *
  have S1 := S.to F1.1
  obtain ⟨h2, R2, G2, F2⟩ := sp_makeAnd (d := d) (p := a ^^^ 1) (q := b ^^^ 1) S1 G1 W1 (by omega) (by omega) (by omega)
  obtain ⟨W2, t2, u2, v2⟩ := gok_and (n := n) (p := a ^^^ 1) (q := b ^^^ 1) W1 (by omega) (by omega)
  generalize gand n r1.2 (a ^^^ 1) (b ^^^ 1) = r2 at *
  have S2 := S1.to F2.1
  have x1 := xor1_lt t1
  have x2 := xor1_lt t2
  obtain ⟨h3, R3, G3, F3⟩ := sp_makeAnd (d := d) (p := c) (q := r2.1 ^^^ 1) S2 G2 W2 (by omega) (by omega) (by omega)
  obtain ⟨W3, t3, u3, v3⟩ := gok_and (n := n) (p := c) (q := r2.1 ^^^ 1) W2 (by omega) (by omega)
  generalize gand n r2.2 c (r2.1 ^^^ 1) = r3 at *
  have S3 := S2.to F3.1
  have x3 := xor1_lt t3
  obtain ⟨h4, R4, G4, F4⟩ := sp_makeAnd (d := d) (p := r1.1 ^^^ 1) (q := r3.1 ^^^ 1) S3 G3 W3 (by omega) (by omega) (by omega)
  generalize gand n r3.2 (r1.1 ^^^ 1) (r3.1 ^^^ 1) = r4 at *
  refine ⟨h4, ?_, G4, ((F1.tr F2).tr F3).tr F4⟩
  refine Run.of (Nat.le_of_ble_eq_true rfl) (fun Q hQ => ?_)
  show Wp (Ex (d + 3)) 51 Q 0 [(0, .ref 21), (1, .int (nI a)), (2, .int (nI b)), (3, .int (nI c))] [] h 0 0
  refine r_aload_n (q51 (i := 0) rfl) rfl ?_
  refine r_iload_n (q51 (i := 1) rfl) rfl ?_
  refine r_iload_n (q51 (i := 2) rfl) rfl ?_
  refine r_cV (d := _) (q51 (i := 3) rfl) rfl rfl rfl (k_21 S) (Nat.le_of_ble_eq_true rfl) (Nat.zero_le _) (Nat.zero_le _) R1 ?_
  show Wp _ _ _ 6 [(0, .ref 21), (1, .int (nI a)), (2, .int (nI b)), (3, .int (nI c))] [.int (nI r1.1)] h1 _ _
  refine r_istore (ls' := [(4, .int (nI r1.1)), (0, .ref 21), (1, .int (nI a)), (2, .int (nI b)), (3, .int (nI c))]) (q51 (i := 4) rfl) (Nat.le_of_ble_eq_true rfl) rfl ?_
  refine r_aload_n (q51 (i := 5) rfl) rfl ?_
  refine r_iload_n (q51 (i := 6) rfl) rfl ?_
  refine r_iconst (v := 1) (q51 (i := 7) rfl) (by decide) ?_
  refine r_ixor (q51 (i := 8) rfl) ?_
  rw [show ((nI a) ^^^ 1 : Int32) = nI (a ^^^ 1) from xor1 _]
  refine r_iload_n (q51 (i := 9) rfl) rfl ?_
  refine r_iconst (v := 1) (q51 (i := 10) rfl) (by decide) ?_
  refine r_ixor (q51 (i := 11) rfl) ?_
  rw [show ((nI b) ^^^ 1 : Int32) = nI (b ^^^ 1) from xor1 _]
  refine r_cV (d := _) (q51 (i := 12) rfl) rfl rfl rfl (k_21 S1) (Nat.le_of_ble_eq_true rfl) (Nat.zero_le _) (Nat.zero_le _) R2 ?_
  show Wp _ _ _ 18 [(4, .int (nI r1.1)), (0, .ref 21), (1, .int (nI a)), (2, .int (nI b)), (3, .int (nI c))] [.int (nI r2.1)] h2 _ _
  refine r_istore (ls' := [(5, .int (nI r2.1)), (4, .int (nI r1.1)), (0, .ref 21), (1, .int (nI a)), (2, .int (nI b)), (3, .int (nI c))]) (q51 (i := 13) rfl) (Nat.le_of_ble_eq_true rfl) rfl ?_
  refine r_aload_n (q51 (i := 14) rfl) rfl ?_
  refine r_iload_n (q51 (i := 15) rfl) rfl ?_
  refine r_iload (q51 (i := 16) rfl) rfl ?_
  refine r_iconst (v := 1) (q51 (i := 17) rfl) (by decide) ?_
  refine r_ixor (q51 (i := 18) rfl) ?_
  rw [show ((nI r2.1) ^^^ 1 : Int32) = nI (r2.1 ^^^ 1) from xor1 _]
  refine r_cV (d := _) (q51 (i := 19) rfl) rfl rfl rfl (k_21 S2) (Nat.le_of_ble_eq_true rfl) (Nat.zero_le _) (Nat.zero_le _) R3 ?_
  show Wp _ _ _ 29 [(5, .int (nI r2.1)), (4, .int (nI r1.1)), (0, .ref 21), (1, .int (nI a)), (2, .int (nI b)), (3, .int (nI c))] [.int (nI r3.1)] h3 _ _
  refine r_istore (ls' := [(6, .int (nI r3.1)), (5, .int (nI r2.1)), (4, .int (nI r1.1)), (0, .ref 21), (1, .int (nI a)), (2, .int (nI b)), (3, .int (nI c))]) (q51 (i := 20) rfl) (Nat.le_of_ble_eq_true rfl) rfl ?_
  refine r_aload_n (q51 (i := 21) rfl) rfl ?_
  refine r_iload (q51 (i := 22) rfl) rfl ?_
  refine r_iconst (v := 1) (q51 (i := 23) rfl) (by decide) ?_
  refine r_ixor (q51 (i := 24) rfl) ?_
  rw [show ((nI r1.1) ^^^ 1 : Int32) = nI (r1.1 ^^^ 1) from xor1 _]
  refine r_iload (q51 (i := 25) rfl) rfl ?_
  refine r_iconst (v := 1) (q51 (i := 26) rfl) (by decide) ?_
  refine r_ixor (q51 (i := 27) rfl) ?_
  rw [show ((nI r3.1) ^^^ 1 : Int32) = nI (r3.1 ^^^ 1) from xor1 _]
  refine r_cV (d := _) (q51 (i := 28) rfl) rfl rfl rfl (k_21 S3) (Nat.le_of_ble_eq_true rfl) (Nat.zero_le _) (Nat.zero_le _) R4 ?_
  show Wp _ _ _ 43 [(6, .int (nI r3.1)), (5, .int (nI r2.1)), (4, .int (nI r1.1)), (0, .ref 21), (1, .int (nI a)), (2, .int (nI b)), (3, .int (nI c))] [.int (nI r4.1)] h4 _ _
  refine r_iconst (v := 1) (q51 (i := 29) rfl) (by decide) ?_
  refine r_ixor (q51 (i := 30) rfl) ?_
  rw [show ((nI r4.1) ^^^ 1 : Int32) = nI (r4.1 ^^^ 1) from xor1 _]
  exact r_iret (q51 (i := 31) rfl) rfl hQ
set_option maxHeartbeats 2000000 in
set_option maxRecDepth 10000 in
theorem sp_makeKind {d : Nat} {h : hp} (S : Sh h) {ρ n rw : Nat} {γ : gs} (G : GC h ρ n rw γ) (W : gwf n γ) {a b c : Nat} (ha : a < 2 * gC γ) (hb : b < 2 * gC γ) (hc : c < 2 * gC γ) (hc3 : gC γ + 3 < 973) (kd : Nat) (hkd : kd ≤ 8) {av bv cv : Int32} (hab : kd ≠ 8 → av = nI a ∧ bv = nI b) (hcv : kd = 6 ∨ kd = 7 → cv = nI c) : ∃ h', Run (d + 4 + 1) 49 [.ref 21, .int (nI kd), .int av, .int bv, .int cv] h 0 0 (some (.int (nI (gkind n γ kd a b c).1))) h' ∧ GC h' ρ n rw (gkind n γ kd a b c).2 ∧ FrG ρ h h' := by
  have xa := xor1_lt ha
  have xb := xor1_lt hb
  rcases (show kd = 0 ∨ kd = 1 ∨ kd = 2 ∨ kd = 3 ∨ kd = 4 ∨ kd = 5 ∨ kd = 6 ∨ kd = 7 ∨ kd = 8 by omega) with rfl | rfl | rfl | rfl | rfl | rfl | rfl | rfl | rfl
  · obtain ⟨rfl, rfl⟩ := hab (by decide)
    obtain ⟨h1, R1, G1, F1⟩ := sp_makeAnd (d := d + 1) S G W ha hb (by omega)
    have S1 := S.to F1.1
    show ∃ h', Run (d + 4 + 1) 49 _ h 0 0 (some (.int (nI (gand n γ a b).1))) h' ∧ GC h' ρ n rw (gand n γ a b).2 ∧ FrG ρ h h'
    generalize gand n γ a b = r1 at *
    refine ⟨h1, ?_, G1, F1⟩
    refine Run.of (Nat.le_of_ble_eq_true rfl) (fun Q hQ => ?_)
    show Wp (Ex (d + 4)) 49 Q 0 [(0, .ref 21), (1, .int (nI 0)), (2, .int (nI a)), (3, .int (nI b)), (4, .int cv)] [] h 0 0
    refine r_iload_n (q49 (i := 0) rfl) rfl ?_
    refine r_swIn (off := 47) 48 (q49 (i := 1) rfl) (by decide) (by decide) (by decide) (by decide) ?_
    refine r_aload_n (q49 (i := 2) rfl) rfl ?_
    refine r_iload_n (q49 (i := 3) rfl) rfl ?_
    refine r_iload_n (q49 (i := 4) rfl) rfl ?_
    refine r_cV (d := _) (q49 (i := 5) rfl) rfl rfl rfl (k_21 S) (Nat.le_of_ble_eq_true rfl) (Nat.zero_le _) (Nat.zero_le _) R1 ?_
    show Wp _ _ _ 54 [(0, .ref 21), (1, .int (nI 0)), (2, .int (nI a)), (3, .int (nI b)), (4, .int cv)] [.int (nI r1.1)] h1 _ _
    exact r_iret (q49 (i := 6) rfl) rfl hQ
  · obtain ⟨rfl, rfl⟩ := hab (by decide)
    obtain ⟨h1, R1, G1, F1⟩ := sp_makeAnd (d := d + 1) (p := a ^^^ 1) (q := b ^^^ 1) S G W xa xb (by omega)
    have S1 := S.to F1.1
    show ∃ h', Run (d + 4 + 1) 49 _ h 0 0 (some (.int (nI (gnot (gand n γ (a ^^^ 1) (b ^^^ 1))).1))) h' ∧ GC h' ρ n rw (gnot (gand n γ (a ^^^ 1) (b ^^^ 1))).2 ∧ FrG ρ h h'
    generalize gand n γ (a ^^^ 1) (b ^^^ 1) = r1 at *
    refine ⟨h1, ?_, G1, F1⟩
    refine Run.of (Nat.le_of_ble_eq_true rfl) (fun Q hQ => ?_)
    show Wp (Ex (d + 4)) 49 Q 0 [(0, .ref 21), (1, .int (nI 1)), (2, .int (nI a)), (3, .int (nI b)), (4, .int cv)] [] h 0 0
    refine r_iload_n (q49 (i := 0) rfl) rfl ?_
    refine r_swIn (off := 54) 55 (q49 (i := 1) rfl) (by decide) (by decide) (by decide) (by decide) ?_
    refine r_aload_n (q49 (i := 7) rfl) rfl ?_
    refine r_iload_n (q49 (i := 8) rfl) rfl ?_
    refine r_iconst (v := 1) (q49 (i := 9) rfl) (by decide) ?_
    refine r_ixor (q49 (i := 10) rfl) ?_
    rw [show ((nI a) ^^^ 1 : Int32) = nI (a ^^^ 1) from xor1 _]
    refine r_iload_n (q49 (i := 11) rfl) rfl ?_
    refine r_iconst (v := 1) (q49 (i := 12) rfl) (by decide) ?_
    refine r_ixor (q49 (i := 13) rfl) ?_
    rw [show ((nI b) ^^^ 1 : Int32) = nI (b ^^^ 1) from xor1 _]
    refine r_cV (d := _) (q49 (i := 14) rfl) rfl rfl rfl (k_21 S) (Nat.le_of_ble_eq_true rfl) (Nat.zero_le _) (Nat.zero_le _) R1 ?_
    show Wp _ _ _ 65 [(0, .ref 21), (1, .int (nI 1)), (2, .int (nI a)), (3, .int (nI b)), (4, .int cv)] [.int (nI r1.1)] h1 _ _
    refine r_iconst (v := 1) (q49 (i := 15) rfl) (by decide) ?_
    refine r_ixor (q49 (i := 16) rfl) ?_
    rw [show ((nI r1.1) ^^^ 1 : Int32) = nI (r1.1 ^^^ 1) from xor1 _]
    exact r_iret (q49 (i := 17) rfl) rfl hQ
  · obtain ⟨rfl, rfl⟩ := hab (by decide)
    obtain ⟨h1, R1, G1, F1⟩ := sp_makeChoice (d := d) (a := a) (b := b ^^^ 1) (c := b) S G W ha xb hb (by omega)
    have S1 := S.to F1.1
    show ∃ h', Run (d + 4 + 1) 49 _ h 0 0 (some (.int (nI (gchoice n γ a (b ^^^ 1) b).1))) h' ∧ GC h' ρ n rw (gchoice n γ a (b ^^^ 1) b).2 ∧ FrG ρ h h'
    generalize gchoice n γ a (b ^^^ 1) b = r1 at *
    refine ⟨h1, ?_, G1, F1⟩
    refine Run.of (Nat.le_of_ble_eq_true rfl) (fun Q hQ => ?_)
    show Wp (Ex (d + 4)) 49 Q 0 [(0, .ref 21), (1, .int (nI 2)), (2, .int (nI a)), (3, .int (nI b)), (4, .int cv)] [] h 0 0
    refine r_iload_n (q49 (i := 0) rfl) rfl ?_
    refine r_swIn (off := 67) 68 (q49 (i := 1) rfl) (by decide) (by decide) (by decide) (by decide) ?_
    refine r_aload_n (q49 (i := 18) rfl) rfl ?_
    refine r_iload_n (q49 (i := 19) rfl) rfl ?_
    refine r_iload_n (q49 (i := 20) rfl) rfl ?_
    refine r_iconst (v := 1) (q49 (i := 21) rfl) (by decide) ?_
    refine r_ixor (q49 (i := 22) rfl) ?_
    rw [show ((nI b) ^^^ 1 : Int32) = nI (b ^^^ 1) from xor1 _]
    refine r_iload_n (q49 (i := 23) rfl) rfl ?_
    refine r_cV (d := _) (q49 (i := 24) rfl) rfl rfl rfl (k_21 S) (Nat.le_of_ble_eq_true rfl) (Nat.zero_le _) (Nat.zero_le _) R1 ?_
    show Wp _ _ _ 77 [(0, .ref 21), (1, .int (nI 2)), (2, .int (nI a)), (3, .int (nI b)), (4, .int cv)] [.int (nI r1.1)] h1 _ _
    exact r_iret (q49 (i := 25) rfl) rfl hQ
  · obtain ⟨rfl, rfl⟩ := hab (by decide)
    obtain ⟨h1, R1, G1, F1⟩ := sp_makeAnd (d := d + 1) S G W ha hb (by omega)
    have S1 := S.to F1.1
    show ∃ h', Run (d + 4 + 1) 49 _ h 0 0 (some (.int (nI (gnot (gand n γ a b)).1))) h' ∧ GC h' ρ n rw (gnot (gand n γ a b)).2 ∧ FrG ρ h h'
    generalize gand n γ a b = r1 at *
    refine ⟨h1, ?_, G1, F1⟩
    refine Run.of (Nat.le_of_ble_eq_true rfl) (fun Q hQ => ?_)
    show Wp (Ex (d + 4)) 49 Q 0 [(0, .ref 21), (1, .int (nI 3)), (2, .int (nI a)), (3, .int (nI b)), (4, .int cv)] [] h 0 0
    refine r_iload_n (q49 (i := 0) rfl) rfl ?_
    refine r_swIn (off := 77) 78 (q49 (i := 1) rfl) (by decide) (by decide) (by decide) (by decide) ?_
    refine r_aload_n (q49 (i := 26) rfl) rfl ?_
    refine r_iload_n (q49 (i := 27) rfl) rfl ?_
    refine r_iload_n (q49 (i := 28) rfl) rfl ?_
    refine r_cV (d := _) (q49 (i := 29) rfl) rfl rfl rfl (k_21 S) (Nat.le_of_ble_eq_true rfl) (Nat.zero_le _) (Nat.zero_le _) R1 ?_
    show Wp _ _ _ 84 [(0, .ref 21), (1, .int (nI 3)), (2, .int (nI a)), (3, .int (nI b)), (4, .int cv)] [.int (nI r1.1)] h1 _ _
    refine r_iconst (v := 1) (q49 (i := 30) rfl) (by decide) ?_
    refine r_ixor (q49 (i := 31) rfl) ?_
    rw [show ((nI r1.1) ^^^ 1 : Int32) = nI (r1.1 ^^^ 1) from xor1 _]
    exact r_iret (q49 (i := 32) rfl) rfl hQ
  · obtain ⟨rfl, rfl⟩ := hab (by decide)
    obtain ⟨h1, R1, G1, F1⟩ := sp_makeAnd (d := d + 1) (p := a ^^^ 1) (q := b ^^^ 1) S G W xa xb (by omega)
    have S1 := S.to F1.1
    show ∃ h', Run (d + 4 + 1) 49 _ h 0 0 (some (.int (nI (gand n γ (a ^^^ 1) (b ^^^ 1)).1))) h' ∧ GC h' ρ n rw (gand n γ (a ^^^ 1) (b ^^^ 1)).2 ∧ FrG ρ h h'
    generalize gand n γ (a ^^^ 1) (b ^^^ 1) = r1 at *
    refine ⟨h1, ?_, G1, F1⟩
    refine Run.of (Nat.le_of_ble_eq_true rfl) (fun Q hQ => ?_)
    show Wp (Ex (d + 4)) 49 Q 0 [(0, .ref 21), (1, .int (nI 4)), (2, .int (nI a)), (3, .int (nI b)), (4, .int cv)] [] h 0 0
    refine r_iload_n (q49 (i := 0) rfl) rfl ?_
    refine r_swIn (off := 86) 87 (q49 (i := 1) rfl) (by decide) (by decide) (by decide) (by decide) ?_
    refine r_aload_n (q49 (i := 33) rfl) rfl ?_
    refine r_iload_n (q49 (i := 34) rfl) rfl ?_
    refine r_iconst (v := 1) (q49 (i := 35) rfl) (by decide) ?_
    refine r_ixor (q49 (i := 36) rfl) ?_
    rw [show ((nI a) ^^^ 1 : Int32) = nI (a ^^^ 1) from xor1 _]
    refine r_iload_n (q49 (i := 37) rfl) rfl ?_
    refine r_iconst (v := 1) (q49 (i := 38) rfl) (by decide) ?_
    refine r_ixor (q49 (i := 39) rfl) ?_
    rw [show ((nI b) ^^^ 1 : Int32) = nI (b ^^^ 1) from xor1 _]
    refine r_cV (d := _) (q49 (i := 40) rfl) rfl rfl rfl (k_21 S) (Nat.le_of_ble_eq_true rfl) (Nat.zero_le _) (Nat.zero_le _) R1 ?_
    show Wp _ _ _ 97 [(0, .ref 21), (1, .int (nI 4)), (2, .int (nI a)), (3, .int (nI b)), (4, .int cv)] [.int (nI r1.1)] h1 _ _
    exact r_iret (q49 (i := 41) rfl) rfl hQ
  · obtain ⟨rfl, rfl⟩ := hab (by decide)
    obtain ⟨h1, R1, G1, F1⟩ := sp_makeChoice (d := d) (a := a) (b := b ^^^ 1) (c := b) S G W ha xb hb (by omega)
    have S1 := S.to F1.1
    show ∃ h', Run (d + 4 + 1) 49 _ h 0 0 (some (.int (nI (gnot (gchoice n γ a (b ^^^ 1) b)).1))) h' ∧ GC h' ρ n rw (gnot (gchoice n γ a (b ^^^ 1) b)).2 ∧ FrG ρ h h'
    generalize gchoice n γ a (b ^^^ 1) b = r1 at *
    refine ⟨h1, ?_, G1, F1⟩
    refine Run.of (Nat.le_of_ble_eq_true rfl) (fun Q hQ => ?_)
    show Wp (Ex (d + 4)) 49 Q 0 [(0, .ref 21), (1, .int (nI 5)), (2, .int (nI a)), (3, .int (nI b)), (4, .int cv)] [] h 0 0
    refine r_iload_n (q49 (i := 0) rfl) rfl ?_
    refine r_swIn (off := 97) 98 (q49 (i := 1) rfl) (by decide) (by decide) (by decide) (by decide) ?_
    refine r_aload_n (q49 (i := 42) rfl) rfl ?_
    refine r_iload_n (q49 (i := 43) rfl) rfl ?_
    refine r_iload_n (q49 (i := 44) rfl) rfl ?_
    refine r_iconst (v := 1) (q49 (i := 45) rfl) (by decide) ?_
    refine r_ixor (q49 (i := 46) rfl) ?_
    rw [show ((nI b) ^^^ 1 : Int32) = nI (b ^^^ 1) from xor1 _]
    refine r_iload_n (q49 (i := 47) rfl) rfl ?_
    refine r_cV (d := _) (q49 (i := 48) rfl) rfl rfl rfl (k_21 S) (Nat.le_of_ble_eq_true rfl) (Nat.zero_le _) (Nat.zero_le _) R1 ?_
    show Wp _ _ _ 107 [(0, .ref 21), (1, .int (nI 5)), (2, .int (nI a)), (3, .int (nI b)), (4, .int cv)] [.int (nI r1.1)] h1 _ _
    refine r_iconst (v := 1) (q49 (i := 49) rfl) (by decide) ?_
    refine r_ixor (q49 (i := 50) rfl) ?_
    rw [show ((nI r1.1) ^^^ 1 : Int32) = nI (r1.1 ^^^ 1) from xor1 _]
    exact r_iret (q49 (i := 51) rfl) rfl hQ
  · obtain ⟨rfl, rfl⟩ := hab (by decide)
    obtain rfl := hcv (by decide)
    obtain ⟨h1, R1, G1, F1⟩ := sp_makeChoice (d := d) S G W ha hb hc (by omega)
    have S1 := S.to F1.1
    show ∃ h', Run (d + 4 + 1) 49 _ h 0 0 (some (.int (nI (gchoice n γ a b c).1))) h' ∧ GC h' ρ n rw (gchoice n γ a b c).2 ∧ FrG ρ h h'
    generalize gchoice n γ a b c = r1 at *
    refine ⟨h1, ?_, G1, F1⟩
    refine Run.of (Nat.le_of_ble_eq_true rfl) (fun Q hQ => ?_)
    show Wp (Ex (d + 4)) 49 Q 0 [(0, .ref 21), (1, .int (nI 6)), (2, .int (nI a)), (3, .int (nI b)), (4, .int (nI c))] [] h 0 0
    refine r_iload_n (q49 (i := 0) rfl) rfl ?_
    refine r_swIn (off := 109) 110 (q49 (i := 1) rfl) (by decide) (by decide) (by decide) (by decide) ?_
    refine r_aload_n (q49 (i := 52) rfl) rfl ?_
    refine r_iload_n (q49 (i := 53) rfl) rfl ?_
    refine r_iload_n (q49 (i := 54) rfl) rfl ?_
    refine r_iload (q49 (i := 55) rfl) rfl ?_
    refine r_cV (d := _) (q49 (i := 56) rfl) rfl rfl rfl (k_21 S) (Nat.le_of_ble_eq_true rfl) (Nat.zero_le _) (Nat.zero_le _) R1 ?_
    show Wp _ _ _ 118 [(0, .ref 21), (1, .int (nI 6)), (2, .int (nI a)), (3, .int (nI b)), (4, .int (nI c))] [.int (nI r1.1)] h1 _ _
    exact r_iret (q49 (i := 57) rfl) rfl hQ
  · obtain ⟨rfl, rfl⟩ := hab (by decide)
    obtain rfl := hcv (by decide)
    obtain ⟨h1, R1, G1, F1⟩ := sp_makeMajority (d := d) S G W ha hb hc (by omega)
    have S1 := S.to F1.1
    show ∃ h', Run (d + 4 + 1) 49 _ h 0 0 (some (.int (nI (gmaj n γ a b c).1))) h' ∧ GC h' ρ n rw (gmaj n γ a b c).2 ∧ FrG ρ h h'
    generalize gmaj n γ a b c = r1 at *
    refine ⟨h1, ?_, G1, F1⟩
    refine Run.of (Nat.le_of_ble_eq_true rfl) (fun Q hQ => ?_)
    show Wp (Ex (d + 4)) 49 Q 0 [(0, .ref 21), (1, .int (nI 7)), (2, .int (nI a)), (3, .int (nI b)), (4, .int (nI c))] [] h 0 0
    refine r_iload_n (q49 (i := 0) rfl) rfl ?_
    refine r_swIn (off := 118) 119 (q49 (i := 1) rfl) (by decide) (by decide) (by decide) (by decide) ?_
    refine r_aload_n (q49 (i := 58) rfl) rfl ?_
    refine r_iload_n (q49 (i := 59) rfl) rfl ?_
    refine r_iload_n (q49 (i := 60) rfl) rfl ?_
    refine r_iload (q49 (i := 61) rfl) rfl ?_
    refine r_cV (d := _) (q49 (i := 62) rfl) rfl rfl rfl (k_21 S) (Nat.le_of_ble_eq_true rfl) (Nat.zero_le _) (Nat.zero_le _) R1 ?_
    show Wp _ _ _ 127 [(0, .ref 21), (1, .int (nI 7)), (2, .int (nI a)), (3, .int (nI b)), (4, .int (nI c))] [.int (nI r1.1)] h1 _ _
    exact r_iret (q49 (i := 63) rfl) rfl hQ
  · refine ⟨h, ?_, G, FrG.rf ρ h⟩
    refine Run.of (Nat.le_of_ble_eq_true rfl) (fun Q hQ => ?_)
    show Wp (Ex (d + 4)) 49 Q 0 [(0, .ref 21), (1, .int (nI 8)), (2, .int av), (3, .int bv), (4, .int cv)] [] h 0 0
    refine r_iload_n (q49 (i := 0) rfl) rfl ?_
    refine r_swOut 128 (q49 (i := 1) rfl) (by decide) (by decide) ?_
    refine r_iconst (v := 0) (q49 (i := 64) rfl) (by decide) ?_
    exact r_iret (q49 (i := 65) rfl) rfl hQ
end
section
/-! ===== a circuit's gates, one by one ===== -/
/-- the LITERAL of a SIGNAL without contraries: inputs first, then gates -/
def sl (n : Nat) (lit : Nat → Nat) (v : Nat) : Nat := if v < n then 2 * (v + 1) else lit (v - n)
def sd (n : Nat) (lit : Nat → Nat) (s : Int32) : Nat := if s < 0 then sl n lit (pl s).toNatClampNeg ^^^ 1 else sl n lit (pl s).toNatClampNeg
/-- a circuit as it was told: kinds and three SIGNALS a gate -/
abbrev cir : Type := (Nat → Int32) × (Nat → Int32) × (Nat → Int32) × (Nat → Int32)
def gop (n : Nat) (c : cir) (st : gs × (Nat → Nat)) (g : Nat) : Nat × gs := gkind n st.1 (c.1 g).toNatClampNeg (if c.1 g = 8 then 0 else sd n st.2 (c.2.1 g)) (if c.1 g = 8 then 0 else sd n st.2 (c.2.2.1 g)) (if c.1 g = 6 ∨ c.1 g = 7 then sd n st.2 (c.2.2.2 g) else 0)
def gstep (n : Nat) (c : cir) (st : gs × (Nat → Nat)) (g : Nat) : gs × (Nat → Nat) := ((gop n c st g).2, u1 st.2 g (gop n c st g).1)
/-- gate g takes what is there -/
def cok (n : Nat) (c : cir) (g : Nat) : Prop := (∃ k, k ≤ 8 ∧ c.1 g = nI k) ∧ (c.1 g ≠ 8 → pl (c.2.1 g) < nI (n + g) ∧ pl (c.2.2.1 g) < nI (n + g)) ∧ (c.1 g = 6 ∨ c.1 g = 7 → pl (c.2.2.2 g) < nI (n + g))
/-- g gates are made -/
def gmade (n g : Nat) (st : gs × (Nat → Nat)) : Prop := gwf n st.1 ∧ ∀ i, i < g → st.2 i < 2 * gC st.1
theorem sl_lt {n g : Nat} {st : gs × (Nat → Nat)} (M : gmade n g st) {v : Nat} (hv : v < n + g) : sl n st.2 v < 2 * gC st.1 := by
  unfold sl
  have := M.1.1
  split
  · omega
  · exact M.2 _ (by omega)
theorem sd_lt {n g : Nat} {st : gs × (Nat → Nat)} (M : gmade n g st) (hg : n + g < 2 ^ 31) {s : Int32} (hs : pl s < nI (n + g)) : sd n st.2 s < 2 * gC st.1 := by
  obtain ⟨k, hk, e⟩ := pl_nat s hg hs
  unfold sd
  rw [e, nI_clamp (by omega)]
  split
  · exact xor1_lt (sl_lt M hk)
  · exact sl_lt M hk
theorem litS_sd {n g m : Nat} {lit : Nat → Nat} {f : Nat → Int32} (hf : ∀ v, v < n + g → f v = nI (sl n lit v)) (hm : n + g ≤ m) (hm1 : m < 2 ^ 31) {s : Int32} (hs : pl s < nI (n + g)) : litS f (nI m) s = nI (sd n lit s) := by
  obtain ⟨k, hk, e⟩ := pl_nat s (by omega) hs
  unfold litS sd
  rw [e, if_pos (nI_lt (by omega) hm1), nI_clamp (by omega)]
  split
  · rw [hf k hk, xor1]
  · next h0 =>
    have : s = nI k := by rw [← e]; exact (pl_pos (by rw [← Int32.not_lt]; exact h0)).symm
    rw [this, nI_clamp (by omega), hf k hk]
theorem gop_ok {n g : Nat} {c : cir} {st : gs × (Nat → Nat)} (M : gmade n g st) (K : cok n c g) (hg : n + g < 2 ^ 31) : gok n st.1 4 (gop n c st g) := by
  have h0 : 0 < 2 * gC st.1 := by have := M.1.1; omega
  unfold gop
  refine gok_kind _ M.1 ?_ ?_ ?_
  · split
    · exact h0
    · next q => exact sd_lt M hg (K.2.1 q).1
  · split
    · exact h0
    · next q => exact sd_lt M hg (K.2.1 q).2
  · split
    · next q => exact sd_lt M hg (K.2.2 q)
    · exact h0
theorem gstep_ok {n g : Nat} {c : cir} {st : gs × (Nat → Nat)} (M : gmade n g st) (K : cok n c g) (hg : n + g < 2 ^ 31) : gmade n (g + 1) (gstep n c st g) ∧ gC st.1 ≤ gC (gstep n c st g).1 ∧ gC (gstep n c st g).1 ≤ gC st.1 + 4 := by
  obtain ⟨a, b, e1, e2⟩ := gop_ok M K hg
  refine ⟨⟨a, fun i hi => ?_⟩, e1, e2⟩
  show u1 st.2 g (gop n c st g).1 i < 2 * gC (gop n c st g).2
  by_cases q : i = g
  · subst q; rw [u1_s]; exact b
  · rw [u1_n q]
    have := M.2 i (by omega)
    omega
/-- a circuit's arrays in the heap -/
def cirH (h : hp) (o : Nat) : cir := (hI h (o + 1), hI h (o + 2), hI h (o + 3), hI h (o + 4))
set_option maxHeartbeats 2000000 in
set_option maxRecDepth 10000 in
theorem sp_makeGate_3 {d : Nat} {h : hp} (S : Sh h) {ρ n rw : Nat} {st : gs × (Nat → Nat)} (G : GC h ρ n rw st.1) {g gc : Nat} (M : gmade n g st) (K : cok n (cirH h 3) g) (hgc : hI h 3 7 = nI gc) (hn : hI h 3 6 = nI n) (hg : g < gc) (hg2 : gc ≤ 120) (hlit : ∀ v, v < n + g → hI h 9 v = nI (sl n st.2 v)) (hc3 : gC st.1 + 3 < 973) :
    ∃ h1, Run (d + 5 + 1) 48 [.ref 21, .ref 3, .int (nI g)] h 0 0 none (sI h1 9 (n + g) (nI (gop n (cirH h 3) st g).1)) ∧ GC h1 ρ n rw (gstep n (cirH h 3) st g).1 ∧ FrG ρ h h1 := by
  have hn12 : n ≤ 12 := G.1.2.2.2
  have e8 : hI h 21 8 = nI n := G.2.1.2.1
  have hm : hI h 3 6 + hI h 3 7 = nI (n + gc) := by rw [hn, hgc, nI_add]
  obtain ⟨k, hk8, hk⟩ := K.1
  have hcl : (hI h 4 g).toNatClampNeg = k := by rw [show hI h 4 g = nI k from hk, nI_clamp (by omega)]
  have hkl : ∀ z, z < 100 → (hI h 4 g = nI z ↔ k = z) := fun z hz => by rw [show hI h 4 g = nI k from hk]; exact nI_eq (by omega) (by omega)
  have L : ∀ s, pl s < nI (n + g) → litS (hI h 9) (nI (n + gc)) s = nI (sd n st.2 s) := fun s hs => litS_sd hlit (by omega) (by omega) hs
  have ok := gop_ok M K (by omega)
  have h0 : 0 < 2 * gC st.1 := by have := M.1.1; omega
  obtain ⟨h1, R1, G1, F1⟩ := sp_makeKind (d := d) S G M.1 (a := if hI h 4 g = 8 then 0 else sd n st.2 (hI h 5 g)) (b := if hI h 4 g = 8 then 0 else sd n st.2 (hI h 6 g)) (c := if hI h 4 g = 6 ∨ hI h 4 g = 7 then sd n st.2 (hI h 7 g) else 0)
    (by split; exact h0; next q => exact sd_lt M (by omega) (K.2.1 q).1) (by split; exact h0; next q => exact sd_lt M (by omega) (K.2.1 q).2) (by split; (next q => exact sd_lt M (by omega) (K.2.2 q)); exact h0) hc3 k hk8
    (av := litS (hI h 9) (nI (n + gc)) (hI h 5 g)) (bv := litS (hI h 9) (nI (n + gc)) (hI h 6 g)) (cv := litS (hI h 9) (nI (n + gc)) (hI h 7 g))
    (fun q => by
      have q : hI h 4 g ≠ 8 := fun z => q ((hkl 8 (by decide)).mp z)
      rw [if_neg q, if_neg q]
      exact ⟨L _ (K.2.1 q).1, L _ (K.2.1 q).2⟩)
    (fun q => by
      have q : hI h 4 g = 6 ∨ hI h 4 g = 7 := by rcases q with q | q; exact Or.inl ((hkl 6 (by decide)).mpr q); exact Or.inr ((hkl 7 (by decide)).mpr q)
      rw [if_pos q]
      exact L _ (K.2.2 q))
  have eg : gkind n st.1 k (if hI h 4 g = 8 then 0 else sd n st.2 (hI h 5 g)) (if hI h 4 g = 8 then 0 else sd n st.2 (hI h 6 g)) (if hI h 4 g = 6 ∨ hI h 4 g = 7 then sd n st.2 (hI h 7 g) else 0) = gop n (cirH h 3) st g := by
    unfold gop
    rw [show ((cirH h 3).1 g).toNatClampNeg = k from hcl]
    rfl
  rw [eg] at R1 G1
  refine ⟨h1, ?_, G1, F1⟩
  have S1 := S.to F1.1
  refine Run.of (Nat.le_of_ble_eq_true rfl) (fun Q hQ => ?_)
  show Wp (Ex (d + 5)) 48 Q 0 [(0, .ref 21), (1, .ref 3), (2, .int (nI g))] [] h 0 0
  refine r_aload_n (q48 (i := 0) rfl) rfl ?_
  refine r_aload_n (q48 (i := 1) rfl) rfl ?_
  refine r_getR (b := 5) (q48 (i := 2) rfl) rfl (by decide) (k_3 S) (fun _ _ _ => rfl) (r_3_1 S) ?_
  refine r_iload_n (q48 (i := 3) rfl) rfl ?_
  refine r_iaN (x := hI h 5 g) (q48 (i := 4) rfl) (k_5 S) (by omega) (by decide) rfl ?_
  refine r_cV (d := _) (q48 (i := 5) rfl) rfl rfl rfl (k_3 S) (Nat.le_of_ble_eq_true rfl) (Nat.zero_le _) (Nat.zero_le _) (sp_literalOf_3 (d := d + 2) S hm (by omega) (hI h 5 g)) ?_
  show Wp _ _ _ 10 [(0, .ref 21), (1, .ref 3), (2, .int (nI g))] [.int (litS (hI h 9) (nI (n + gc)) (hI h 5 g))] h _ _
  refine r_istore_n (ls' := [(3, .int (litS (hI h 9) (nI (n + gc)) (hI h 5 g))), (0, .ref 21), (1, .ref 3), (2, .int (nI g))]) (q48 (i := 6) rfl) (Nat.le_of_ble_eq_true rfl) rfl ?_
  refine r_aload_n (q48 (i := 7) rfl) rfl ?_
  refine r_aload_n (q48 (i := 8) rfl) rfl ?_
  refine r_getR (b := 6) (q48 (i := 9) rfl) rfl (by decide) (k_3 S) (fun _ _ _ => rfl) (r_3_2 S) ?_
  refine r_iload_n (q48 (i := 10) rfl) rfl ?_
  refine r_iaN (x := hI h 6 g) (q48 (i := 11) rfl) (k_6 S) (by omega) (by decide) rfl ?_
  refine r_cV (d := _) (q48 (i := 12) rfl) rfl rfl rfl (k_3 S) (Nat.le_of_ble_eq_true rfl) (Nat.zero_le _) (Nat.zero_le _) (sp_literalOf_3 (d := d + 2) S hm (by omega) (hI h 6 g)) ?_
  show Wp _ _ _ 21 [(3, .int (litS (hI h 9) (nI (n + gc)) (hI h 5 g))), (0, .ref 21), (1, .ref 3), (2, .int (nI g))] [.int (litS (hI h 9) (nI (n + gc)) (hI h 6 g))] h _ _
  refine r_istore (ls' := [(4, .int (litS (hI h 9) (nI (n + gc)) (hI h 6 g))), (3, .int (litS (hI h 9) (nI (n + gc)) (hI h 5 g))), (0, .ref 21), (1, .ref 3), (2, .int (nI g))]) (q48 (i := 13) rfl) (Nat.le_of_ble_eq_true rfl) rfl ?_
  refine r_aload_n (q48 (i := 14) rfl) rfl ?_
  refine r_aload_n (q48 (i := 15) rfl) rfl ?_
  refine r_getR (b := 7) (q48 (i := 16) rfl) rfl (by decide) (k_3 S) (fun _ _ _ => rfl) (r_3_3 S) ?_
  refine r_iload_n (q48 (i := 17) rfl) rfl ?_
  refine r_iaN (x := hI h 7 g) (q48 (i := 18) rfl) (k_7 S) (by omega) (by decide) rfl ?_
  refine r_cV (d := _) (q48 (i := 19) rfl) rfl rfl rfl (k_3 S) (Nat.le_of_ble_eq_true rfl) (Nat.zero_le _) (Nat.zero_le _) (sp_literalOf_3 (d := d + 2) S hm (by omega) (hI h 7 g)) ?_
  show Wp _ _ _ 33 [(4, .int (litS (hI h 9) (nI (n + gc)) (hI h 6 g))), (3, .int (litS (hI h 9) (nI (n + gc)) (hI h 5 g))), (0, .ref 21), (1, .ref 3), (2, .int (nI g))] [.int (litS (hI h 9) (nI (n + gc)) (hI h 7 g))] h _ _
  refine r_istore (ls' := [(5, .int (litS (hI h 9) (nI (n + gc)) (hI h 7 g))), (4, .int (litS (hI h 9) (nI (n + gc)) (hI h 6 g))), (3, .int (litS (hI h 9) (nI (n + gc)) (hI h 5 g))), (0, .ref 21), (1, .ref 3), (2, .int (nI g))]) (q48 (i := 20) rfl) (Nat.le_of_ble_eq_true rfl) rfl ?_
  refine r_aload_n (q48 (i := 21) rfl) rfl ?_
  refine r_getR (b := 9) (q48 (i := 22) rfl) rfl (by decide) (k_3 S) (fun _ _ _ => rfl) (r_3_5 S) ?_
  refine r_aload_n (q48 (i := 23) rfl) rfl ?_
  refine r_getI (x := nI n) (q48 (i := 24) rfl) rfl (by decide) (k_21 S) (fun _ _ _ => rfl) e8 ?_
  refine r_iload_n (q48 (i := 25) rfl) rfl ?_
  refine r_iadd (q48 (i := 26) rfl) ?_
  rw [show ((nI n) + (nI g) : Int32) = nI (n + g) from nI_add _ _]
  refine r_aload_n (q48 (i := 27) rfl) rfl ?_
  refine r_aload_n (q48 (i := 28) rfl) rfl ?_
  refine r_getR (b := 4) (q48 (i := 29) rfl) rfl (by decide) (k_3 S) (fun _ _ _ => rfl) (r_3_0 S) ?_
  refine r_iload_n (q48 (i := 30) rfl) rfl ?_
  refine r_iaN (x := nI k) (q48 (i := 31) rfl) (k_4 S) (by omega) (by decide) hk ?_
  refine r_iload_n (q48 (i := 32) rfl) rfl ?_
  refine r_iload (q48 (i := 33) rfl) rfl ?_
  refine r_iload (q48 (i := 34) rfl) rfl ?_
  refine r_cV (d := _) (q48 (i := 35) rfl) rfl rfl rfl (k_21 S) (Nat.le_of_ble_eq_true rfl) (Nat.zero_le _) (Nat.zero_le _) R1 ?_
  show Wp _ _ _ 60 [(5, .int (litS (hI h 9) (nI (n + gc)) (hI h 7 g))), (4, .int (litS (hI h 9) (nI (n + gc)) (hI h 6 g))), (3, .int (litS (hI h 9) (nI (n + gc)) (hI h 5 g))), (0, .ref 21), (1, .ref 3), (2, .int (nI g))] [.int (nI (gop n (cirH h 3) st g).1), .int (nI (n + g)), .ref 9] h1 _ _
  refine r_iasN (q48 (i := 36) rfl) (k_9 S1) (by omega) (by decide) ?_
  exact r_vret (q48 (i := 37) rfl) rfl hQ
set_option maxHeartbeats 2000000 in
set_option maxRecDepth 10000 in
theorem sp_makeGate_10 {d : Nat} {h : hp} (S : Sh h) {ρ n rw : Nat} {st : gs × (Nat → Nat)} (G : GC h ρ n rw st.1) {g gc : Nat} (M : gmade n g st) (K : cok n (cirH h 10) g) (hgc : hI h 10 7 = nI gc) (hn : hI h 10 6 = nI n) (hg : g < gc) (hg2 : gc ≤ 120) (hlit : ∀ v, v < n + g → hI h 16 v = nI (sl n st.2 v)) (hc3 : gC st.1 + 3 < 973) :
    ∃ h1, Run (d + 5 + 1) 48 [.ref 21, .ref 10, .int (nI g)] h 0 0 none (sI h1 16 (n + g) (nI (gop n (cirH h 10) st g).1)) ∧ GC h1 ρ n rw (gstep n (cirH h 10) st g).1 ∧ FrG ρ h h1 := by
  have hn12 : n ≤ 12 := G.1.2.2.2
  have e8 : hI h 21 8 = nI n := G.2.1.2.1
  have hm : hI h 10 6 + hI h 10 7 = nI (n + gc) := by rw [hn, hgc, nI_add]
  obtain ⟨k, hk8, hk⟩ := K.1
  have hcl : (hI h 11 g).toNatClampNeg = k := by rw [show hI h 11 g = nI k from hk, nI_clamp (by omega)]
  have hkl : ∀ z, z < 100 → (hI h 11 g = nI z ↔ k = z) := fun z hz => by rw [show hI h 11 g = nI k from hk]; exact nI_eq (by omega) (by omega)
  have L : ∀ s, pl s < nI (n + g) → litS (hI h 16) (nI (n + gc)) s = nI (sd n st.2 s) := fun s hs => litS_sd hlit (by omega) (by omega) hs
  have ok := gop_ok M K (by omega)
  have h0 : 0 < 2 * gC st.1 := by have := M.1.1; omega
  obtain ⟨h1, R1, G1, F1⟩ := sp_makeKind (d := d) S G M.1 (a := if hI h 11 g = 8 then 0 else sd n st.2 (hI h 12 g)) (b := if hI h 11 g = 8 then 0 else sd n st.2 (hI h 13 g)) (c := if hI h 11 g = 6 ∨ hI h 11 g = 7 then sd n st.2 (hI h 14 g) else 0)
    (by split; exact h0; next q => exact sd_lt M (by omega) (K.2.1 q).1) (by split; exact h0; next q => exact sd_lt M (by omega) (K.2.1 q).2) (by split; (next q => exact sd_lt M (by omega) (K.2.2 q)); exact h0) hc3 k hk8
    (av := litS (hI h 16) (nI (n + gc)) (hI h 12 g)) (bv := litS (hI h 16) (nI (n + gc)) (hI h 13 g)) (cv := litS (hI h 16) (nI (n + gc)) (hI h 14 g))
    (fun q => by
      have q : hI h 11 g ≠ 8 := fun z => q ((hkl 8 (by decide)).mp z)
      rw [if_neg q, if_neg q]
      exact ⟨L _ (K.2.1 q).1, L _ (K.2.1 q).2⟩)
    (fun q => by
      have q : hI h 11 g = 6 ∨ hI h 11 g = 7 := by rcases q with q | q; exact Or.inl ((hkl 6 (by decide)).mpr q); exact Or.inr ((hkl 7 (by decide)).mpr q)
      rw [if_pos q]
      exact L _ (K.2.2 q))
  have eg : gkind n st.1 k (if hI h 11 g = 8 then 0 else sd n st.2 (hI h 12 g)) (if hI h 11 g = 8 then 0 else sd n st.2 (hI h 13 g)) (if hI h 11 g = 6 ∨ hI h 11 g = 7 then sd n st.2 (hI h 14 g) else 0) = gop n (cirH h 10) st g := by
    unfold gop
    rw [show ((cirH h 10).1 g).toNatClampNeg = k from hcl]
    rfl
  rw [eg] at R1 G1
  refine ⟨h1, ?_, G1, F1⟩
  have S1 := S.to F1.1
  refine Run.of (Nat.le_of_ble_eq_true rfl) (fun Q hQ => ?_)
  show Wp (Ex (d + 5)) 48 Q 0 [(0, .ref 21), (1, .ref 10), (2, .int (nI g))] [] h 0 0
  refine r_aload_n (q48 (i := 0) rfl) rfl ?_
  refine r_aload_n (q48 (i := 1) rfl) rfl ?_
  refine r_getR (b := 12) (q48 (i := 2) rfl) rfl (by decide) (k_10 S) (fun _ _ _ => rfl) (r_10_1 S) ?_
  refine r_iload_n (q48 (i := 3) rfl) rfl ?_
  refine r_iaN (x := hI h 12 g) (q48 (i := 4) rfl) (k_12 S) (by omega) (by decide) rfl ?_
  refine r_cV (d := _) (q48 (i := 5) rfl) rfl rfl rfl (k_10 S) (Nat.le_of_ble_eq_true rfl) (Nat.zero_le _) (Nat.zero_le _) (sp_literalOf_10 (d := d + 2) S hm (by omega) (hI h 12 g)) ?_
  show Wp _ _ _ 10 [(0, .ref 21), (1, .ref 10), (2, .int (nI g))] [.int (litS (hI h 16) (nI (n + gc)) (hI h 12 g))] h _ _
  refine r_istore_n (ls' := [(3, .int (litS (hI h 16) (nI (n + gc)) (hI h 12 g))), (0, .ref 21), (1, .ref 10), (2, .int (nI g))]) (q48 (i := 6) rfl) (Nat.le_of_ble_eq_true rfl) rfl ?_
  refine r_aload_n (q48 (i := 7) rfl) rfl ?_
  refine r_aload_n (q48 (i := 8) rfl) rfl ?_
  refine r_getR (b := 13) (q48 (i := 9) rfl) rfl (by decide) (k_10 S) (fun _ _ _ => rfl) (r_10_2 S) ?_
  refine r_iload_n (q48 (i := 10) rfl) rfl ?_
  refine r_iaN (x := hI h 13 g) (q48 (i := 11) rfl) (k_13 S) (by omega) (by decide) rfl ?_
  refine r_cV (d := _) (q48 (i := 12) rfl) rfl rfl rfl (k_10 S) (Nat.le_of_ble_eq_true rfl) (Nat.zero_le _) (Nat.zero_le _) (sp_literalOf_10 (d := d + 2) S hm (by omega) (hI h 13 g)) ?_
  show Wp _ _ _ 21 [(3, .int (litS (hI h 16) (nI (n + gc)) (hI h 12 g))), (0, .ref 21), (1, .ref 10), (2, .int (nI g))] [.int (litS (hI h 16) (nI (n + gc)) (hI h 13 g))] h _ _
  refine r_istore (ls' := [(4, .int (litS (hI h 16) (nI (n + gc)) (hI h 13 g))), (3, .int (litS (hI h 16) (nI (n + gc)) (hI h 12 g))), (0, .ref 21), (1, .ref 10), (2, .int (nI g))]) (q48 (i := 13) rfl) (Nat.le_of_ble_eq_true rfl) rfl ?_
  refine r_aload_n (q48 (i := 14) rfl) rfl ?_
  refine r_aload_n (q48 (i := 15) rfl) rfl ?_
  refine r_getR (b := 14) (q48 (i := 16) rfl) rfl (by decide) (k_10 S) (fun _ _ _ => rfl) (r_10_3 S) ?_
  refine r_iload_n (q48 (i := 17) rfl) rfl ?_
  refine r_iaN (x := hI h 14 g) (q48 (i := 18) rfl) (k_14 S) (by omega) (by decide) rfl ?_
  refine r_cV (d := _) (q48 (i := 19) rfl) rfl rfl rfl (k_10 S) (Nat.le_of_ble_eq_true rfl) (Nat.zero_le _) (Nat.zero_le _) (sp_literalOf_10 (d := d + 2) S hm (by omega) (hI h 14 g)) ?_
  show Wp _ _ _ 33 [(4, .int (litS (hI h 16) (nI (n + gc)) (hI h 13 g))), (3, .int (litS (hI h 16) (nI (n + gc)) (hI h 12 g))), (0, .ref 21), (1, .ref 10), (2, .int (nI g))] [.int (litS (hI h 16) (nI (n + gc)) (hI h 14 g))] h _ _
  refine r_istore (ls' := [(5, .int (litS (hI h 16) (nI (n + gc)) (hI h 14 g))), (4, .int (litS (hI h 16) (nI (n + gc)) (hI h 13 g))), (3, .int (litS (hI h 16) (nI (n + gc)) (hI h 12 g))), (0, .ref 21), (1, .ref 10), (2, .int (nI g))]) (q48 (i := 20) rfl) (Nat.le_of_ble_eq_true rfl) rfl ?_
  refine r_aload_n (q48 (i := 21) rfl) rfl ?_
  refine r_getR (b := 16) (q48 (i := 22) rfl) rfl (by decide) (k_10 S) (fun _ _ _ => rfl) (r_10_5 S) ?_
  refine r_aload_n (q48 (i := 23) rfl) rfl ?_
  refine r_getI (x := nI n) (q48 (i := 24) rfl) rfl (by decide) (k_21 S) (fun _ _ _ => rfl) e8 ?_
  refine r_iload_n (q48 (i := 25) rfl) rfl ?_
  refine r_iadd (q48 (i := 26) rfl) ?_
  rw [show ((nI n) + (nI g) : Int32) = nI (n + g) from nI_add _ _]
  refine r_aload_n (q48 (i := 27) rfl) rfl ?_
  refine r_aload_n (q48 (i := 28) rfl) rfl ?_
  refine r_getR (b := 11) (q48 (i := 29) rfl) rfl (by decide) (k_10 S) (fun _ _ _ => rfl) (r_10_0 S) ?_
  refine r_iload_n (q48 (i := 30) rfl) rfl ?_
  refine r_iaN (x := nI k) (q48 (i := 31) rfl) (k_11 S) (by omega) (by decide) hk ?_
  refine r_iload_n (q48 (i := 32) rfl) rfl ?_
  refine r_iload (q48 (i := 33) rfl) rfl ?_
  refine r_iload (q48 (i := 34) rfl) rfl ?_
  refine r_cV (d := _) (q48 (i := 35) rfl) rfl rfl rfl (k_21 S) (Nat.le_of_ble_eq_true rfl) (Nat.zero_le _) (Nat.zero_le _) R1 ?_
  show Wp _ _ _ 60 [(5, .int (litS (hI h 16) (nI (n + gc)) (hI h 14 g))), (4, .int (litS (hI h 16) (nI (n + gc)) (hI h 13 g))), (3, .int (litS (hI h 16) (nI (n + gc)) (hI h 12 g))), (0, .ref 21), (1, .ref 10), (2, .int (nI g))] [.int (nI (gop n (cirH h 10) st g).1), .int (nI (n + g)), .ref 16] h1 _ _
  refine r_iasN (q48 (i := 36) rfl) (k_16 S1) (by omega) (by decide) ?_
  exact r_vret (q48 (i := 37) rfl) rfl hQ
end
section
/-! ===== the false node and the inputs ===== -/
def tin (i w : Nat) : Int64 := if i < 6 then pats i else if w / 2 ^ (i - 6) % 2 = 1 then -1 else 0
def T0 (x w : Nat) : Int64 := if x = 0 then 0 else tin (x - 1) w
/-- the first c of the nodes that stand in every graph -/
def gini (c : Nat) : gs := (c, fun _ => 0, fun _ => 0, T0)
/-- the patterns' cell -/
def Pt (h : hp) : Prop := hK h 1 = (8, 6) ∧ hJ h 1 = pats
theorem sh31 : ∀ k, k < 32 → ((nI k &&& 31).toBitVec.smod 32).toNat = k := by decide +kernel
theorem ini_ok {h : hp} {ρ n rw c : Nat} (G : GC h ρ n rw (gini c)) (hc : c ≤ n) : GC (nodH (rJ h ρ (rowF (hJ h ρ) (c * rw) (T0 c) rw)) c 0 0) ρ n rw (gini (c + 1)) ∧ FrG ρ h (nodH (rJ h ρ (rowF (hJ h ρ) (c * rw) (T0 c) rw)) c 0 0) := by
  obtain ⟨⟨⟨ℓ, hRw, hℓ, hℓ1⟩, hr1, hr2, hn12⟩, ⟨e7, e8, e9, hc9⟩, eLR, eCh, eNx, eRow⟩ := G
  have pz : ∀ p, prv n (gL (gini (c + 1))) p (c + 1) = 0 := fun p => prv_none n _ p _ (fun k a b => by omega)
  have pz0 : ∀ p, prv n (gL (gini c)) p c = 0 := fun p => prv_none n _ p _ (fun k a b => by omega)
  have j1 : hJ (nodH (rJ h ρ (rowF (hJ h ρ) (c * rw) (T0 c) rw)) c 0 0) ρ = rowF (hJ h ρ) (c * rw) (T0 c) rw := by
    show u1 h.2.1 ρ _ ρ = _
    exact u1_s
  refine ⟨⟨⟨⟨ℓ, hRw, hℓ, hℓ1⟩, hr1, hr2, hn12⟩, ⟨e7, e8, rfl, by show c + 1 ≤ 973; omega⟩, fun k hk => ?_, fun p hp => ?_, fun k a hk => ?_, fun x w hx hw => ?_⟩, ⟨rfl, fun k hk => ?_, fun k hk => ?_, fun j hj => ?_⟩⟩
  · have hk : k < c + 1 := hk
    show u1 (hI h 22) c (nI 0) k = nI 0 ∧ u1 (hI h 23) c (nI 0) k = nI 0
    by_cases q : k = c
    · rw [q, u1_s, u1_s]; exact ⟨rfl, rfl⟩
    · rw [u1_n q, u1_n q]; exact eLR k (show k < c by omega)
  · have hp : p < 2 * (c + 1) := hp
    show u1 (u1 (hI h 24) (2 * c) 0) (2 * c + 1) 0 p = nI (prv n (gL (gini (c + 1))) p (c + 1))
    rw [pz p]
    by_cases q1 : p = 2 * c + 1
    · rw [q1, u1_s]; rfl
    · rw [u1_n q1]
      by_cases q2 : p = 2 * c
      · rw [q2, u1_s]; rfl
      · rw [u1_n q2]
        have := eCh p (show p < 2 * c by omega)
        rw [this]
        exact congrArg nI (pz0 p)
  · have hk : k < c + 1 := hk
    omega
  · have hx : x < c + 1 := hx
    rw [j1]
    show _ = T0 x w
    by_cases q : x = c
    · subst q
      exact rowF_in hw
    · have hb : x * rw + w < c * rw := by
        have : (x + 1) * rw ≤ c * rw := Nat.mul_le_mul_right rw (by omega)
        rw [Nat.succ_mul] at this
        omega
      rw [rowF_lt hb]
      exact eRow x w (show x < c by omega) hw
  · show u2 (u2 (u2 (u2 (u2 (u2 h.1 22 _ _) 23 _ _) 25 _ _) 24 _ _) 24 _ _) 21 _ _ k = _
    rw [u2_n (by omega), u2_n (by omega), u2_n (by omega), u2_n (by omega), u2_n (by omega), u2_n (by omega)]
  · show u1 h.2.1 ρ _ k = _
    exact u1_n hk
  · show u1 (hI h 21) 9 _ j = _
    exact u1_n hj
set_option maxHeartbeats 2000000 in
set_option maxRecDepth 10000 in
theorem lp_makeFalse {d : Nat} {h : hp} (S : Sh h) {ρ n rw c : Nat} (G : GC h ρ n rw (gini c)) (hcn : c ≤ n) (hc0 : c = 0) {Q : resP} {bc bs : Nat} (hk : ∀ ls : List (Nat × Value), ls.lookup 1 = some (.int (nI rw)) → ls.lookup 0 = some (.ref 21) → Wp (Ex (d + 1)) 46 Q 23 ls [] (rJ h ρ (rowF (hJ h ρ) (0 * rw) (T0 0) rw)) bc bs) : ∀ (k i : Nat), i + k = rw → ∀ ls : List (Nat × Value), ls.lookup 1 = some (.int (nI i)) → ls.lookup 0 = some (.ref 21) → Wp (Ex (d + 1)) 46 Q 2 ls [] (rJ h ρ (rowF (hJ h ρ) (0 * rw) (T0 0) i)) bc bs := by
  obtain ⟨⟨⟨ℓ, hRw, hℓ, hℓ1⟩, hr1, hr2, hn12⟩, ⟨e7, e8, e9, hc⟩, eLR, eCh, eNx, eRow⟩ := G
  intro k
  induction k with
  | zero =>
    intro i hi ls l1 l0
    have e : i = rw := by omega
    subst e
    refine r_iload_n (q46 (i := 2) rfl) l1 ?_
    refine r_aload_n (q46 (i := 3) rfl) l0 ?_
    refine r_getI (x := nI i) (q46 (i := 4) rfl) rfl (by decide) (k_21 S) (fun _ _ _ => rfl) e7 ?_
    refine r_icmp 23 (q46 (i := 5) rfl) (by decide) (fun _ => ?_) (fun c => absurd (show nI i ≤ nI i from Int32.le_refl _) c)
    exact hk ls l1 l0
  | succ k ih =>
    intro i hi ls l1 l0
    have hix : 0 * rw + i < ℓ := by have := ix_lt (x := 0) (rw := rw) (w := i) (by omega) (by omega); omega
    have hix0 : i < ℓ := by omega
    have ez : 0 * rw + i = i := by omega
    refine r_iload_n (q46 (i := 2) rfl) l1 ?_
    refine r_aload_n (q46 (i := 3) rfl) l0 ?_
    refine r_getI (x := nI rw) (q46 (i := 4) rfl) rfl (by decide) (k_21 S) (fun _ _ _ => rfl) e7 ?_
    refine r_icmp 23 (q46 (i := 5) rfl) (by decide) (fun c => absurd c (show ¬ (nI rw ≤ nI i) from nI_ge (by omega) (by omega))) (fun _ => ?_)
    refine r_aload_n (q46 (i := 6) rfl) l0 ?_
    refine r_getR (b := ρ) (q46 (i := 7) rfl) rfl (by decide) (k_21 S) (fun _ _ _ => rfl) hRw.1 ?_
    refine r_iload_n (q46 (i := 8) rfl) l1 ?_
    refine r_lconst (v := 0) (q46 (i := 9) rfl) (by decide) ?_
    refine r_lasN (q46 (i := 10) rfl) hRw.2.1 hix0 (by omega) ?_
    rw [sJ_rJ, show u1 (rowF (hJ h ρ) (0 * rw) (T0 0) i) i 0 = rowF (hJ h ρ) (0 * rw) (T0 0) (i + 1) by rw [← rowF_s, ez]; rfl]
    refine r_iinc (y := nI (i + 1)) (q46 (i := 11) rfl) (Nat.le_of_ble_eq_true rfl) l1 (nI_1 i) rfl ?_
    have l0 := lk1 (k := 1) (v := .int (nI (i + 1))) l0 (by decide) (Or.inl rfl)
    have l1 := lk0 ls 1 (.int (nI (i + 1)))
    generalize lset1 ls 1 (.int (nI (i + 1))) = ls at l1 l0 ⊢
    refine r_goto 2 (q46 (i := 12) rfl) (by decide) ?_
    exact ih (i + 1) (by omega) ls l1 l0
set_option maxHeartbeats 2000000 in
set_option maxRecDepth 10000 in
theorem sp_makeFalse {d : Nat} {h : hp} (S : Sh h) {ρ n rw : Nat} (G : GC h ρ n rw (gini 0)) : Run (d + 1 + 1) 46 [.ref 21] h 0 0 none (nodH (rJ h ρ (rowF (hJ h ρ) (0 * rw) (T0 0) rw)) 0 0 0) := by
  have G0 := G
  obtain ⟨⟨⟨ℓ, hRw, hℓ, hℓ1⟩, hr1, hr2, hn12⟩, ⟨e7, e8, e9, hc⟩, eLR, eCh, eNx, eRow⟩ := G
  refine Run.of (Nat.le_of_ble_eq_true rfl) (fun Q hQ => ?_)
  show Wp (Ex (d + 1)) 46 Q 0 [(0, .ref 21)] [] h 0 0
  refine r_iconst (v := 0) (q46 (i := 0) rfl) (by decide) ?_
  refine r_istore_n (ls' := [(1, .int 0), (0, .ref 21)]) (q46 (i := 1) rfl) (Nat.le_of_ble_eq_true rfl) rfl ?_
  have e0 : h = rJ h ρ (rowF (hJ h ρ) (0 * rw) (T0 0) 0) := by rw [rowF_0, rJ_self]
  conv => arg 7; rw [e0]
  refine lp_makeFalse S G0 (Nat.zero_le n) rfl (fun ls l1 l0 => ?_) rw 0 (by omega) _ rfl rfl
  refine r_aload_n (q46 (i := 13) rfl) l0 ?_
  refine r_iconst (v := 0) (q46 (i := 14) rfl) (by decide) ?_
  refine r_iconst (v := 0) (q46 (i := 15) rfl) (by decide) ?_
  have S1 : Sh (rJ h ρ (rowF (hJ h ρ) (0 * rw) (T0 0) rw)) := Sh.to S rfl
  refine r_cV (d := _) (q46 (i := 16) rfl) rfl rfl rfl (k_21 S1) (Nat.le_of_ble_eq_true rfl) (Nat.zero_le _) (Nat.zero_le _) (sp_addNode S1 e9 (by decide) 0 0) ?_
  show Wp _ _ _ 29 ls [] (nodH (rJ h ρ (rowF (hJ h ρ) (0 * rw) (T0 0) rw)) 0 0 0) _ _
  exact r_vret (q46 (i := 17) rfl) rfl hQ
set_option maxHeartbeats 2000000 in
set_option maxRecDepth 10000 in
theorem lp_inputLo {d : Nat} {h : hp} (S : Sh h) {ρ n rw c : Nat} (G : GC h ρ n rw (gini c)) (hcn : c ≤ n) (hPt : Pt h) {v : Nat} (hcv : c = v + 1) (hv6 : v < 6) (hρ1 : ρ ≠ 1) {Q : resP} {bc bs : Nat} (hk : ∀ ls : List (Nat × Value), ls.lookup 3 = some (.int (nI rw)) → ls.lookup 2 = some (.int (nI (c * rw))) → ls.lookup 0 = some (.ref 21) → ls.lookup 1 = some (.int (nI v)) → Wp (Ex (d + 1)) 47 Q 74 ls [] (rJ h ρ (rowF (hJ h ρ) (c * rw) (T0 c) rw)) bc bs) : ∀ (k i : Nat), i + k = rw → ∀ ls : List (Nat × Value), ls.lookup 3 = some (.int (nI i)) → ls.lookup 2 = some (.int (nI (c * rw))) → ls.lookup 0 = some (.ref 21) → ls.lookup 1 = some (.int (nI v)) → Wp (Ex (d + 1)) 47 Q 12 ls [] (rJ h ρ (rowF (hJ h ρ) (c * rw) (T0 c) i)) bc bs := by
  obtain ⟨⟨⟨ℓ, hRw, hℓ, hℓ1⟩, hr1, hr2, hn12⟩, ⟨e7, e8, e9, hc⟩, eLR, eCh, eNx, eRow⟩ := G
  intro k
  induction k with
  | zero =>
    intro i hi ls l3 l2 l0 l1
    have e : i = rw := by omega
    subst e
    refine r_iload_n (q47 (i := 8) rfl) l3 ?_
    refine r_aload_n (q47 (i := 9) rfl) l0 ?_
    refine r_getI (x := nI i) (q47 (i := 10) rfl) rfl (by decide) (k_21 S) (fun _ _ _ => rfl) e7 ?_
    refine r_icmp 74 (q47 (i := 11) rfl) (by decide) (fun _ => ?_) (fun c => absurd (show nI i ≤ nI i from Int32.le_refl _) c)
    exact hk ls l3 l2 l0 l1
  | succ k ih =>
    intro i hi ls l3 l2 l0 l1
    have hix : c * rw + i < ℓ := by have := ix_lt (x := c) (rw := rw) (w := i) (by omega) (by omega); omega
    have ev : (T0 c) i = tin v i := by rw [hcv]; rfl
    refine r_iload_n (q47 (i := 8) rfl) l3 ?_
    refine r_aload_n (q47 (i := 9) rfl) l0 ?_
    refine r_getI (x := nI rw) (q47 (i := 10) rfl) rfl (by decide) (k_21 S) (fun _ _ _ => rfl) e7 ?_
    refine r_icmp 74 (q47 (i := 11) rfl) (by decide) (fun c => absurd c (show ¬ (nI rw ≤ nI i) from nI_ge (by omega) (by omega))) (fun _ => ?_)
    refine r_iload_n (q47 (i := 12) rfl) l1 ?_
    refine r_bipush (v := 6) (q47 (i := 13) rfl) (by decide) ?_
    refine r_icmp 42 (q47 (i := 14) rfl) (by decide) (fun c => absurd c (show ¬ (6 ≤ nI v) from nI_ge hv6 (by decide))) (fun _ => ?_)
    refine r_aload_n (q47 (i := 15) rfl) l0 ?_
    refine r_getR (b := ρ) (q47 (i := 16) rfl) rfl (by decide) (k_21 S) (fun _ _ _ => rfl) hRw.1 ?_
    refine r_iload_n (q47 (i := 17) rfl) l2 ?_
    refine r_iload_n (q47 (i := 18) rfl) l3 ?_
    refine r_iadd (q47 (i := 19) rfl) ?_
    rw [show ((nI (c * rw)) + (nI i) : Int32) = nI (c * rw + i) from nI_add _ _]
    refine r_gets (q47 (i := 20) rfl) rfl ?_
    refine r_iload_n (q47 (i := 21) rfl) l1 ?_
    refine r_laload8 (x := pats v) (q47 (i := 22) rfl) hPt.1 (vp_in_nI hv6 (by decide)) (by show hJ (rJ h ρ _) 1 (nI v).toNatClampNeg = _; rw [nI_clamp (by omega)]; exact (congrFun (u1_n (f := h.2.1) (Ne.symm hρ1)) v).trans (congrFun hPt.2 v)) ?_
    refine r_lasN (q47 (i := 23) rfl) hRw.2.1 hix (by omega) ?_
    refine r_goto 68 (q47 (i := 24) rfl) (by decide) ?_
    rw [sJ_rJ, show pats v = (T0 c) i from by rw [ev]; exact (if_pos hv6).symm, rowF_s]
    refine r_iinc (y := nI (i + 1)) (q47 (i := 42) rfl) (Nat.le_of_ble_eq_true rfl) l3 (nI_1 i) rfl ?_
    have l2 := lk1 (k := 3) (v := .int (nI (i + 1))) l2 (by decide) (Or.inl rfl)
    have l0 := lk1 (k := 3) (v := .int (nI (i + 1))) l0 (by decide) (Or.inr (by decide))
    have l1 := lk1 (k := 3) (v := .int (nI (i + 1))) l1 (by decide) (Or.inr (by decide))
    have l3 := lk0 ls 3 (.int (nI (i + 1)))
    generalize lset1 ls 3 (.int (nI (i + 1))) = ls at l3 l2 l0 l1 ⊢
    refine r_goto 12 (q47 (i := 43) rfl) (by decide) ?_
    exact ih (i + 1) (by omega) ls l3 l2 l0 l1
set_option maxHeartbeats 2000000 in
set_option maxRecDepth 10000 in
theorem lp_inputHi {d : Nat} {h : hp} (S : Sh h) {ρ n rw c : Nat} (G : GC h ρ n rw (gini c)) (hcn : c ≤ n) {v : Nat} (hcv : c = v + 1) (hv6 : 6 ≤ v) (hv12 : v < 12) {Q : resP} {bc bs : Nat} (hk : ∀ ls : List (Nat × Value), ls.lookup 3 = some (.int (nI rw)) → ls.lookup 2 = some (.int (nI (c * rw))) → ls.lookup 0 = some (.ref 21) → ls.lookup 1 = some (.int (nI v)) → Wp (Ex (d + 1)) 47 Q 74 ls [] (rJ h ρ (rowF (hJ h ρ) (c * rw) (T0 c) rw)) bc bs) : ∀ (k i : Nat), i + k = rw → ∀ ls : List (Nat × Value), ls.lookup 3 = some (.int (nI i)) → ls.lookup 2 = some (.int (nI (c * rw))) → ls.lookup 0 = some (.ref 21) → ls.lookup 1 = some (.int (nI v)) → Wp (Ex (d + 1)) 47 Q 12 ls [] (rJ h ρ (rowF (hJ h ρ) (c * rw) (T0 c) i)) bc bs := by
  obtain ⟨⟨⟨ℓ, hRw, hℓ, hℓ1⟩, hr1, hr2, hn12⟩, ⟨e7, e8, e9, hc⟩, eLR, eCh, eNx, eRow⟩ := G
  intro k
  induction k with
  | zero =>
    intro i hi ls l3 l2 l0 l1
    have e : i = rw := by omega
    subst e
    refine r_iload_n (q47 (i := 8) rfl) l3 ?_
    refine r_aload_n (q47 (i := 9) rfl) l0 ?_
    refine r_getI (x := nI i) (q47 (i := 10) rfl) rfl (by decide) (k_21 S) (fun _ _ _ => rfl) e7 ?_
    refine r_icmp 74 (q47 (i := 11) rfl) (by decide) (fun _ => ?_) (fun c => absurd (show nI i ≤ nI i from Int32.le_refl _) c)
    exact hk ls l3 l2 l0 l1
  | succ k ih =>
    intro i hi ls l3 l2 l0 l1
    have hix : c * rw + i < ℓ := by have := ix_lt (x := c) (rw := rw) (w := i) (by omega) (by omega); omega
    have ev : (T0 c) i = tin v i := by rw [hcv]; rfl
    refine r_iload_n (q47 (i := 8) rfl) l3 ?_
    refine r_aload_n (q47 (i := 9) rfl) l0 ?_
    refine r_getI (x := nI rw) (q47 (i := 10) rfl) rfl (by decide) (k_21 S) (fun _ _ _ => rfl) e7 ?_
    refine r_icmp 74 (q47 (i := 11) rfl) (by decide) (fun c => absurd c (show ¬ (nI rw ≤ nI i) from nI_ge (by omega) (by omega))) (fun _ => ?_)
    refine r_iload_n (q47 (i := 12) rfl) l1 ?_
    refine r_bipush (v := 6) (q47 (i := 13) rfl) (by decide) ?_
    refine r_icmp 42 (q47 (i := 14) rfl) (by decide) (fun _ => ?_) (fun c => absurd (show 6 ≤ nI v from nI_le (by omega) (by omega)) c)
    refine r_aload_n (q47 (i := 25) rfl) l0 ?_
    refine r_getR (b := ρ) (q47 (i := 26) rfl) rfl (by decide) (k_21 S) (fun _ _ _ => rfl) hRw.1 ?_
    refine r_iload_n (q47 (i := 27) rfl) l2 ?_
    refine r_iload_n (q47 (i := 28) rfl) l3 ?_
    refine r_iadd (q47 (i := 29) rfl) ?_
    rw [show ((nI (c * rw)) + (nI i) : Int32) = nI (c * rw + i) from nI_add _ _]
    refine r_iload_n (q47 (i := 30) rfl) l3 ?_
    refine r_iload_n (q47 (i := 31) rfl) l1 ?_
    refine r_bipush (v := 6) (q47 (i := 32) rfl) (by decide) ?_
    refine r_isub (q47 (i := 33) rfl) ?_
    rw [show ((nI v) - 6 : Int32) = nI (v - 6) from pk_sub (by omega)]
    refine r_ishr (q47 (i := 34) rfl) ?_
    rw [show ((nI i) >>> ((nI (v - 6)) &&& 31) : Int32) = nI (i / 2 ^ (v - 6)) from pk_shrN (by omega) _ (v - 6) (sh31 _ (by omega))]
    refine r_iconst (v := 1) (q47 (i := 35) rfl) (by decide) ?_
    refine r_iand (q47 (i := 36) rfl) ?_
    rw [show ((nI (i / 2 ^ (v - 6))) &&& 1 : Int32) = nI (i / 2 ^ (v - 6) % 2) from and1 (Nat.lt_of_le_of_lt (Nat.div_le_self _ _) (by omega))]
    refine r_if 66 (q47 (i := 37) rfl) (by decide) (fun c57 => ?_) (fun c57 => ?_)
    · have c57 : nI (i / 2 ^ (v - 6) % 2) = 0 := c57
      have c57 : ¬ i / 2 ^ (v - 6) % 2 = 1 := fun q => by rw [q] at c57; exact absurd c57 (by decide)
      refine r_lconst (v := 0) (q47 (i := 40) rfl) (by decide) ?_
      refine r_lasN (q47 (i := 41) rfl) hRw.2.1 hix (by omega) ?_
      rw [sJ_rJ, show u1 (rowF (hJ h ρ) (c * rw) (T0 c) i) (c * rw + i) _ = rowF (hJ h ρ) (c * rw) (T0 c) (i + 1) by rw [← rowF_s, ev]; unfold tin; rw [if_neg (by omega)]; first | rw [if_pos c57] | rw [if_neg c57]]
      refine r_iinc (y := nI (i + 1)) (q47 (i := 42) rfl) (Nat.le_of_ble_eq_true rfl) l3 (nI_1 i) rfl ?_
      have l2 := lk1 (k := 3) (v := .int (nI (i + 1))) l2 (by decide) (Or.inl rfl)
      have l0 := lk1 (k := 3) (v := .int (nI (i + 1))) l0 (by decide) (Or.inr (by decide))
      have l1 := lk1 (k := 3) (v := .int (nI (i + 1))) l1 (by decide) (Or.inr (by decide))
      have l3 := lk0 ls 3 (.int (nI (i + 1)))
      generalize lset1 ls 3 (.int (nI (i + 1))) = ls at l3 l2 l0 l1 ⊢
      refine r_goto 12 (q47 (i := 43) rfl) (by decide) ?_
      exact ih (i + 1) (by omega) ls l3 l2 l0 l1
    · have c57 : ¬ (nI (i / 2 ^ (v - 6) % 2) = 0) := c57
      have c57 : i / 2 ^ (v - 6) % 2 = 1 := by
        rcases Nat.mod_two_eq_zero_or_one (i / 2 ^ (v - 6)) with q | q
        · exact absurd (by rw [q]; rfl) c57
        · exact q
      refine r_ldc2 (v := (-1)) (q47 (i := 38) rfl) rfl ?_
      refine r_goto 67 (q47 (i := 39) rfl) (by decide) ?_
      refine r_lasN (q47 (i := 41) rfl) hRw.2.1 hix (by omega) ?_
      rw [sJ_rJ, show u1 (rowF (hJ h ρ) (c * rw) (T0 c) i) (c * rw + i) _ = rowF (hJ h ρ) (c * rw) (T0 c) (i + 1) by rw [← rowF_s, ev]; unfold tin; rw [if_neg (by omega)]; first | rw [if_pos c57] | rw [if_neg c57]]
      refine r_iinc (y := nI (i + 1)) (q47 (i := 42) rfl) (Nat.le_of_ble_eq_true rfl) l3 (nI_1 i) rfl ?_
      have l2 := lk1 (k := 3) (v := .int (nI (i + 1))) l2 (by decide) (Or.inl rfl)
      have l0 := lk1 (k := 3) (v := .int (nI (i + 1))) l0 (by decide) (Or.inr (by decide))
      have l1 := lk1 (k := 3) (v := .int (nI (i + 1))) l1 (by decide) (Or.inr (by decide))
      have l3 := lk0 ls 3 (.int (nI (i + 1)))
      generalize lset1 ls 3 (.int (nI (i + 1))) = ls at l3 l2 l0 l1 ⊢
      refine r_goto 12 (q47 (i := 43) rfl) (by decide) ?_
      exact ih (i + 1) (by omega) ls l3 l2 l0 l1
set_option maxHeartbeats 2000000 in
set_option maxRecDepth 10000 in
theorem sp_makeInput {d : Nat} {h : hp} (S : Sh h) {ρ n rw c : Nat} (G : GC h ρ n rw (gini c)) (hPt : Pt h) {v : Nat} (hcv : c = v + 1) (hv : v < n) (hρ1 : ρ ≠ 1) : Run (d + 1 + 1) 47 [.ref 21, .int (nI v)] h 0 0 none (nodH (rJ h ρ (rowF (hJ h ρ) (c * rw) (T0 c) rw)) c 0 0) := by
  have G0 := G
  obtain ⟨⟨⟨ℓ, hRw, hℓ, hℓ1⟩, hr1, hr2, hn12⟩, ⟨e7, e8, e9, hc⟩, eLR, eCh, eNx, eRow⟩ := G
  refine Run.of (Nat.le_of_ble_eq_true rfl) (fun Q hQ => ?_)
  show Wp (Ex (d + 1)) 47 Q 0 [(0, .ref 21), (1, .int (nI v))] [] h 0 0
  refine r_aload_n (q47 (i := 0) rfl) rfl ?_
  refine r_getI (x := nI c) (q47 (i := 1) rfl) rfl (by decide) (k_21 S) (fun _ _ _ => rfl) e9 ?_
  refine r_aload_n (q47 (i := 2) rfl) rfl ?_
  refine r_getI (x := nI rw) (q47 (i := 3) rfl) rfl (by decide) (k_21 S) (fun _ _ _ => rfl) e7 ?_
  refine r_imul (q47 (i := 4) rfl) ?_
  rw [show ((nI c) * (nI rw) : Int32) = nI (c * rw) from pk_mul _ _]
  refine r_istore_n (ls' := [(2, .int (nI (c * rw))), (0, .ref 21), (1, .int (nI v))]) (q47 (i := 5) rfl) (Nat.le_of_ble_eq_true rfl) rfl ?_
  refine r_iconst (v := 0) (q47 (i := 6) rfl) (by decide) ?_
  refine r_istore_n (ls' := [(3, .int 0), (2, .int (nI (c * rw))), (0, .ref 21), (1, .int (nI v))]) (q47 (i := 7) rfl) (Nat.le_of_ble_eq_true rfl) rfl ?_
  have e0 : h = rJ h ρ (rowF (hJ h ρ) (c * rw) (T0 c) 0) := by rw [rowF_0, rJ_self]
  have fin : ∀ ls : List (Nat × Value), ls.lookup 3 = some (.int (nI rw)) → ls.lookup 2 = some (.int (nI (c * rw))) → ls.lookup 0 = some (.ref 21) → ls.lookup 1 = some (.int (nI v)) → Wp (Ex (d + 1)) 47 Q 74 ls [] (rJ h ρ (rowF (hJ h ρ) (c * rw) (T0 c) rw)) 0 0 := ?_
  · conv => arg 7; rw [e0]
    by_cases hv6 : v < 6
    · exact lp_inputLo S G0 (by omega) hPt hcv hv6 hρ1 fin rw 0 (by omega) _ rfl rfl rfl rfl
    · exact lp_inputHi S G0 (by omega) hcv (by omega) (by omega) fin rw 0 (by omega) _ rfl rfl rfl rfl
  intro ls l3 l2 l0 l1
  refine r_aload_n (q47 (i := 44) rfl) l0 ?_
  refine r_iconst (v := 0) (q47 (i := 45) rfl) (by decide) ?_
  refine r_iconst (v := 0) (q47 (i := 46) rfl) (by decide) ?_
  have S1 : Sh (rJ h ρ (rowF (hJ h ρ) (c * rw) (T0 c) rw)) := Sh.to S rfl
  refine r_cV (d := _) (q47 (i := 47) rfl) rfl rfl rfl (k_21 S1) (Nat.le_of_ble_eq_true rfl) (Nat.zero_le _) (Nat.zero_le _) (sp_addNode (x := c) S1 e9 (by omega) 0 0) ?_
  show Wp _ _ _ 80 ls [] (nodH (rJ h ρ (rowF (hJ h ρ) (c * rw) (T0 c) rw)) c 0 0) _ _
  exact r_vret (q47 (i := 48) rfl) rfl hQ
end
section
/-! ===== restart ===== -/
def litI (f : Nat → Int32) (i : Nat) : Nat → Int32 := fun q => if q < i then nI (2 * (q + 1)) else f q
theorem litI_s (f : Nat → Int32) (i : Nat) : u1 (litI f i) i (nI (2 * (i + 1))) = litI f (i + 1) := by
  funext q
  unfold u1 litI
  by_cases e : q = i
  · rw [if_pos e, if_pos (by omega), e]
  · rw [if_neg e]
    by_cases e2 : q < i
    · rw [if_pos e2, if_pos (by omega)]
    · rw [if_neg e2, if_neg (by omega)]
theorem litI_0 (f : Nat → Int32) : litI f 0 = f := by
  funext q
  exact if_neg (Nat.not_lt_zero q)
def FrL (ρ : Nat) (h h' : hp) : Prop := h'.2.2 = h.2.2 ∧ (∀ k, k ≠ 9 → k ≠ 16 → (k < 21 ∨ 25 < k) → hI h' k = hI h k) ∧ (∀ k, k ≠ ρ → hJ h' k = hJ h k) ∧ ∀ j, j ≠ 9 → hI h' 21 j = hI h 21 j
theorem FrG.L {ρ : Nat} {h h' : hp} (a : FrG ρ h h') : FrL ρ h h' := ⟨a.1, fun k _ _ hk => a.2.1 k hk, a.2.2.1, a.2.2.2⟩
theorem FrL.tr {ρ : Nat} {h h' h'' : hp} (a : FrL ρ h h') (b : FrL ρ h' h'') : FrL ρ h h'' := ⟨b.1.trans a.1, fun k x y hk => (b.2.1 k x y hk).trans (a.2.1 k x y hk), fun k hk => (b.2.2.1 k hk).trans (a.2.2.1 k hk), fun j hj => (b.2.2.2 j hj).trans (a.2.2.2 j hj)⟩
theorem FrL.lits (ρ : Nat) (h : hp) (i : Nat) (x y : Int32) : FrL ρ h (sI (sI h 9 i x) 16 i y) := by
  refine ⟨rfl, fun k a b c => ?_, fun k hk => rfl, fun j hj => rfl⟩
  show u2 (u2 h.1 9 i x) 16 i y k = _
  rw [u2_n b, u2_n a]
theorem Pt.to {h h' : hp} (P : Pt h) (e : h'.2.2 = h.2.2) (ej : hJ h' 1 = hJ h 1) : Pt h' := by
  refine ⟨?_, ej.trans P.2⟩
  have : hK h' 1 = hK h 1 := by unfold hK; rw [e]
  exact this.trans P.1
set_option maxHeartbeats 2000000 in
set_option maxRecDepth 10000 in
theorem lp_restart {d : Nat} {hB : hp} {ρ n rw : Nat} (hρ1 : ρ ≠ 1) (hn : n ≤ 12) : ∀ (k i : Nat) (h : hp), i + k = n → Sh h → Pt h → GC h ρ n rw (gini (i + 1)) → FrL ρ hB h → hI h 9 = litI (hI hB 9) i → hI h 16 = litI (hI hB 16) i →
    ∃ h', (GC h' ρ n rw (gini (n + 1)) ∧ FrL ρ hB h' ∧ hI h' 9 = litI (hI hB 9) n ∧ hI h' 16 = litI (hI hB 16) n) ∧ ∀ (Q : resP), (∀ bc bs (ls : List (Nat × Value)), ls.lookup 0 = some (.ref 21) → Wp (Ex (d + 2)) 45 Q 120 ls [] h' bc bs) → ∀ (bc bs : Nat) (ls : List (Nat × Value)), ls.lookup 2 = some (.int (nI i)) → ls.lookup 0 = some (.ref 21) → ls.lookup 1 = some (.int (nI n)) → Wp (Ex (d + 2)) 45 Q 76 ls [] h bc bs := by
  intro k
  induction k with
  | zero =>
    intro i h hi S P G F e1 e2
    have e : i = n := by omega
    subst e
    refine ⟨h, ⟨G, F, e1, e2⟩, ?_⟩
    intro Q hQ bc bs ls l2 l0 l1
    refine r_iload_n (q45 (i := 43) rfl) l2 ?_
    refine r_iload_n (q45 (i := 44) rfl) l1 ?_
    refine r_icmp 120 (q45 (i := 45) rfl) (by decide) (fun _ => ?_) (fun c => absurd (show nI i ≤ nI i from Int32.le_refl _) c)
    exact hQ bc bs ls l0
  | succ k ih =>
    intro i h hi S P G F e1 e2
    have R1 := sp_makeInput (d := d) S G P rfl (show i < n by omega) hρ1
    obtain ⟨G1, F1⟩ := ini_ok G (by omega)
    generalize hh1 : nodH (rJ h ρ (rowF (hJ h ρ) ((i + 1) * rw) (T0 (i + 1)) rw)) (i + 1) 0 0 = h1 at R1 G1 F1
    clear hh1
    have S1 := S.to F1.1
    have P1 := P.to F1.1 (F1.2.2.1 1 (Ne.symm hρ1))
    have a1 : hI h1 9 = litI (hI hB 9) i := (F1.2.1 9 (by decide)).trans e1
    have a2 : hI h1 16 = litI (hI hB 16) i := (F1.2.1 16 (by decide)).trans e2
    obtain ⟨h', hp', hk'⟩ := ih (i + 1) (sI (sI h1 9 i (nI (2 * (i + 1)))) 16 i (nI (2 * (i + 1)))) (by omega) (Sh.to S1 rfl) (P1.to rfl rfl) G1 ((F.tr F1.L).tr (FrL.lits ρ h1 i _ _))
      (by show u1 (hI h1 9) i _ = _; rw [a1, litI_s]) (by show u1 (hI h1 16) i _ = _; rw [a2, litI_s])
    refine ⟨h', hp', ?_⟩
    intro Q hQ bc bs ls l2 l0 l1
    refine r_iload_n (q45 (i := 43) rfl) l2 ?_
    refine r_iload_n (q45 (i := 44) rfl) l1 ?_
    refine r_icmp 120 (q45 (i := 45) rfl) (by decide) (fun c => absurd c (show ¬ (nI n ≤ nI i) from nI_ge (by omega) (by omega))) (fun _ => ?_)
    refine r_aload_n (q45 (i := 46) rfl) l0 ?_
    refine r_iload_n (q45 (i := 47) rfl) l2 ?_
    refine r_cV (d := _) (q45 (i := 48) rfl) rfl rfl rfl (k_21 S) (Nat.le_of_ble_eq_true rfl) (Nat.zero_le _) (Nat.zero_le _) R1 ?_
    show Wp _ _ _ 86 ls [] h1 _ _
    refine r_aload_n (q45 (i := 49) rfl) l0 ?_
    refine r_getR (b := 3) (q45 (i := 50) rfl) rfl (by decide) (k_21 S1) (fun _ _ _ => rfl) (r_21_0 S1) ?_
    refine r_getR (b := 9) (q45 (i := 51) rfl) rfl (by decide) (k_3 S1) (fun _ _ _ => rfl) (r_3_5 S1) ?_
    refine r_iload_n (q45 (i := 52) rfl) l2 ?_
    refine r_iconst (v := 2) (q45 (i := 53) rfl) (by decide) ?_
    refine r_iload_n (q45 (i := 54) rfl) l2 ?_
    refine r_iconst (v := 1) (q45 (i := 55) rfl) (by decide) ?_
    refine r_iadd (q45 (i := 56) rfl) ?_
    rw [show ((nI i) + 1 : Int32) = nI (i + 1) from nI_1 i]
    refine r_imul (q45 (i := 57) rfl) ?_
    rw [show (2 * (nI (i + 1)) : Int32) = nI (2 * (i + 1)) from pk_mul 2 _]
    refine r_iasN (q45 (i := 58) rfl) (k_9 S1) (by omega) (by decide) ?_
    refine r_aload_n (q45 (i := 59) rfl) l0 ?_
    refine r_getR (b := 10) (q45 (i := 60) rfl) rfl (by decide) (k_21 S1) (fun _ _ _ => rfl) (r_21_1 S1) ?_
    refine r_getR (b := 16) (q45 (i := 61) rfl) rfl (by decide) (k_10 S1) (fun _ _ _ => rfl) (r_10_5 S1) ?_
    refine r_iload_n (q45 (i := 62) rfl) l2 ?_
    refine r_iconst (v := 2) (q45 (i := 63) rfl) (by decide) ?_
    refine r_iload_n (q45 (i := 64) rfl) l2 ?_
    refine r_iconst (v := 1) (q45 (i := 65) rfl) (by decide) ?_
    refine r_iadd (q45 (i := 66) rfl) ?_
    rw [show ((nI i) + 1 : Int32) = nI (i + 1) from nI_1 i]
    refine r_imul (q45 (i := 67) rfl) ?_
    rw [show (2 * (nI (i + 1)) : Int32) = nI (2 * (i + 1)) from pk_mul 2 _]
    refine r_iasN (q45 (i := 68) rfl) (k_16 S1) (by omega) (by decide) ?_
    refine r_iinc (y := nI (i + 1)) (q45 (i := 69) rfl) (Nat.le_of_ble_eq_true rfl) l2 (nI_1 i) rfl ?_
    have l0 := lk1 (k := 2) (v := .int (nI (i + 1))) l0 (by decide) (Or.inr (by decide))
    have l1 := lk1 (k := 2) (v := .int (nI (i + 1))) l1 (by decide) (Or.inl rfl)
    have l2 := lk0 ls 2 (.int (nI (i + 1)))
    generalize lset1 ls 2 (.int (nI (i + 1))) = ls at l2 l0 l1 ⊢
    refine r_goto 76 (q45 (i := 70) rfl) (by decide) ?_
    exact hk' Q hQ bc bs ls l2 l0 l1
set_option maxHeartbeats 2000000 in
set_option maxRecDepth 10000 in
theorem rs_55 {d : Nat} {h : hp} (S : Sh h) (P : Pt h) {ρ ℓ n rw : Nat} (hRw : Rw h ρ ℓ) (hℓ : 973 * rw ≤ ℓ) (hℓ1 : ℓ < 100000) (hr1 : 1 ≤ rw) (hr2 : rw ≤ 64) (hn : n ≤ 12) (e7 : hI h 21 7 = nI rw) (e8 : hI h 21 8 = nI n) :
    ∃ h', (GC h' ρ n rw (gini (n + 1)) ∧ h'.2.2 = h.2.2 ∧ (∀ k, k ≠ 9 → k ≠ 16 → (k < 21 ∨ 25 < k) → hI h' k = hI h k) ∧ (∀ k, k ≠ ρ → hJ h' k = hJ h k) ∧ (hI h' 21 10 = 0 ∧ hI h' 21 11 = 0 ∧ hI h' 21 12 = 0) ∧ ∀ v, v < n → hI h' 9 v = nI (2 * (v + 1)) ∧ hI h' 16 v = nI (2 * (v + 1))) ∧
      ∀ (Q : resP), Q none h' → ∀ bc bs, Wp (Ex (d + 2)) 45 Q 55 [(0, .ref 21), (1, .int (nI n))] [] h bc bs := by
  have hρ1 : ρ ≠ 1 := by rcases hRw.2.2 with q | q <;> omega
  have GB : GC (sI (sI (sI h 21 9 0) 21 10 0) 21 11 0) ρ n rw (gini 0) := ⟨⟨⟨ℓ, hRw, hℓ, hℓ1⟩, hr1, hr2, hn⟩, ⟨e7, e8, rfl, Nat.zero_le _⟩, fun k hk => absurd hk (Nat.not_lt_zero k), fun p hp => absurd hp (Nat.not_lt_zero p), fun k _ hk => absurd hk (Nat.not_lt_zero k), fun x w hx => absurd hx (Nat.not_lt_zero x)⟩
  generalize hBe : sI (sI (sI h 21 9 0) 21 10 0) 21 11 0 = hB at GB
  have SB : Sh hB := by rw [← hBe]; exact Sh.to S rfl
  have PB : Pt hB := by rw [← hBe]; exact P.to rfl rfl
  have R1 := sp_makeFalse (d := d) SB GB
  obtain ⟨G1, F1⟩ := ini_ok GB (Nat.zero_le n)
  generalize nodH (rJ hB ρ (rowF (hJ hB ρ) (0 * rw) (T0 0) rw)) 0 0 0 = h1 at R1 G1 F1
  have S1 := SB.to F1.1
  have P1 := PB.to F1.1 (F1.2.2.1 1 (Ne.symm hρ1))
  obtain ⟨h2, ⟨G2, F2, b1, b2⟩, hk⟩ := lp_restart (d := d) (hB := h1) (n := n) (rw := rw) hρ1 hn n 0 h1 (by omega) S1 P1 G1 (FrG.rf ρ h1).L (by rw [litI_0]) (by rw [litI_0])
  have F3 := F1.L.tr F2
  have S2 := SB.to F3.1
  refine ⟨sI h2 21 12 0, ⟨G2, ?_, fun k a b c => ?_, fun k hkρ => ?_, ⟨?_, ?_, rfl⟩, fun v hv => ⟨?_, ?_⟩⟩, ?_⟩
  · show h2.2.2 = h.2.2
    rw [F3.1, ← hBe]
    rfl
  · show u2 h2.1 21 12 0 k = _
    rw [u2_n (by omega)]
    refine (F3.2.1 k a b c).trans ?_
    rw [← hBe]
    show u2 (u2 (u2 h.1 21 9 0) 21 10 0) 21 11 0 k = _
    rw [u2_n (by omega), u2_n (by omega), u2_n (by omega)]
  · show hJ h2 k = _
    rw [F3.2.2.1 k hkρ, ← hBe]
    rfl
  · show u1 (hI h2 21) 12 0 10 = 0
    rw [u1_n (by decide), F3.2.2.2 10 (by decide), ← hBe]
    rfl
  · show u1 (hI h2 21) 12 0 11 = 0
    rw [u1_n (by decide), F3.2.2.2 11 (by decide), ← hBe]
    rfl
  · show hI h2 9 v = _
    rw [b1]
    exact if_pos hv
  · show hI h2 16 v = _
    rw [b2]
    exact if_pos hv
  · intro Q hQ bc bs
    refine r_aload_n (q45 (i := 30) rfl) rfl ?_
    refine r_iconst (v := 0) (q45 (i := 31) rfl) (by decide) ?_
    refine r_putI (q45 (i := 32) rfl) rfl (by decide) (k_21 S) rfl rfl ?_
    refine r_aload_n (q45 (i := 33) rfl) rfl ?_
    refine r_iconst (v := 0) (q45 (i := 34) rfl) (by decide) ?_
    refine r_putI (q45 (i := 35) rfl) rfl (by decide) (k_21 S) rfl rfl ?_
    refine r_aload_n (q45 (i := 36) rfl) rfl ?_
    refine r_iconst (v := 0) (q45 (i := 37) rfl) (by decide) ?_
    refine r_putI (q45 (i := 38) rfl) rfl (by decide) (k_21 S) rfl rfl ?_
    rw [hBe]
    refine r_aload_n (q45 (i := 39) rfl) rfl ?_
    refine r_cV (d := _) (q45 (i := 40) rfl) rfl rfl rfl (k_21 SB) (Nat.le_of_ble_eq_true rfl) (Nat.zero_le _) (Nat.zero_le _) R1 ?_
    show Wp _ _ _ 74 [(0, .ref 21), (1, .int (nI n))] [] h1 _ _
    refine r_iconst (v := 0) (q45 (i := 41) rfl) (by decide) ?_
    refine r_istore_n (ls' := [(2, .int 0), (0, .ref 21), (1, .int (nI n))]) (q45 (i := 42) rfl) (Nat.le_of_ble_eq_true rfl) rfl ?_
    exact hk Q (fun bc bs ls l0 => by
        refine r_aload_n (q45 (i := 71) rfl) l0 ?_
        refine r_iconst (v := 0) (q45 (i := 72) rfl) (by decide) ?_
        refine r_putZ (q45 (i := 73) rfl) rfl (by decide) (k_21 S2) rfl rfl (by decide) ?_
        exact r_vret (q45 (i := 74) rfl) rfl hQ) bc bs _ rfl rfl rfl
end
section
/-! ===== restart, whole ===== -/
def FrB (h h' : hp) : Prop := (∀ k, k ≠ 9 → k ≠ 16 → (k < 21 ∨ 25 < k) → k < 1327 → hI h' k = hI h k) ∧ (∀ k, k < 1327 → k ≠ 26 → hJ h' k = hJ h k) ∧ (∀ k, k < 1327 → hK h' k = hK h k) ∧ (∀ k j, k < 1327 → ¬ (k = 21 ∧ j = 6) → hR h' k j = hR h k j) ∧ 1327 ≤ hN h'
theorem FrB.rf {h : hp} (hn : 1327 ≤ hN h) : FrB h h := ⟨fun _ _ _ _ _ => rfl, fun _ _ _ => rfl, fun _ _ => rfl, fun _ _ _ _ => rfl, hn⟩
theorem FrB.tr {h h' h'' : hp} (a : FrB h h') (b : FrB h' h'') : FrB h h'' := ⟨fun k x y z v => (b.1 k x y z v).trans (a.1 k x y z v), fun k x y => (b.2.1 k x y).trans (a.2.1 k x y), fun k x => (b.2.2.1 k x).trans (a.2.2.1 k x), fun k i x y => (b.2.2.2.1 k i x y).trans (a.2.2.2.1 k i x y), b.2.2.2.2⟩
theorem FrB.S {h h' : hp} (a : FrB h h') (S : Sh h) : Sh h' := ⟨fun k x y => (a.2.2.1 k y).trans (S.1 k x y), fun k j x y z => (a.2.2.2.1 k j y z).trans (S.2 k j x y z)⟩
theorem FrB.P {h h' : hp} (a : FrB h h') (P : Pt h) : Pt h' := ⟨(a.2.2.1 1 (by decide)).trans P.1, (a.2.1 1 (by decide) (by decide)).trans P.2⟩
theorem FrG.B {ρ : Nat} {h h' : hp} (a : FrG ρ h h') (hρ : ρ = 26 ∨ 1327 ≤ ρ) (hn : 1327 ≤ hN h) : FrB h h' := by
  refine ⟨fun k _ _ z _ => a.2.1 k z, fun k x y => a.2.2.1 k (by omega), fun k _ => ?_, fun k i _ _ => ?_, ?_⟩
  · unfold hK; rw [a.1]
  · unfold hR; rw [a.1]
  · unfold hN; rw [a.1]; exact hn
theorem pow6 : ∀ k, k ≤ 6 → 1 ≤ 2 ^ k ∧ 2 ^ k ≤ 64 := by decide
theorem pow_le {a b : Nat} (h : a ≤ b) : 2 ^ a ≤ 2 ^ b := Nat.pow_le_pow_right (by decide) h
set_option maxHeartbeats 2000000 in
set_option maxRecDepth 10000 in
theorem rs_0 {d : Nat} {h : hp} (S : Sh h) (P : Pt h) {ρ e n : Nat} (hRw : Rw h ρ (973 * 2 ^ e)) (he : e ≤ 6) (hn : n ≤ 12) (hNN : 1327 ≤ hN h) {Q : resP} {bc bs : Nat} (hk : Wp (Ex (d + 2)) 45 Q 25 [(0, .ref 21), (1, .int (nI n))] [] (sI (sI h 21 8 (nI n)) 21 7 (nI (2 ^ (n - 6)))) bc bs) : Wp (Ex (d + 2)) 45 Q 0 [(0, .ref 21), (1, .int (nI n))] [] h bc bs := by
  refine r_aload_n (q45 (i := 0) rfl) rfl ?_
  refine r_iload_n (q45 (i := 1) rfl) rfl ?_
  refine r_putI (q45 (i := 2) rfl) rfl (by decide) (k_21 S) rfl rfl ?_
  refine r_aload_n (q45 (i := 3) rfl) rfl ?_
  refine r_iload_n (q45 (i := 4) rfl) rfl ?_
  refine r_bipush (v := 6) (q45 (i := 5) rfl) (by decide) ?_
  refine r_icmp 16 (q45 (i := 6) rfl) (by decide) (fun c9 => ?_) (fun c9 => ?_)
  · have c9 : 6 < nI n := c9
    have c9 : 6 < n := (nI_ltI (a := 6) (by decide) (by omega)).mp c9
    refine r_iconst (v := 1) (q45 (i := 9) rfl) (by decide) ?_
    refine r_iload_n (q45 (i := 10) rfl) rfl ?_
    refine r_bipush (v := 6) (q45 (i := 11) rfl) (by decide) ?_
    refine r_isub (q45 (i := 12) rfl) ?_
    rw [show ((nI n) - 6 : Int32) = nI (n - 6) from pk_sub (b := 6) (by omega)]
    refine r_ishl (q45 (i := 13) rfl) ?_
    rw [show (1 <<< ((nI (n - 6)) &&& 31) : Int32) = nI (2 ^ (n - 6)) from (by have := pk_shlN (n := 1) (nI (n - 6) &&& 31) (n - 6) (sh31 _ (by omega)) (by have := (pow6 (n - 6) (by omega)).2; omega); rw [Nat.one_mul] at this; exact this)]
    refine r_putI (q45 (i := 14) rfl) rfl (by decide) (k_21 S) rfl rfl ?_
    exact hk
  · have c9 : ¬ (6 < nI n) := c9
    have c9 : n ≤ 6 := by
        rcases Nat.lt_or_ge 6 n with q | q
        · exact absurd (nI_lt (a := 6) q (by omega)) c9
        · exact q
    refine r_iconst (v := nI (2 ^ (n - 6))) (q45 (i := 7) rfl) (by rw [show n - 6 = 0 by omega]; decide) ?_
    refine r_goto 22 (q45 (i := 8) rfl) (by decide) ?_
    refine r_putI (q45 (i := 14) rfl) rfl (by decide) (k_21 S) rfl rfl ?_
    exact hk
set_option maxHeartbeats 2000000 in
set_option maxRecDepth 10000 in
theorem sp_restart {d : Nat} {h : hp} (S : Sh h) (P : Pt h) {ρ e n : Nat} (hRw : Rw h ρ (973 * 2 ^ e)) (he : e ≤ 6) (hn : n ≤ 12) (hNN : 1327 ≤ hN h) : ∃ h' ρ' e' mc ms, Run (d + 2 + 1) 45 [.ref 21, .int (nI n)] h mc ms none h' ∧ (GC h' ρ' n (2 ^ (n - 6)) (gini (n + 1)) ∧ Rw h' ρ' (973 * 2 ^ e') ∧ e' ≤ 6 ∧ e ≤ e' ∧ mc ≤ e' - e ∧ ms ≤ 62272 * (e' - e)) ∧ FrB h h' ∧ (hI h' 21 10 = 0 ∧ hI h' 21 11 = 0 ∧ hI h' 21 12 = 0) ∧ ∀ v, v < n → hI h' 9 v = nI (2 * (v + 1)) ∧ hI h' 16 v = nI (2 * (v + 1)) := by
  obtain ⟨p1, p2⟩ := pow6 (n - 6) (by omega)
  obtain ⟨p3, p4⟩ := pow6 e he
  by_cases hg : n - 6 ≤ e
  · have hle := pow_le hg
    obtain ⟨h', ⟨G, f1, f2, f3, f4, f5⟩, hk⟩ := rs_55 (d := d) (h := (sI (sI h 21 8 (nI n)) 21 7 (nI (2 ^ (n - 6))))) (ρ := ρ) (ℓ := 973 * 2 ^ e) (n := n) (rw := 2 ^ (n - 6)) (Sh.to S rfl) (P.to rfl rfl) hRw (by omega) (by omega) p1 p2 hn rfl rfl
    have hρ := hRw.2.2
    refine ⟨h', ρ, e, 0, 0, ?_, ⟨G, ?_, he, Nat.le_refl e, Nat.zero_le _, Nat.zero_le _⟩, ⟨fun k a b c q => ?_, fun k a b => ?_, fun k a => ?_, fun k i a b => ?_, ?_⟩, f4, f5⟩
    · refine Run.of (Nat.le_of_ble_eq_true rfl) (fun Q hQ => ?_)
      refine rs_0 S P hRw he hn hNN ?_
      refine r_aload_n (q45 (i := 15) rfl) rfl ?_
      refine r_getR (b := ρ) (q45 (i := 16) rfl) rfl (by decide) (k_21 S) (fun _ _ _ => rfl) hRw.1 ?_
      refine r_alen (q45 (i := 17) rfl) hRw.2.1 (by decide) (by decide) ?_
      refine r_sipush (v := 973) (q45 (i := 18) rfl) (by decide) ?_
      refine r_aload_n (q45 (i := 19) rfl) rfl ?_
      refine r_getI (x := nI (2 ^ (n - 6))) (q45 (i := 20) rfl) rfl (by decide) (k_21 S) (fun _ _ _ => rfl) rfl ?_
      refine r_imul (q45 (i := 21) rfl) ?_
      rw [show (973 * (nI (2 ^ (n - 6))) : Int32) = nI (973 * 2 ^ (n - 6)) from pk_mul 973 _]
      refine r_icmp 55 (q45 (i := 22) rfl) (by decide) (fun _ => ?_) (fun c => absurd (show nI (973 * 2 ^ (n - 6)) ≤ Int32.ofNat (973 * 2 ^ e) from nI_le (by omega) (by omega)) c)
      exact hk Q hQ _ _
    · have : h'.2.2 = h.2.2 := f1
      unfold Rw hK hR at hRw ⊢
      rw [this]
      exact hRw
    · refine (f2 k a b c).trans ?_
      show u2 (u2 h.1 21 8 _) 21 7 _ k = _
      rw [u2_n (by omega), u2_n (by omega)]
    · exact f3 k (by omega)
    · unfold hK; rw [f1]; rfl
    · unfold hR; rw [f1]; rfl
    · unfold hN; rw [f1]; exact hNN
  · have hlt : e < n - 6 := by omega
    have hle := pow_le (show e + 1 ≤ n - 6 by omega)
    rw [Nat.pow_succ] at hle
    obtain ⟨hZ, hZe⟩ : ∃ hZ, hZ = sR (hnew (sI (sI h 21 8 (nI n)) 21 7 (nI (2 ^ (n - 6)))) 2 (973 * 2 ^ (n - 6))) 21 6 (some (hN h)) := ⟨_, rfl⟩
    have zK : ∀ k, k < 1327 → hK hZ k = hK h k := fun k hk => by rw [hZe]; exact u1_n (f := hK h) (show k ≠ hN h by omega)
    have zR : ∀ k j, k < 1327 → ¬ (k = 21 ∧ j = 6) → hR hZ k j = hR h k j := fun k j hk hj => by
      rw [hZe]
      show u2 (u1 (hR h) (hN h) (fun _ => none)) 21 6 (some (hN h)) k j = _
      have e1 : u1 (hR h) (hN h) (fun _ => none) k = hR h k := u1_n (by omega)
      by_cases q : k = 21
      · subst q
        rw [u2_s, u1_n (by omega), e1]
      · rw [u2_n q, e1]
    have zI : ∀ k, k ≠ 21 → k < 1327 → hI hZ k = hI h k := fun k a b => by
      rw [hZe]
      show u1 (u2 (u2 h.1 21 8 _) 21 7 _) (hN h) (fun _ => 0) k = _
      rw [u1_n (by omega), u2_n a, u2_n a]
    have zJ : ∀ k, k < 1327 → hJ hZ k = hJ h k := fun k a => by
      rw [hZe]
      show u1 (hJ h) (hN h) (fun _ => 0) k = _
      exact u1_n (by omega)
    have SZ : Sh hZ := ⟨fun k a b => (zK k b).trans (S.1 k a b), fun k i a b c => (zR k i b c).trans (S.2 k i a b c)⟩
    have PZ : Pt hZ := ⟨(zK 1 (by decide)).trans P.1, (zJ 1 (by decide)).trans P.2⟩
    have RZ : Rw hZ (hN h) (973 * 2 ^ (n - 6)) := by
      rw [hZe]
      refine ⟨?_, u1_s, Or.inr hNN⟩
      show u2 (u1 (hR h) (hN h) (fun _ => none)) 21 6 (some (hN h)) 21 6 = _
      rw [u2_s, u1_s]
    have z7 : hI hZ 21 7 = nI (2 ^ (n - 6)) := by
      rw [hZe]
      show u1 (u2 (u2 h.1 21 8 _) 21 7 _) (hN h) (fun _ => 0) 21 7 = _
      rw [u1_n (by omega)]
      rfl
    have z8 : hI hZ 21 8 = nI n := by
      rw [hZe]
      show u1 (u2 (u2 h.1 21 8 _) 21 7 _) (hN h) (fun _ => 0) 21 8 = _
      rw [u1_n (by omega)]
      rfl
    obtain ⟨h', ⟨G, f1, f2, f3, f4, f5⟩, hk⟩ := rs_55 (d := d) (h := hZ) (ρ := hN h) (ℓ := 973 * 2 ^ (n - 6)) (n := n) (rw := 2 ^ (n - 6)) SZ PZ RZ (by omega) (by omega) p1 p2 hn z7 z8
    refine ⟨h', hN h, n - 6, 1, 973 * 2 ^ (n - 6), ?_, ⟨G, ?_, by omega, by omega, by omega, ?_⟩, ⟨fun k a b c q => ?_, fun k a b => ?_, fun k a => ?_, fun k i a b => ?_, ?_⟩, f4, f5⟩
    · refine Run.of (Nat.le_of_ble_eq_true rfl) (fun Q hQ => ?_)
      refine rs_0 S P hRw he hn hNN ?_
      refine r_aload_n (q45 (i := 15) rfl) rfl ?_
      refine r_getR (b := ρ) (q45 (i := 16) rfl) rfl (by decide) (k_21 S) (fun _ _ _ => rfl) hRw.1 ?_
      refine r_alen (q45 (i := 17) rfl) hRw.2.1 (by decide) (by decide) ?_
      refine r_sipush (v := 973) (q45 (i := 18) rfl) (by decide) ?_
      refine r_aload_n (q45 (i := 19) rfl) rfl ?_
      refine r_getI (x := nI (2 ^ (n - 6))) (q45 (i := 20) rfl) rfl (by decide) (k_21 S) (fun _ _ _ => rfl) rfl ?_
      refine r_imul (q45 (i := 21) rfl) ?_
      rw [show (973 * (nI (2 ^ (n - 6))) : Int32) = nI (973 * 2 ^ (n - 6)) from pk_mul 973 _]
      refine r_icmp 55 (q45 (i := 22) rfl) (by decide) (fun c => absurd c (show ¬ (nI (973 * 2 ^ (n - 6)) ≤ Int32.ofNat (973 * 2 ^ e)) from nI_ge (by omega) (by omega))) (fun _ => ?_)
      refine r_aload_n (q45 (i := 23) rfl) rfl ?_
      refine r_sipush (v := 973) (q45 (i := 24) rfl) (by decide) ?_
      refine r_aload_n (q45 (i := 25) rfl) rfl ?_
      refine r_getI (x := nI (2 ^ (n - 6))) (q45 (i := 26) rfl) rfl (by decide) (k_21 S) (fun _ _ _ => rfl) rfl ?_
      refine r_imul (q45 (i := 27) rfl) ?_
      rw [show (973 * (nI (2 ^ (n - 6))) : Int32) = nI (973 * 2 ^ (n - 6)) from pk_mul 973 _]
      refine r_newa (n := 973 * 2 ^ (n - 6)) (q45 (i := 28) rfl) (by decide) (by decide) (nI_pos (by omega)) (nI_clamp (by omega)) (by omega) (Nat.le_refl 1) (Nat.le_refl _) ?_
      refine r_putR (q45 (i := 29) rfl) rfl (by decide) (show hK (hnew (sI (sI h 21 8 (nI n)) 21 7 (nI (2 ^ (n - 6)))) 2 (973 * 2 ^ (n - 6))) 21 = (0, 3) from (u1_n (f := hK h) (show 21 ≠ hN h by omega)).trans (k_21 S)) (Or.inl rfl) (Or.inr ⟨_, rfl⟩) ?_
      have := hk Q hQ 0 0
      rw [hZe] at this
      rw [Nat.sub_self, Nat.sub_self]
      exact this
    · have : h'.2.2 = hZ.2.2 := f1
      unfold Rw hK hR at RZ ⊢
      rw [this]
      exact RZ
    · have hp6 : 2 ^ (n - 6) ≤ 64 * (n - 6 - e) := Nat.le_trans p2 (by omega)
      omega
    · exact (f2 k a b c).trans (zI k (by omega) q)
    · exact (f3 k (by omega)).trans (zJ k a)
    · have := zK k a
      unfold hK at this ⊢; rw [f1]; exact this
    · have := zR k i a b
      unfold hR at this ⊢; rw [f1]; exact this
    · unfold hN; rw [f1, hZe]; show 1327 ≤ h.2.2.2.2 + 1; unfold hN at hNN; omega
end
section
/-! ===== bringUp ===== -/
def gmk (n : Nat) (c : cir) (st : gs × (Nat → Nat)) : Nat → gs × (Nat → Nat)
  | 0 => st
  | f + 1 => gstep n c (gmk n c st f) f
/-- the first circuit's graph; then both -/
def gA (n : Nat) (c0 : cir) (f : Nat) : gs × (Nat → Nat) := gmk n c0 (gini (n + 1), fun _ => 0) f
def gB (n : Nat) (c0 c1 : cir) (f s : Nat) : gs × (Nat → Nat) := gmk n c1 ((gA n c0 f).1, fun _ => 0) s
theorem gini_wf (n : Nat) : gwf n (gini (n + 1)) := ⟨Nat.lt_succ_self n, fun k a b => absurd b (by show ¬ k < n + 1; omega), fun i k a b c => absurd c (by show ¬ k < n + 1; omega)⟩
theorem gmk_ok {n : Nat} {c : cir} {st : gs × (Nat → Nat)} (M : gmade n 0 st) (hn : n ≤ 12) : ∀ f, f ≤ 120 → (∀ g, g < f → cok n c g) → gmade n f (gmk n c st f) ∧ gC st.1 ≤ gC (gmk n c st f).1 ∧ gC (gmk n c st f).1 ≤ gC st.1 + 4 * f
  | 0, _, _ => ⟨M, Nat.le_refl _, Nat.le_refl _⟩
  | f + 1, hf, K => by
    obtain ⟨a, b, c'⟩ := gmk_ok M hn f (by omega) (fun g hg => K g (by omega))
    obtain ⟨a2, b2, c2⟩ := gstep_ok a (K f (by omega)) (by omega)
    exact ⟨a2, by show _ ≤ gC (gstep n c (gmk n c st f) f).1; omega, by show gC (gstep n c (gmk n c st f) f).1 ≤ _; omega⟩
theorem gA_ok {n : Nat} {c0 : cir} (hn : n ≤ 12) {f : Nat} (hf : f ≤ 120) (K : ∀ g, g < f → cok n c0 g) : gmade n f (gA n c0 f) ∧ gC (gA n c0 f).1 ≤ n + 1 + 4 * f := by
  obtain ⟨a, b, c⟩ := gmk_ok (n := n) (c := c0) (st := (gini (n + 1), fun _ => 0)) ⟨gini_wf n, fun i hi => absurd hi (Nat.not_lt_zero i)⟩ hn f hf K
  exact ⟨a, c⟩
theorem gB_ok {n : Nat} {c0 c1 : cir} (hn : n ≤ 12) {f s : Nat} (hf : f ≤ 120) (hs : s ≤ 120) (K : ∀ g, g < f → cok n c0 g) (K1 : ∀ g, g < s → cok n c1 g) : gmade n s (gB n c0 c1 f s) ∧ gC (gB n c0 c1 f s).1 ≤ n + 1 + 4 * f + 4 * s := by
  obtain ⟨a, c⟩ := gA_ok hn hf K
  obtain ⟨a2, b2, c2⟩ := gmk_ok (n := n) (c := c1) (st := ((gA n c0 f).1, fun _ => 0)) ⟨a.1, fun i hi => absurd hi (Nat.not_lt_zero i)⟩ hn s hs K1
  have c2 : gC (gB n c0 c1 f s).1 ≤ gC (gA n c0 f).1 + 4 * s := c2
  exact ⟨a2, by omega⟩
/-- the two circuits as the class holds them -/
def CB (h : hp) (n g0 g1 : Nat) (c0 c1 : cir) : Prop := (hI h 3 6 = nI n ∧ hI h 10 6 = nI n ∧ hI h 3 7 = nI g0 ∧ hI h 10 7 = nI g1) ∧ (cirH h 3 = c0 ∧ cirH h 10 = c1) ∧ (1 ≤ n ∧ n ≤ 12 ∧ g0 ≤ 120 ∧ g1 ≤ 120) ∧ (∀ g, g < g0 → cok n c0 g) ∧ ∀ g, g < g1 → cok n c1 g
theorem CB.to {h h' : hp} {n g0 g1 : Nat} {c0 c1 : cir} (C : CB h n g0 g1 c0 c1) (F : FrB h h') : CB h' n g0 g1 c0 c1 := by
  obtain ⟨⟨a1, a2, a3, a4⟩, ⟨b1, b2⟩, r⟩ := C
  have i : ∀ k, k ≠ 9 → k ≠ 16 → k < 21 → hI h' k = hI h k := fun k x y z => F.1 k x y (Or.inl z) (by omega)
  refine ⟨⟨by rw [i 3 (by decide) (by decide) (by decide)]; exact a1, by rw [i 10 (by decide) (by decide) (by decide)]; exact a2, by rw [i 3 (by decide) (by decide) (by decide)]; exact a3, by rw [i 10 (by decide) (by decide) (by decide)]; exact a4⟩, ⟨?_, ?_⟩, r⟩
  · rw [← b1]
    unfold cirH
    rw [i (3 + 1) (by decide) (by decide) (by decide), i (3 + 2) (by decide) (by decide) (by decide), i (3 + 3) (by decide) (by decide) (by decide), i (3 + 4) (by decide) (by decide) (by decide)]
  · rw [← b2]
    unfold cirH
    rw [i (10 + 1) (by decide) (by decide) (by decide), i (10 + 2) (by decide) (by decide) (by decide), i (10 + 3) (by decide) (by decide) (by decide), i (10 + 4) (by decide) (by decide) (by decide)]
/-- f and s gates are made -/
def BU (h : hp) (ρ n : Nat) (c0 c1 : cir) (f s : Nat) : Prop := GC h ρ n (2 ^ (n - 6)) (gB n c0 c1 f s).1 ∧ (hI h 21 10 = nI f ∧ hI h 21 11 = nI s ∧ hI h 21 12 = 0) ∧ (∀ v, v < n + f → hI h 9 v = nI (sl n (gA n c0 f).2 v)) ∧ ∀ v, v < n + s → hI h 16 v = nI (sl n (gB n c0 c1 f s).2 v)
theorem sl_u1 {n g v x : Nat} {lit : Nat → Nat} (hv : v < n + g) : sl n (u1 lit g x) v = sl n lit v := by
  unfold sl
  split
  · rfl
  · exact u1_n (by omega)
theorem sl_top {n g x : Nat} {lit : Nat → Nat} : sl n (u1 lit g x) (n + g) = x := by
  unfold sl
  rw [if_neg (by omega), Nat.add_sub_cancel_left, u1_s]
theorem FrB.w9 {h : hp} (i : Nat) (x : Int32) (k : Nat) (y : Int32) (hn : 1327 ≤ hN h) : FrB h (sI (sI h 9 i x) 21 k y) := by
  refine ⟨fun q a b c _ => ?_, fun _ _ _ => rfl, fun _ _ => rfl, fun _ _ _ _ => rfl, hn⟩
  show u2 (u2 h.1 9 i x) 21 k y q = _
  rw [u2_n (by omega), u2_n a]
theorem FrB.w16 {h : hp} (i : Nat) (x : Int32) (k : Nat) (y : Int32) (hn : 1327 ≤ hN h) : FrB h (sI (sI h 16 i x) 21 k y) := by
  refine ⟨fun q a b c _ => ?_, fun _ _ _ => rfl, fun _ _ => rfl, fun _ _ _ _ => rfl, hn⟩
  show u2 (u2 h.1 16 i x) 21 k y q = _
  rw [u2_n (by omega), u2_n b]
set_option maxHeartbeats 2000000 in
set_option maxRecDepth 10000 in
theorem lp_bringB {d : Nat} {ρ n g0 g1 : Nat} {c0 c1 : cir} (hρ : ρ = 26 ∨ 1327 ≤ ρ) : ∀ (k s : Nat) (h : hp), s + k = g1 → Sh h → 1327 ≤ hN h → CB h n g0 g1 c0 c1 → BU h ρ n c0 c1 g0 s → ∃ h', BU h' ρ n c0 c1 g0 g1 ∧ FrB h h' ∧ h'.2.2 = h.2.2 ∧ ∀ (Q : resP), Q none h' → ∀ (bc bs : Nat) (ls : List (Nat × Value)), ls.lookup 0 = some (.ref 21) → Wp (Ex (d + 6)) 40 Q 88 ls [] h bc bs := by
  intro k
  induction k with
  | zero =>
    intro s h hs S hNN C B
    have e : s = g1 := by omega
    subst e
    refine ⟨h, B, FrB.rf hNN, rfl, ?_⟩
    intro Q hQ bc bs ls l0
    obtain ⟨G, ⟨e10, e11, e12⟩, L0, L1⟩ := B
    obtain ⟨⟨a1, a2, a3, a4⟩, -⟩ := C
    refine r_aload_n (q40 (i := 42) rfl) l0 ?_
    refine r_getI (x := nI s) (q40 (i := 43) rfl) rfl (by decide) (k_21 S) (fun _ _ _ => rfl) e11 ?_
    refine r_aload_n (q40 (i := 44) rfl) l0 ?_
    refine r_getR (b := 10) (q40 (i := 45) rfl) rfl (by decide) (k_21 S) (fun _ _ _ => rfl) (r_21_1 S) ?_
    refine r_getI (x := nI s) (q40 (i := 46) rfl) rfl (by decide) (k_10 S) (fun _ _ _ => rfl) a4 ?_
    refine r_icmp 127 (q40 (i := 47) rfl) (by decide) (fun _ => ?_) (fun c => absurd (show nI s ≤ nI s from Int32.le_refl _) c)
    exact r_vret (q40 (i := 61) rfl) rfl hQ
  | succ k ih =>
    intro s h hs S hNN C B
    have C0 := C
    obtain ⟨G, ⟨e10, e11, e12⟩, L0, L1⟩ := B
    obtain ⟨⟨a1, a2, a3, a4⟩, ⟨b1, b2⟩, ⟨n1, n2, q0, q1⟩, K0, K1⟩ := C
    obtain ⟨M, hcn⟩ := gB_ok (c1 := c1) n2 q0 (show s ≤ 120 by omega) K0 (fun g hg => K1 g (by omega))
    have K1s := K1 s (by omega)
    rw [← b2] at K1s
    obtain ⟨h1, R1, G1, F1⟩ := sp_makeGate_10 (d := d) S G M K1s a4 a2 (by omega) q1 L1 (by omega)
    rw [b2] at R1 G1
    have S1 := S.to F1.1
    have F1B := F1.B hρ hNN
    have N1 : 1327 ≤ hN h1 := F1B.2.2.2.2
    obtain ⟨hx, hxe⟩ : ∃ hx, hx = sI (sI h1 16 (n + s) (nI (gop n c1 (gB n c0 c1 g0 s) s).1)) 21 11 (nI (s + 1)) := ⟨_, rfl⟩
    have Fx : FrB h hx := by rw [hxe]; exact F1B.tr (FrB.w16 _ _ _ _ N1)
    have Bx : BU hx ρ n c0 c1 g0 (s + 1) := by
      rw [hxe]
      refine ⟨G1, ⟨(F1.2.2.2 10 (by decide)).trans e10, rfl, (F1.2.2.2 12 (by decide)).trans e12⟩, fun v hv => ?_, fun v hv => ?_⟩
      · show hI h1 9 v = _
        rw [F1.2.1 9 (by decide)]
        exact L0 v hv
      · show u1 (hI h1 16) (n + s) _ v = nI (sl n (u1 (gB n c0 c1 g0 s).2 s (gop n c1 (gB n c0 c1 g0 s) s).1) v)
        by_cases q : v = n + s
        · rw [q, u1_s, sl_top]
        · rw [u1_n q, F1.2.1 16 (by decide), sl_u1 (by omega)]
          exact L1 v (by omega)
    have ex22 : hx.2.2 = h.2.2 := by rw [hxe]; exact F1.1
    obtain ⟨h', B', F', ee, hk⟩ := ih (s + 1) hx (by omega) (Fx.S S) Fx.2.2.2.2 (C0.to Fx) Bx
    refine ⟨h', B', Fx.tr F', ee.trans ex22, ?_⟩
    intro Q hQ bc bs ls l0
    refine r_aload_n (q40 (i := 42) rfl) l0 ?_
    refine r_getI (x := nI s) (q40 (i := 43) rfl) rfl (by decide) (k_21 S) (fun _ _ _ => rfl) e11 ?_
    refine r_aload_n (q40 (i := 44) rfl) l0 ?_
    refine r_getR (b := 10) (q40 (i := 45) rfl) rfl (by decide) (k_21 S) (fun _ _ _ => rfl) (r_21_1 S) ?_
    refine r_getI (x := nI g1) (q40 (i := 46) rfl) rfl (by decide) (k_10 S) (fun _ _ _ => rfl) a4 ?_
    refine r_icmp 127 (q40 (i := 47) rfl) (by decide) (fun c => absurd c (show ¬ (nI g1 ≤ nI s) from nI_ge (by omega) (by omega))) (fun _ => ?_)
    refine r_aload_n (q40 (i := 48) rfl) l0 ?_
    refine r_aload_n (q40 (i := 49) rfl) l0 ?_
    refine r_getR (b := 10) (q40 (i := 50) rfl) rfl (by decide) (k_21 S) (fun _ _ _ => rfl) (r_21_1 S) ?_
    refine r_aload_n (q40 (i := 51) rfl) l0 ?_
    refine r_getI (x := nI s) (q40 (i := 52) rfl) rfl (by decide) (k_21 S) (fun _ _ _ => rfl) e11 ?_
    refine r_cV (d := _) (q40 (i := 53) rfl) rfl rfl rfl (k_21 S) (Nat.le_of_ble_eq_true rfl) (Nat.zero_le _) (Nat.zero_le _) R1 ?_
    show Wp _ _ _ 114 ls [] (sI h1 16 (n + s) (nI (gop n c1 (gB n c0 c1 g0 s) s).1)) _ _
    refine r_aload_n (q40 (i := 54) rfl) l0 ?_
    refine r_dup (q40 (i := 55) rfl) rfl ?_
    refine r_getI (x := nI s) (q40 (i := 56) rfl) rfl (by decide) (k_21 S1) (fun _ _ _ => rfl) ((F1.2.2.2 11 (by decide)).trans e11) ?_
    refine r_iconst (v := 1) (q40 (i := 57) rfl) (by decide) ?_
    refine r_iadd (q40 (i := 58) rfl) ?_
    rw [show ((nI s) + 1 : Int32) = nI (s + 1) from nI_1 s]
    refine r_putI (q40 (i := 59) rfl) rfl (by decide) (k_21 S1) rfl rfl ?_
    refine r_goto 88 (q40 (i := 60) rfl) (by decide) ?_
    rw [← hxe]
    exact hk Q hQ bc bs ls l0
set_option maxHeartbeats 2000000 in
set_option maxRecDepth 10000 in
theorem lp_bringA {d : Nat} {ρ n g0 g1 : Nat} {c0 c1 : cir} (hρ : ρ = 26 ∨ 1327 ≤ ρ) : ∀ (k f s : Nat) (h : hp), f + k = g0 → (s = 0 ∨ f = g0) → s ≤ g1 → Sh h → 1327 ≤ hN h → CB h n g0 g1 c0 c1 → BU h ρ n c0 c1 f s → ∃ h', BU h' ρ n c0 c1 g0 g1 ∧ FrB h h' ∧ h'.2.2 = h.2.2 ∧ ∀ (Q : resP), Q none h' → ∀ (bc bs : Nat) (ls : List (Nat × Value)), ls.lookup 0 = some (.ref 21) → Wp (Ex (d + 6)) 40 Q 49 ls [] h bc bs := by
  intro k
  induction k with
  | zero =>
    intro f s h hf hsf hs S hNN C B
    have e : f = g0 := by omega
    subst e
    obtain ⟨h', B', F', ee, hk⟩ := lp_bringB (d := d) hρ (g1 - s) s h (by omega) S hNN C B
    refine ⟨h', B', F', ee, ?_⟩
    intro Q hQ bc bs ls l0
    obtain ⟨G, ⟨e10, e11, e12⟩, L0, L1⟩ := B
    obtain ⟨⟨a1, a2, a3, a4⟩, -⟩ := C
    refine r_aload_n (q40 (i := 23) rfl) l0 ?_
    refine r_getI (x := nI f) (q40 (i := 24) rfl) rfl (by decide) (k_21 S) (fun _ _ _ => rfl) e10 ?_
    refine r_aload_n (q40 (i := 25) rfl) l0 ?_
    refine r_getR (b := 3) (q40 (i := 26) rfl) rfl (by decide) (k_21 S) (fun _ _ _ => rfl) (r_21_0 S) ?_
    refine r_getI (x := nI f) (q40 (i := 27) rfl) rfl (by decide) (k_3 S) (fun _ _ _ => rfl) a3 ?_
    refine r_icmp 88 (q40 (i := 28) rfl) (by decide) (fun _ => ?_) (fun c => absurd (show nI f ≤ nI f from Int32.le_refl _) c)
    exact hk Q hQ bc bs ls l0
  | succ k ih =>
    intro f s h hf hsf hs S hNN C B
    have es : s = 0 := by omega
    subst es
    have C0 := C
    obtain ⟨G, ⟨e10, e11, e12⟩, L0, L1⟩ := B
    obtain ⟨⟨a1, a2, a3, a4⟩, ⟨b1, b2⟩, ⟨n1, n2, q0, q1⟩, K0, K1⟩ := C
    obtain ⟨M, hcn⟩ := gA_ok n2 (show f ≤ 120 by omega) (fun g hg => K0 g (by omega))
    have K0f := K0 f (by omega)
    rw [← b1] at K0f
    have G' : GC h ρ n (2 ^ (n - 6)) (gA n c0 f).1 := G
    obtain ⟨h1, R1, G1, F1⟩ := sp_makeGate_3 (d := d) S G' M K0f a3 a1 (by omega) q0 L0 (by omega)
    rw [b1] at R1 G1
    have S1 := S.to F1.1
    have F1B := F1.B hρ hNN
    have N1 : 1327 ≤ hN h1 := F1B.2.2.2.2
    obtain ⟨hx, hxe⟩ : ∃ hx, hx = sI (sI h1 9 (n + f) (nI (gop n c0 (gA n c0 f) f).1)) 21 10 (nI (f + 1)) := ⟨_, rfl⟩
    have Fx : FrB h hx := by rw [hxe]; exact F1B.tr (FrB.w9 _ _ _ _ N1)
    have Bx : BU hx ρ n c0 c1 (f + 1) 0 := by
      rw [hxe]
      refine ⟨G1, ⟨rfl, (F1.2.2.2 11 (by decide)).trans e11, (F1.2.2.2 12 (by decide)).trans e12⟩, fun v hv => ?_, fun v hv => ?_⟩
      · show u1 (hI h1 9) (n + f) _ v = nI (sl n (u1 (gA n c0 f).2 f (gop n c0 (gA n c0 f) f).1) v)
        by_cases q : v = n + f
        · rw [q, u1_s, sl_top]
        · rw [u1_n q, F1.2.1 9 (by decide), sl_u1 (by omega)]
          exact L0 v (by omega)
      · show hI h1 16 v = _
        rw [F1.2.1 16 (by decide)]
        exact L1 v hv
    have ex22 : hx.2.2 = h.2.2 := by rw [hxe]; exact F1.1
    obtain ⟨h', B', F', ee, hk⟩ := ih (f + 1) 0 hx (by omega) (Or.inl rfl) hs (Fx.S S) Fx.2.2.2.2 (C0.to Fx) Bx
    refine ⟨h', B', Fx.tr F', ee.trans ex22, ?_⟩
    intro Q hQ bc bs ls l0
    refine r_aload_n (q40 (i := 23) rfl) l0 ?_
    refine r_getI (x := nI f) (q40 (i := 24) rfl) rfl (by decide) (k_21 S) (fun _ _ _ => rfl) e10 ?_
    refine r_aload_n (q40 (i := 25) rfl) l0 ?_
    refine r_getR (b := 3) (q40 (i := 26) rfl) rfl (by decide) (k_21 S) (fun _ _ _ => rfl) (r_21_0 S) ?_
    refine r_getI (x := nI g0) (q40 (i := 27) rfl) rfl (by decide) (k_3 S) (fun _ _ _ => rfl) a3 ?_
    refine r_icmp 88 (q40 (i := 28) rfl) (by decide) (fun c => absurd c (show ¬ (nI g0 ≤ nI f) from nI_ge (by omega) (by omega))) (fun _ => ?_)
    refine r_aload_n (q40 (i := 29) rfl) l0 ?_
    refine r_aload_n (q40 (i := 30) rfl) l0 ?_
    refine r_getR (b := 3) (q40 (i := 31) rfl) rfl (by decide) (k_21 S) (fun _ _ _ => rfl) (r_21_0 S) ?_
    refine r_aload_n (q40 (i := 32) rfl) l0 ?_
    refine r_getI (x := nI f) (q40 (i := 33) rfl) rfl (by decide) (k_21 S) (fun _ _ _ => rfl) e10 ?_
    refine r_cV (d := _) (q40 (i := 34) rfl) rfl rfl rfl (k_21 S) (Nat.le_of_ble_eq_true rfl) (Nat.zero_le _) (Nat.zero_le _) R1 ?_
    show Wp _ _ _ 75 ls [] (sI h1 9 (n + f) (nI (gop n c0 (gA n c0 f) f).1)) _ _
    refine r_aload_n (q40 (i := 35) rfl) l0 ?_
    refine r_dup (q40 (i := 36) rfl) rfl ?_
    refine r_getI (x := nI f) (q40 (i := 37) rfl) rfl (by decide) (k_21 S1) (fun _ _ _ => rfl) ((F1.2.2.2 10 (by decide)).trans e10) ?_
    refine r_iconst (v := 1) (q40 (i := 38) rfl) (by decide) ?_
    refine r_iadd (q40 (i := 39) rfl) ?_
    rw [show ((nI f) + 1 : Int32) = nI (f + 1) from nI_1 f]
    refine r_putI (q40 (i := 40) rfl) rfl (by decide) (k_21 S1) rfl rfl ?_
    refine r_goto 49 (q40 (i := 41) rfl) (by decide) ?_
    rw [← hxe]
    exact hk Q hQ bc bs ls l0
end
section
set_option maxHeartbeats 2000000 in
set_option maxRecDepth 10000 in
/-- bringUp's first question -/
theorem bu_head {d : Nat} {h : hp} (S : Sh h) {Q : resP} {bc bs : Nat} (hk : ∀ b : Int32, (b = 0 ∨ b = 1) → (b = 0 ↔ ¬ (hI h 21 10 < hI h 3 7 ∧ 0 < hI h 21 11)) → Wp (Ex (d + 6)) 40 Q 27 [(1, .int b), (0, .ref 21)] [] h bc bs) : Wp (Ex (d + 6)) 40 Q 0 [(0, .ref 21)] [] h bc bs := by
  refine r_aload_n (q40 (i := 0) rfl) rfl ?_
  refine r_getI (x := hI h 21 10) (q40 (i := 1) rfl) rfl (by decide) (k_21 S) (fun _ _ _ => rfl) rfl ?_
  refine r_aload_n (q40 (i := 2) rfl) rfl ?_
  refine r_getR (b := 3) (q40 (i := 3) rfl) rfl (by decide) (k_21 S) (fun _ _ _ => rfl) (r_21_0 S) ?_
  refine r_getI (x := hI h 3 7) (q40 (i := 4) rfl) rfl (by decide) (k_3 S) (fun _ _ _ => rfl) rfl ?_
  refine r_icmp 25 (q40 (i := 5) rfl) (by decide) (fun c1 => ?_) (fun c1 => ?_)
  · have c1 : hI h 3 7 ≤ hI h 21 10 := c1
    refine r_iconst (v := 0) (q40 (i := 11) rfl) (by decide) ?_
    refine r_istore_n (ls' := [(1, .int 0), (0, .ref 21)]) (q40 (i := 12) rfl) (Nat.le_of_ble_eq_true rfl) rfl ?_
    exact hk 0 (by decide) (⟨fun _ z => absurd z.1 (nlt0 c1), fun _ => rfl⟩)
  · have c1 : ¬ (hI h 3 7 ≤ hI h 21 10) := c1
    refine r_aload_n (q40 (i := 6) rfl) rfl ?_
    refine r_getI (x := hI h 21 11) (q40 (i := 7) rfl) rfl (by decide) (k_21 S) (fun _ _ _ => rfl) rfl ?_
    refine r_if 25 (q40 (i := 8) rfl) (by decide) (fun c2 => ?_) (fun c2 => ?_)
    · have c2 : hI h 21 11 ≤ 0 := c2
      refine r_iconst (v := 0) (q40 (i := 11) rfl) (by decide) ?_
      refine r_istore_n (ls' := [(1, .int 0), (0, .ref 21)]) (q40 (i := 12) rfl) (Nat.le_of_ble_eq_true rfl) rfl ?_
      exact hk 0 (by decide) (⟨fun _ z => absurd z.2 (nlt0 c2), fun _ => rfl⟩)
    · have c2 : ¬ (hI h 21 11 ≤ 0) := c2
      refine r_iconst (v := 1) (q40 (i := 9) rfl) (by decide) ?_
      refine r_goto 26 (q40 (i := 10) rfl) (by decide) ?_
      refine r_istore_n (ls' := [(1, .int 1), (0, .ref 21)]) (q40 (i := 12) rfl) (Nat.le_of_ble_eq_true rfl) rfl ?_
      exact hk 1 (by decide) (⟨fun z => absurd z (by decide), fun z => absurd ⟨lt0 c1, lt0 c2⟩ z⟩)
theorem FrB.N {h h' : hp} (F : FrB h h') : 1327 ≤ hN h' := F.2.2.2.2
/-- the class's graph: its rows; stale, or some gates made -/
def CGr (h : hp) (ρ e n g0 g1 : Nat) (c0 c1 : cir) : Prop := Rw h ρ (973 * 2 ^ e) ∧ e ≤ 6 ∧ (hI h 21 12 = 1 ∨ ∃ f s, f ≤ g0 ∧ s ≤ g1 ∧ BU h ρ n c0 c1 f s)
theorem bu_ini {h : hp} {ρ n : Nat} {c0 c1 : cir} (G : GC h ρ n (2 ^ (n - 6)) (gini (n + 1))) (f : hI h 21 10 = 0 ∧ hI h 21 11 = 0 ∧ hI h 21 12 = 0) (l : ∀ v, v < n → hI h 9 v = nI (2 * (v + 1)) ∧ hI h 16 v = nI (2 * (v + 1))) : BU h ρ n c0 c1 0 0 :=
  ⟨G, f, fun v hv => by have hv : v < n := hv; rw [(l v hv).1]; unfold sl; rw [if_pos hv], fun v hv => by have hv : v < n := hv; rw [(l v hv).2]; unfold sl; rw [if_pos hv]⟩
set_option maxHeartbeats 2000000 in
set_option maxRecDepth 10000 in
theorem bu_restart {d : Nat} {h : hp} (S : Sh h) (P : Pt h) (hNN : 1327 ≤ hN h) {ρ e n g0 g1 : Nat} {c0 c1 : cir} (C : CB h n g0 g1 c0 c1) (hRw : Rw h ρ (973 * 2 ^ e)) (he : e ≤ 6) : ∃ h' ρ' e' mc ms, (BU h' ρ' n c0 c1 g0 g1 ∧ Rw h' ρ' (973 * 2 ^ e') ∧ (e' ≤ 6 ∧ e ≤ e' ∧ mc ≤ e' - e ∧ ms ≤ 62272 * (e' - e)) ∧ FrB h h') ∧ ∀ (Q : resP), Q none h' → ∀ b, Wp (Ex (d + 6)) 40 Q 38 [(1, .int b), (0, .ref 21)] [] h mc ms := by
  obtain ⟨h1, ρ', e', mc, ms, R1, ⟨G1, Rw1, x1, x2, x3, x4⟩, F1, f1, l1⟩ := sp_restart (d := d + 3) S P hRw he C.2.2.1.2.1 hNN
  have S1 := F1.S S
  obtain ⟨h', B', F', ee, hk⟩ := lp_bringA (d := d) (ρ := ρ') (n := n) (g0 := g0) (g1 := g1) (c0 := c0) (c1 := c1) Rw1.2.2 g0 0 0 h1 (by omega) (Or.inl rfl) (Nat.zero_le _) S1 F1.N (C.to F1) (bu_ini G1 f1 l1)
  refine ⟨h', ρ', e', mc, ms, ⟨B', ?_, ⟨x1, x2, x3, x4⟩, F1.tr F'⟩, ?_⟩
  · unfold Rw hR hK at Rw1 ⊢
    rw [ee]
    exact Rw1
  · intro Q hQ b
    have a1 := C.1.1
    refine r_aload_n (q40 (i := 18) rfl) rfl ?_
    refine r_aload_n (q40 (i := 19) rfl) rfl ?_
    refine r_getR (b := 3) (q40 (i := 20) rfl) rfl (by decide) (k_21 S) (fun _ _ _ => rfl) (r_21_0 S) ?_
    refine r_getI (x := nI n) (q40 (i := 21) rfl) rfl (by decide) (k_3 S) (fun _ _ _ => rfl) a1 ?_
    refine r_cV (d := _) (q40 (i := 22) rfl) rfl rfl rfl (k_21 S) (Nat.le_of_ble_eq_true rfl) (Nat.le_refl _) (Nat.le_refl _) R1 ?_
    show Wp _ _ _ 49 [(1, .int b), (0, .ref 21)] [] h1 _ _
    exact hk Q hQ _ _ _ rfl
set_option maxHeartbeats 2000000 in
set_option maxRecDepth 10000 in
theorem sp_bringUp {d : Nat} {h : hp} (S : Sh h) (P : Pt h) (hNN : 1327 ≤ hN h) {ρ e n g0 g1 : Nat} {c0 c1 : cir} (C : CB h n g0 g1 c0 c1) (D : CGr h ρ e n g0 g1 c0 c1) : ∃ h' ρ' e' mc ms, Run (d + 6 + 1) 40 [.ref 21] h mc ms none h' ∧ BU h' ρ' n c0 c1 g0 g1 ∧ Rw h' ρ' (973 * 2 ^ e') ∧ (e' ≤ 6 ∧ e ≤ e' ∧ mc ≤ e' - e ∧ ms ≤ 62272 * (e' - e)) ∧ FrB h h' := by
  obtain ⟨hRw, he, D⟩ := D
  by_cases hst : hI h 21 12 = 1
  · obtain ⟨h', ρ', e', mc, ms, P1, hk⟩ := bu_restart (d := d) S P hNN C hRw he
    refine ⟨h', ρ', e', mc, ms, ?_, P1⟩
    refine Run.of (Nat.le_of_ble_eq_true rfl) (fun Q hQ => ?_)
    refine bu_head S (fun b hb hbe => ?_)
    refine r_aload_n (q40 (i := 13) rfl) rfl ?_
    refine r_getI (x := 1) (q40 (i := 14) rfl) rfl (by decide) (k_21 S) (fun _ _ _ => rfl) hst ?_
    refine r_if 38 (q40 (i := 15) rfl) (by decide) (fun _ => ?_) (fun c => absurd (show ¬ (1 : Int32) = 0 from by decide) c)
    exact hk Q hQ b
  · obtain ⟨f, s, hf, hs, B⟩ := D.resolve_left hst
    have e12 := B.2.1.2.2
    have e10 := B.2.1.1
    have e11 := B.2.1.2.1
    have a3 := C.1.2.2.1
    have g120 := C.2.2.1.2.2
    by_cases ho : f < g0 ∧ 0 < s
    · obtain ⟨h', ρ', e', mc, ms, P1, hk⟩ := bu_restart (d := d) S P hNN C hRw he
      refine ⟨h', ρ', e', mc, ms, ?_, P1⟩
      refine Run.of (Nat.le_of_ble_eq_true rfl) (fun Q hQ => ?_)
      refine bu_head S (fun b hb hbe => ?_)
      have hb1 : ¬ b = 0 := fun z => (hbe.mp z) ⟨by rw [e10, a3]; exact nI_lt ho.1 (by omega), by rw [e11]; exact nI_lt (a := 0) ho.2 (by omega)⟩
      refine r_aload_n (q40 (i := 13) rfl) rfl ?_
      refine r_getI (x := 0) (q40 (i := 14) rfl) rfl (by decide) (k_21 S) (fun _ _ _ => rfl) e12 ?_
      refine r_if 38 (q40 (i := 15) rfl) (by decide) (fun c => absurd c (show ¬ (¬ (0 : Int32) = 0) from by decide)) (fun _ => ?_)
      refine r_iload_n (q40 (i := 16) rfl) rfl ?_
      refine r_if 49 (q40 (i := 17) rfl) (by decide) (fun c => absurd c (show ¬ (b = 0) from hb1)) (fun _ => ?_)
      exact hk Q hQ b
    · obtain ⟨h', B', F', ee, hk⟩ := lp_bringA (d := d) hRw.2.2 (g0 - f) f s h (by omega) (by omega) hs S hNN C B
      refine ⟨h', ρ, e, 0, 0, ?_, B', ?_, ⟨he, Nat.le_refl _, Nat.zero_le _, Nat.zero_le _⟩, F'⟩
      · refine Run.of (Nat.le_of_ble_eq_true rfl) (fun Q hQ => ?_)
        refine bu_head S (fun b hb hbe => ?_)
        have hb0 : b = 0 := hbe.mpr (fun z => ho ⟨by have := z.1; rw [e10, a3] at this; exact (nI_ltI (by omega) (by omega)).mp this, by have := z.2; rw [e11] at this; exact (nI_ltI (a := 0) (by decide) (by omega)).mp this⟩)
        refine r_aload_n (q40 (i := 13) rfl) rfl ?_
        refine r_getI (x := 0) (q40 (i := 14) rfl) rfl (by decide) (k_21 S) (fun _ _ _ => rfl) e12 ?_
        refine r_if 38 (q40 (i := 15) rfl) (by decide) (fun c => absurd c (show ¬ (¬ (0 : Int32) = 0) from by decide)) (fun _ => ?_)
        refine r_iload_n (q40 (i := 16) rfl) rfl ?_
        refine r_if 49 (q40 (i := 17) rfl) (by decide) (fun _ => ?_) (fun c => absurd (show b = 0 from hb0) c)
        exact hk Q hQ _ _ _ rfl
      · unfold Rw hR hK at hRw ⊢
        rw [ee]
        exact hRw
/-! ===== bits of LITERALS ===== -/
def lbit (T : Nat → Nat → Int64) (p w : Nat) : Bool := b64 (lw T p (w / 64)) (w % 64)
theorem one32 (b : Bool) : (if b then (1 : Int64) else 0).toInt32 = if b then 1 else 0 := by cases b <;> decide
set_option maxHeartbeats 2000000 in
set_option maxRecDepth 10000 in
theorem sp_bitOf {d : Nat} {h : hp} (S : Sh h) {ρ n rw : Nat} {γ : gs} (G : GC h ρ n rw γ) {p w : Nat} (hp : p < 2 * gC γ) (hw : w / 64 < rw) (hw2 : w < 4096) : Run (d + 1 + 1) 42 [.ref 21, .int (nI p), .int (nI w)] h 0 0 (some (.int (if lbit (gW γ) p w then 1 else 0))) h := by
  refine Run.of (Nat.le_of_ble_eq_true rfl) (fun Q hQ => ?_)
  show Wp (Ex (d + 1)) 42 Q 0 [(0, .ref 21), (1, .int (nI p)), (2, .int (nI w))] [] h 0 0
  refine r_aload_n (q42 (i := 0) rfl) rfl ?_
  refine r_iload_n (q42 (i := 1) rfl) rfl ?_
  refine r_iload_n (q42 (i := 2) rfl) rfl ?_
  refine r_bipush (v := 6) (q42 (i := 3) rfl) (by decide) ?_
  refine r_ishr (q42 (i := 4) rfl) ?_
  rw [show ((nI w) >>> (6 &&& 31) : Int32) = nI (w / 64) from shr6 (by omega)]
  refine r_cV (d := _) (q42 (i := 5) rfl) rfl rfl rfl (k_21 S) (Nat.le_of_ble_eq_true rfl) (Nat.zero_le _) (Nat.zero_le _) (sp_wordOf S G hp hw) ?_
  show Wp _ _ _ 9 [(0, .ref 21), (1, .int (nI p)), (2, .int (nI w))] [.long (lw (gW γ) p (w / 64))] h _ _
  refine r_iload_n (q42 (i := 6) rfl) rfl ?_
  refine r_bipush (v := 63) (q42 (i := 7) rfl) (by decide) ?_
  refine r_iand (q42 (i := 8) rfl) ?_
  rw [show ((nI w) &&& 63 : Int32) = nI (w % 64) from and63 (by omega)]
  refine r_lushr (q42 (i := 9) rfl) ?_
  refine r_lconst (v := 1) (q42 (i := 10) rfl) (by decide) ?_
  refine r_land (q42 (i := 11) rfl) ?_
  rw [show ((((lw (gW γ) p (w / 64)).toUInt64 >>> ((nI (w % 64)).toInt64.toUInt64 &&& Int64.toUInt64 63)).toInt64) &&& 1 : Int64) = (if lbit (gW γ) p w then 1 else 0 : Int64) from b64_ubit _ (by omega)]
  refine r_l2i (q42 (i := 12) rfl) ?_
  rw [show ((if lbit (gW γ) p w then 1 else 0 : Int64).toInt32 : Int32) = if lbit (gW γ) p w then 1 else 0 from one32 _]
  exact r_iret (q42 (i := 13) rfl) rfl hQ
set_option maxHeartbeats 2000000 in
set_option maxRecDepth 10000 in
theorem sp_isAnd {d : Nat} {h : hp} (S : Sh h) (x : Int32) : Run (d + 1) 41 [.ref 21, .int x] h 0 0 (some (.int (if x ≤ hI h 21 8 then 0 else if hI h 21 9 ≤ x then 0 else 1))) h := by
  refine Run.of (Nat.le_of_ble_eq_true rfl) (fun Q hQ => ?_)
  show Wp (Ex (d)) 41 Q 0 [(0, .ref 21), (1, .int x)] [] h 0 0
  refine r_iload_n (q41 (i := 0) rfl) rfl ?_
  refine r_aload_n (q41 (i := 1) rfl) rfl ?_
  refine r_getI (x := hI h 21 8) (q41 (i := 2) rfl) rfl (by decide) (k_21 S) (fun _ _ _ => rfl) rfl ?_
  refine r_icmp 20 (q41 (i := 3) rfl) (by decide) (fun c1 => ?_) (fun c1 => ?_)
  · have c1 : x ≤ hI h 21 8 := c1
    refine r_iconst (v := 0) (q41 (i := 10) rfl) (by decide) ?_
    exact r_zret (q41 (i := 11) rfl) rfl (by decide) (by simp_all)
  · have c1 : ¬ (x ≤ hI h 21 8) := c1
    refine r_iload_n (q41 (i := 4) rfl) rfl ?_
    refine r_aload_n (q41 (i := 5) rfl) rfl ?_
    refine r_getI (x := hI h 21 9) (q41 (i := 6) rfl) rfl (by decide) (k_21 S) (fun _ _ _ => rfl) rfl ?_
    refine r_icmp 20 (q41 (i := 7) rfl) (by decide) (fun c2 => ?_) (fun c2 => ?_)
    · have c2 : hI h 21 9 ≤ x := c2
      refine r_iconst (v := 0) (q41 (i := 10) rfl) (by decide) ?_
      exact r_zret (q41 (i := 11) rfl) rfl (by decide) (by simp_all)
    · have c2 : ¬ (hI h 21 9 ≤ x) := c2
      refine r_iconst (v := 1) (q41 (i := 8) rfl) (by decide) ?_
      refine r_goto 21 (q41 (i := 9) rfl) (by decide) ?_
      exact r_zret (q41 (i := 11) rfl) rfl (by decide) (by simp_all)
end
section
/-! ===== the first place ===== -/
/-- the least k below m with f k; m if there is none -/
def lst (f : Nat → Bool) : Nat → Nat
  | 0 => 0
  | m + 1 => if lst f m < m then lst f m else if f m then m else m + 1
theorem lst_facts (f : Nat → Bool) : ∀ m, lst f m ≤ m ∧ (∀ k, k < lst f m → f k = false) ∧ (lst f m < m → f (lst f m) = true)
  | 0 => ⟨Nat.le_refl 0, fun k hk => absurd hk (Nat.not_lt_zero k), fun h => absurd h (Nat.not_lt_zero 0)⟩
  | m + 1 => by
    obtain ⟨a, b, c⟩ := lst_facts f m
    unfold lst
    by_cases h : lst f m < m
    · rw [if_pos h]
      exact ⟨by omega, b, fun _ => c h⟩
    · rw [if_neg h]
      have e : lst f m = m := by omega
      rw [e] at b
      by_cases q : f m = true
      · rw [if_pos q]
        exact ⟨by omega, b, fun _ => q⟩
      · rw [if_neg q]
        refine ⟨Nat.le_refl _, fun k hk => ?_, fun h => absurd h (Nat.lt_irrefl _)⟩
        by_cases z : k = m
        · rw [z]; simpa using q
        · exact b k (by omega)
theorem lst_is {f : Nat → Bool} {m x : Nat} (h1 : x < m) (h2 : ∀ k, k < x → f k = false) (h3 : f x = true) : lst f m = x := by
  obtain ⟨a, b, c⟩ := lst_facts f m
  rcases Nat.lt_trichotomy (lst f m) x with q | q | q
  · have := h2 _ q
    rw [c (by omega)] at this
    exact absurd this (by decide)
  · exact q
  · have := b x q
    rw [h3] at this
    exact absurd this (by decide)
theorem lst_no {f : Nat → Bool} {m : Nat} (h : ∀ k, k < m → f k = false) : lst f m = m := by
  obtain ⟨a, b, c⟩ := lst_facts f m
  by_cases q : lst f m < m
  · have := h _ q
    rw [c q] at this
    exact absurd this (by decide)
  · omega
def dif (T : Nat → Nat → Int64) (p q : Nat) (w : Nat) : Bool := lbit T p w != lbit T q w
/-- the least INPUT WORD below m that parts two LITERALS, or -1 -/
def apt (T : Nat → Nat → Int64) (p q m : Nat) : Int32 := if lst (dif T p q) m < m then nI (lst (dif T p q) m) else -1
theorem odd_part : ∀ n : Nat, 0 < n → ∃ b m, n = 2 ^ b * (2 * m + 1) := by
  intro n
  induction n using Nat.strongRecOn with
  | _ n ih =>
    intro h
    by_cases q : n % 2 = 1
    · exact ⟨0, n / 2, by omega⟩
    · obtain ⟨b, m, e⟩ := ih (n / 2) (by omega) (by omega)
      refine ⟨b + 1, m, ?_⟩
      rw [Nat.pow_succ, Nat.mul_assoc, Nat.mul_comm (2 ^ b), Nat.mul_assoc, Nat.mul_comm (2 * m + 1), ← e]
      omega
theorem low_and {b m j : Nat} (hj : 2 ^ b * (2 * m + 1) < 2 ^ j) : (2 ^ b * (2 * m + 1)) &&& (2 ^ j - 2 ^ b * (2 * m + 1)) = 2 ^ b := by
  have hp : 0 < 2 ^ b := Nat.two_pow_pos b
  have e1 : 2 ^ b * (2 * m + 1) = (2 ^ b * (2 * m) + (2 ^ b - 1)) + 1 := by rw [Nat.mul_add]; omega
  apply Nat.eq_of_testBit_eq
  intro i
  have t1 : (2 ^ b * (2 * m + 1)).testBit i = if i < b then false else (2 * m + 1).testBit (i - b) := by
    have := Nat.testBit_two_pow_mul_add (2 * m + 1) (b := 0) (i := b) hp i
    rw [Nat.add_zero] at this
    rw [this]
    split
    · exact Nat.zero_testBit i
    · rfl
  have t2 : (2 ^ b * (2 * m) + (2 ^ b - 1)).testBit i = if i < b then (2 ^ b - 1).testBit i else (2 * m).testBit (i - b) := Nat.testBit_two_pow_mul_add (2 * m) (by omega) i
  have t3 : (2 ^ j - 2 ^ b * (2 * m + 1)).testBit i = (decide (i < j) && !(2 ^ b * (2 * m) + (2 ^ b - 1)).testBit i) := by
    rw [e1]
    exact Nat.testBit_two_pow_sub_succ (by omega) i
  rw [Nat.testBit_and, t1, t3, t2, Nat.testBit_two_pow]
  by_cases q : i < b
  · rw [if_pos q, Bool.false_and]
    exact (decide_eq_false (by omega)).symm
  · rw [if_neg q, if_neg q]
    have hbj : b < j := by
      rcases Nat.lt_or_ge b j with z | z
      · exact z
      · have h1 : 2 ^ j ≤ 2 ^ b := Nat.pow_le_pow_right (by decide) z
        have h2 : 2 ^ b * 1 ≤ 2 ^ b * (2 * m + 1) := Nat.mul_le_mul_left _ (by omega)
        omega
    by_cases z : i = b
    · subst z
      rw [Nat.sub_self]
      simp [hbj]
    · obtain ⟨k, hk⟩ : ∃ k, i - b = k + 1 := ⟨i - b - 1, by omega⟩
      rw [hk, Nat.testBit_succ, Nat.testBit_succ, show (2 * m + 1) / 2 = m by omega, show 2 * m / 2 = m by omega, decide_eq_false (show ¬ b = i by omega)]
      cases m.testBit k <;> simp
theorem lowbit {x : Int64} (hx : x ≠ 0) : ∃ b, b < 64 ∧ b64 x b = true ∧ (∀ i, i < b → b64 x i = false) ∧ (x &&& -x) - 1 = lN (2 ^ b - 1) := by
  obtain ⟨n, hn, rfl⟩ := wb_of x
  have hn0 : 0 < n := Nat.pos_of_ne_zero (fun e => hx (by rw [e]; rfl))
  obtain ⟨b, m, e⟩ := odd_part n hn0
  have hp : 0 < 2 ^ b := Nat.two_pow_pos b
  have hb : b < 64 := by
    rcases Nat.lt_or_ge b 64 with z | z
    · exact z
    · have h1 : 2 ^ 64 ≤ 2 ^ b := Nat.pow_le_pow_right (by decide) z
      have h2 : 2 ^ b * 1 ≤ 2 ^ b * (2 * m + 1) := Nat.mul_le_mul_left _ (by omega)
      omega
  have t1 : ∀ i, n.testBit i = if i < b then false else (2 * m + 1).testBit (i - b) := fun i => by
    have := Nat.testBit_two_pow_mul_add (2 * m + 1) (b := 0) (i := b) hp i
    rw [Nat.add_zero, ← e] at this
    rw [this]
    split
    · exact Nat.zero_testBit i
    · rfl
  have en : -lN n = lN (2 ^ 64 - n) := by
    apply wb_inj
    rw [Int64.toBitVec_neg, wb_tb, wb_tb]
    apply BitVec.eq_of_toNat_eq
    rw [BitVec.toNat_neg, BitVec.toNat_ofNat, BitVec.toNat_ofNat, Nat.mod_eq_of_lt hn]
  refine ⟨b, hb, ?_, fun i hi => ?_, ?_⟩
  · rw [b64_lN, t1, if_neg (Nat.lt_irrefl b), Nat.sub_self, decide_eq_true hb]
    simp
  · rw [b64_lN, t1, if_pos hi, Bool.and_false]
  · rw [en, wb_and hn (by omega), show n &&& (2 ^ 64 - n) = 2 ^ b by rw [e]; exact low_and (by rw [← e]; exact hn)]
    exact lN_sub (a := 2 ^ b) (b := 1) hp
set_option maxHeartbeats 2000000 in
set_option maxRecDepth 10000 in
theorem lp_fwa {d : Nat} {h : hp} (S : Sh h) {ρ n rw : Nat} {γ : gs} (G : GC h ρ n rw γ) {p q : Nat} (hp : p < 2 * gC γ) (hq : q < 2 * gC γ) {Q : resP} (hQ : Q (some (.int (apt (gW γ) p q (64 * rw)))) h) {bc bs : Nat} : ∀ (k i : Nat), i + k = rw → (∀ w, w < 64 * i → dif (gW γ) p q w = false) → ∀ ls : List (Nat × Value), ls.lookup 3 = some (.int (nI i)) → ls.lookup 0 = some (.ref 21) → ls.lookup 1 = some (.int (nI p)) → ls.lookup 2 = some (.int (nI q)) → Wp (Ex (d + 1)) 43 Q 2 ls [] h bc bs := by
  have e7 := G.2.1.1
  have hr64 := G.1.2.2.1
  intro k
  induction k with
  | zero =>
    intro i hi hz ls l3 l0 l1 l2
    have e : i = rw := by omega
    subst e
    have hap : apt (gW γ) p q (64 * i) = -1 := by
      unfold apt
      rw [lst_no hz, if_neg (Nat.lt_irrefl _)]
    rw [hap] at hQ
    refine r_iload_n (q43 (i := 2) rfl) l3 ?_
    refine r_aload_n (q43 (i := 3) rfl) l0 ?_
    refine r_getI (x := nI i) (q43 (i := 4) rfl) rfl (by decide) (k_21 S) (fun _ _ _ => rfl) e7 ?_
    refine r_icmp 55 (q43 (i := 5) rfl) (by decide) (fun _ => ?_) (fun c => absurd (show nI i ≤ nI i from Int32.le_refl _) c)
    refine r_iconst (v := (-1)) (q43 (i := 34) rfl) (by decide) ?_
    exact r_iret (q43 (i := 35) rfl) rfl hQ
  | succ k ih =>
    intro i hi hz ls l3 l0 l1 l2
    have hdb : ∀ b, b < 64 → dif (gW γ) p q (64 * i + b) = b64 (lw (gW γ) p i ^^^ lw (gW γ) q i) b := fun b hb => by
      unfold dif lbit
      rw [show (64 * i + b) / 64 = i by omega, show (64 * i + b) % 64 = b by omega, b64_xor]
    refine r_iload_n (q43 (i := 2) rfl) l3 ?_
    refine r_aload_n (q43 (i := 3) rfl) l0 ?_
    refine r_getI (x := nI rw) (q43 (i := 4) rfl) rfl (by decide) (k_21 S) (fun _ _ _ => rfl) e7 ?_
    refine r_icmp 55 (q43 (i := 5) rfl) (by decide) (fun c => absurd c (show ¬ (nI rw ≤ nI i) from nI_ge (by omega) (by omega))) (fun _ => ?_)
    refine r_aload_n (q43 (i := 6) rfl) l0 ?_
    refine r_iload_n (q43 (i := 7) rfl) l1 ?_
    refine r_iload_n (q43 (i := 8) rfl) l3 ?_
    refine r_cV (d := _) (q43 (i := 9) rfl) rfl rfl rfl (k_21 S) (Nat.le_of_ble_eq_true rfl) (Nat.zero_le _) (Nat.zero_le _) (sp_wordOf S G hp (by omega)) ?_
    show Wp _ _ _ 16 ls [.long (lw (gW γ) p i)] h _ _
    refine r_aload_n (q43 (i := 10) rfl) l0 ?_
    refine r_iload_n (q43 (i := 11) rfl) l2 ?_
    refine r_iload_n (q43 (i := 12) rfl) l3 ?_
    refine r_cV (d := _) (q43 (i := 13) rfl) rfl rfl rfl (k_21 S) (Nat.le_of_ble_eq_true rfl) (Nat.zero_le _) (Nat.zero_le _) (sp_wordOf S G hq (by omega)) ?_
    show Wp _ _ _ 22 ls [.long (lw (gW γ) q i), .long (lw (gW γ) p i)] h _ _
    refine r_lxor (q43 (i := 14) rfl) ?_
    refine r_lstore (q43 (i := 15) rfl) (Nat.le_of_ble_eq_true rfl) rfl ?_
    have l3 := lk2 (k := 4) (v := .long ((lw (gW γ) p i) ^^^ (lw (gW γ) q i))) l3 (by decide) (by decide) (Or.inl rfl)
    have l0 := lk2 (k := 4) (v := .long ((lw (gW γ) p i) ^^^ (lw (gW γ) q i))) l0 (by decide) (by decide) (Or.inr (by decide))
    have l1 := lk2 (k := 4) (v := .long ((lw (gW γ) p i) ^^^ (lw (gW γ) q i))) l1 (by decide) (by decide) (Or.inr (by decide))
    have l2 := lk2 (k := 4) (v := .long ((lw (gW γ) p i) ^^^ (lw (gW γ) q i))) l2 (by decide) (by decide) (Or.inr (by decide))
    have l4 := lk00 ls 4 (.long ((lw (gW γ) p i) ^^^ (lw (gW γ) q i)))
    generalize lset2 ls 4 (.long ((lw (gW γ) p i) ^^^ (lw (gW γ) q i))) = ls at l4 l3 l0 l1 l2 ⊢
    refine r_lload (q43 (i := 16) rfl) l4 ?_
    refine r_lconst (v := 0) (q43 (i := 17) rfl) (by decide) ?_
    refine r_lcmp (q43 (i := 18) rfl) ?_
    refine r_if 49 (q43 (i := 19) rfl) (by decide) (fun c => ?_) (fun c => ?_)
    · have c : lg_cmp ((lw (gW γ) p i) ^^^ (lw (gW γ) q i)) 0 = 0 := c
      have c : lw (gW γ) p i ^^^ lw (gW γ) q i = 0 := (cmp0 _ _).mp c
      refine r_iinc (y := nI (i + 1)) (q43 (i := 32) rfl) (Nat.le_of_ble_eq_true rfl) l3 (nI_1 i) rfl ?_
      have l4 := lk1 (k := 3) (v := .int (nI (i + 1))) l4 (by decide) (Or.inr (by decide))
      have l0 := lk1 (k := 3) (v := .int (nI (i + 1))) l0 (by decide) (Or.inr (by decide))
      have l1 := lk1 (k := 3) (v := .int (nI (i + 1))) l1 (by decide) (Or.inr (by decide))
      have l2 := lk1 (k := 3) (v := .int (nI (i + 1))) l2 (by decide) (Or.inl rfl)
      have l3 := lk0 ls 3 (.int (nI (i + 1)))
      generalize lset1 ls 3 (.int (nI (i + 1))) = ls at l3 l4 l0 l1 l2 ⊢
      refine r_goto 2 (q43 (i := 33) rfl) (by decide) ?_
      exact ih (i + 1) (by omega) (fun w hw => by
        by_cases z : w < 64 * i
        · exact hz w z
        · rw [show w = 64 * i + (w - 64 * i) by omega, hdb _ (by omega), c, b64_0]) ls l3 l0 l1 l2
    · have c : ¬ (lg_cmp ((lw (gW γ) p i) ^^^ (lw (gW γ) q i)) 0 = 0) := c
      have c : lw (gW γ) p i ^^^ lw (gW γ) q i ≠ 0 := fun z => c (by rw [z]; rfl)
      obtain ⟨b, hb, hb1, hb2, hb3⟩ := lowbit c
      have hap : apt (gW γ) p q (64 * rw) = nI (i * 64 + b) := by
        have el : lst (dif (gW γ) p q) (64 * rw) = 64 * i + b := lst_is (by omega) (fun k hk => by
          by_cases z : k < 64 * i
          · exact hz k z
          · rw [show k = 64 * i + (k - 64 * i) by omega, hdb _ (by omega)]
            exact hb2 _ (by omega)) (by rw [hdb b hb]; exact hb1)
        unfold apt
        rw [el, if_pos (by omega), Nat.mul_comm]
      rw [hap] at hQ
      refine r_iload_n (q43 (i := 20) rfl) l3 ?_
      refine r_bipush (v := 64) (q43 (i := 21) rfl) (by decide) ?_
      refine r_imul (q43 (i := 22) rfl) ?_
      rw [show ((nI i) * 64 : Int32) = nI (i * 64) from pk_mul _ 64]
      refine r_lload (q43 (i := 23) rfl) l4 ?_
      refine r_lload (q43 (i := 24) rfl) l4 ?_
      refine r_lneg (q43 (i := 25) rfl) ?_
      refine r_land (q43 (i := 26) rfl) ?_
      refine r_lconst (v := 1) (q43 (i := 27) rfl) (by decide) ?_
      refine r_lsub (q43 (i := 28) rfl) ?_
      rw [show ((((lw (gW γ) p i) ^^^ (lw (gW γ) q i)) &&& (-((lw (gW γ) p i) ^^^ (lw (gW γ) q i)))) - 1 : Int64) = lN (2 ^ b - 1) from hb3]
      refine r_cS (d := _) (q43 (i := 29) rfl) rfl (Nat.le_of_ble_eq_true rfl) rfl rfl (Nat.le_of_ble_eq_true rfl) (Nat.zero_le _) (Nat.zero_le _) (sp_bitCount (lN (2 ^ b - 1))) ?_
      show Wp _ _ _ 47 ls [.int (bcnt (lN (2 ^ b - 1))), .int (nI (i * 64))] h _ _
      rw [bcnt_pow b hb]
      refine r_iadd (q43 (i := 30) rfl) ?_
      rw [show ((nI (i * 64)) + (nI b) : Int32) = nI (i * 64 + b) from nI_add _ _]
      exact r_iret (q43 (i := 31) rfl) rfl hQ
set_option maxHeartbeats 2000000 in
set_option maxRecDepth 10000 in
theorem sp_fwa {d : Nat} {h : hp} (S : Sh h) {ρ n rw : Nat} {γ : gs} (G : GC h ρ n rw γ) {p q : Nat} (hp : p < 2 * gC γ) (hq : q < 2 * gC γ) : Run (d + 1 + 1) 43 [.ref 21, .int (nI p), .int (nI q)] h 0 0 (some (.int (apt (gW γ) p q (64 * rw)))) h := by
  refine Run.of (Nat.le_of_ble_eq_true rfl) (fun Q hQ => ?_)
  show Wp (Ex (d + 1)) 43 Q 0 [(0, .ref 21), (1, .int (nI p)), (2, .int (nI q))] [] h 0 0
  refine r_iconst (v := 0) (q43 (i := 0) rfl) (by decide) ?_
  refine r_istore_n (ls' := [(3, .int 0), (0, .ref 21), (1, .int (nI p)), (2, .int (nI q))]) (q43 (i := 1) rfl) (Nat.le_of_ble_eq_true rfl) rfl ?_
  exact lp_fwa S G hp hq hQ rw 0 (by omega) (fun w hw => absurd hw (Nat.not_lt_zero w)) _ rfl rfl rfl rfl
end
section
/-! ===== SIGNS: the same, contrary, neither ===== -/
def dV (T : Nat → Nat → Int64) (V : Nat → Int64) (x y w : Nat) : Int64 := (T x w ^^^ T y w) &&& V w
noncomputable def lik (T : Nat → Nat → Int64) (V : Nat → Int64) (x y : Nat) : Int32 := @ite Int32 (∀ w, w < 64 → dV T V x y w = 0) (Classical.propDecidable _) 1 (@ite Int32 (∀ w, w < 64 → dV T V x y w = V w) (Classical.propDecidable _) 2 0)
/-- the VECTORS' set, as bits, and which words of it are used -/
def VS (h : hp) (rw u : Nat) : Prop := hI h 17 3 = nI u ∧ u ≤ 64 ∧ (∀ k, k < u → ∃ w, w < rw ∧ hI h 20 k = nI w) ∧ (∀ w, w < 64 → hJ h 19 w ≠ 0 → ∃ k, k < u ∧ hI h 20 k = nI w)
set_option maxHeartbeats 2000000 in
set_option maxRecDepth 10000 in
theorem lp_lik {d : Nat} {h : hp} (S : Sh h) {ρ n rw u : Nat} {γ : gs} (G : GC h ρ n rw γ) (V : VS h rw u) {x y : Nat} (hx : x < gC γ) (hy : y < gC γ) {Q : resP} (hQ : Q (some (.int (lik (gW γ) (hJ h 19) x y))) h) {bc bs : Nat} : ∀ (m k : Nat), k + m = u → ∀ (a b : Int32), ((a = 1 ∧ ∀ i w, i < k → hI h 20 i = nI w → w < 64 → dV (gW γ) (hJ h 19) x y w = 0) ∨ (a = 0 ∧ ∃ w, w < 64 ∧ dV (gW γ) (hJ h 19) x y w ≠ 0)) → ((b = 1 ∧ ∀ i w, i < k → hI h 20 i = nI w → w < 64 → dV (gW γ) (hJ h 19) x y w = hJ h 19 w) ∨ (b = 0 ∧ ∃ w, w < 64 ∧ dV (gW γ) (hJ h 19) x y w ≠ hJ h 19 w)) → ¬ (a = 0 ∧ b = 0) → ∀ ls : List (Nat × Value), ls.lookup 6 = some (.int (nI k)) → ls.lookup 4 = some (.int a) → ls.lookup 5 = some (.int b) → ls.lookup 0 = some (.ref 21) → ls.lookup 1 = some (.int (nI x)) → ls.lookup 2 = some (.int (nI y)) → ls.lookup 3 = some (.ref 17) → Wp (Ex d) 44 Q 9 ls [] h bc bs := by
  obtain ⟨v3, vu, vw, vc⟩ := V
  obtain ⟨⟨⟨ℓ, hRw, hℓ, hℓ1⟩, hr1, hr2, hn12⟩, ⟨e7, e8, e9, hc⟩, eLR, eCh, eNx, eRow⟩ := G
  intro m
  induction m with
  | zero =>
    intro k hk a b fa fb hab ls l6 l4 l5 l0 l1 l2 l3
    have e : k = u := by omega
    subst e
    have vz : ∀ w, hJ h 19 w = 0 → dV (gW γ) (hJ h 19) x y w = 0 := fun w hw => by
      unfold dV
      rw [hw]
      apply b64_ext
      intro i _
      rw [b64_and, b64_0, Bool.and_false]
    refine r_iload (q44 (i := 6) rfl) l6 ?_
    refine r_aload_n (q44 (i := 7) rfl) l3 ?_
    refine r_getI (x := nI k) (q44 (i := 8) rfl) rfl (by decide) (k_17 S) (fun _ _ _ => rfl) v3 ?_
    refine r_icmp 127 (q44 (i := 9) rfl) (by decide) (fun _ => ?_) (fun c => absurd (show nI k ≤ nI k from Int32.le_refl _) c)
    refine r_iload (q44 (i := 70) rfl) l4 ?_
    refine r_if 136 (q44 (i := 71) rfl) (by decide) (fun c => ?_) (fun c => ?_)
    · have c : a = 0 := c
      obtain ⟨-, w0, hw0, hw1⟩ := fa.resolve_left (fun z => by rw [z.1] at c; exact absurd c (by decide))
      obtain ⟨-, cb⟩ := fb.resolve_right (fun z => hab ⟨c, z.1⟩)
      have hl : lik (gW γ) (hJ h 19) x y = 2 := by
        unfold lik
        rw [if_neg (fun z => hw1 (z w0 hw0)), if_pos (fun w hw => by
          by_cases z : hJ h 19 w = 0
          · rw [vz w z, z]
          · obtain ⟨i, hi, he⟩ := vc w hw z
            exact cb i w hi he hw)]
      rw [hl] at hQ
      refine r_iconst (v := 2) (q44 (i := 74) rfl) (by decide) ?_
      exact r_iret (q44 (i := 75) rfl) rfl hQ
    · have c : ¬ (a = 0) := c
      obtain ⟨-, ca⟩ := fa.resolve_right (fun z => c z.1)
      have hl : lik (gW γ) (hJ h 19) x y = 1 := by
        unfold lik
        rw [if_pos (fun w hw => by
          by_cases z : hJ h 19 w = 0
          · exact vz w z
          · obtain ⟨i, hi, he⟩ := vc w hw z
            exact ca i w hi he hw)]
      rw [hl] at hQ
      refine r_iconst (v := 1) (q44 (i := 72) rfl) (by decide) ?_
      refine r_goto 137 (q44 (i := 73) rfl) (by decide) ?_
      exact r_iret (q44 (i := 75) rfl) rfl hQ
  | succ m ih =>
    intro k hk a b fa fb hab ls l6 l4 l5 l0 l1 l2 l3
    obtain ⟨w, hw, ew⟩ := vw k (by omega)
    have hix : x * rw + w < ℓ := by have := ix_lt (x := x) (rw := rw) (w := w) (by omega) hw; omega
    have hiy : y * rw + w < ℓ := by have := ix_lt (x := y) (rw := rw) (w := w) (by omega) hw; omega
    have uniq : ∀ z, z < 64 → hI h 20 k = nI z → z = w := fun z hz he => (nI_eq (by omega) (by omega)).mp (he.symm.trans ew)
    have t109 : ∀ (a2 b2 : Int32), ((a2 = 1 ∧ a = 1 ∧ dV (gW γ) (hJ h 19) x y w = 0) ∨ (a2 = 0 ∧ ¬ (a = 1 ∧ dV (gW γ) (hJ h 19) x y w = 0))) → ((b2 = 1 ∧ b = 1 ∧ dV (gW γ) (hJ h 19) x y w = hJ h 19 w) ∨ (b2 = 0 ∧ ¬ (b = 1 ∧ dV (gW γ) (hJ h 19) x y w = hJ h 19 w))) → ∀ ls : List (Nat × Value), ls.lookup 6 = some (.int (nI k)) → ls.lookup 4 = some (.int a2) → ls.lookup 5 = some (.int b2) → ls.lookup 0 = some (.ref 21) → ls.lookup 1 = some (.int (nI x)) → ls.lookup 2 = some (.int (nI y)) → ls.lookup 3 = some (.ref 17) → Wp (Ex d) 44 Q 109 ls [] h bc bs := by
      intro a2 b2 ha hb ls l6 l4 l5 l0 l1 l2 l3
      have fa2 : (a2 = 1 ∧ ∀ i w, i < k + 1 → hI h 20 i = nI w → w < 64 → dV (gW γ) (hJ h 19) x y w = 0) ∨ (a2 = 0 ∧ ∃ w, w < 64 ∧ dV (gW γ) (hJ h 19) x y w ≠ 0) := by
        rcases ha with ⟨p1, p2, p3⟩ | ⟨p1, p2⟩
        · refine Or.inl ⟨p1, fun i z hi he hz => ?_⟩
          by_cases q : i = k
          · subst q; rw [uniq z hz he]; exact p3
          · rcases fa with ⟨-, f2⟩ | ⟨f1, -⟩
            · exact f2 i z (by omega) he hz
            · rw [p2] at f1; exact absurd f1 (by decide)
        · refine Or.inr ⟨p1, ?_⟩
          rcases fa with ⟨f1, -⟩ | ⟨-, f2⟩
          · exact ⟨w, by omega, fun z => p2 ⟨f1, z⟩⟩
          · exact f2
      have fb2 : (b2 = 1 ∧ ∀ i w, i < k + 1 → hI h 20 i = nI w → w < 64 → dV (gW γ) (hJ h 19) x y w = hJ h 19 w) ∨ (b2 = 0 ∧ ∃ w, w < 64 ∧ dV (gW γ) (hJ h 19) x y w ≠ hJ h 19 w) := by
        rcases hb with ⟨p1, p2, p3⟩ | ⟨p1, p2⟩
        · refine Or.inl ⟨p1, fun i z hi he hz => ?_⟩
          by_cases q : i = k
          · subst q; rw [uniq z hz he]; exact p3
          · rcases fb with ⟨-, f2⟩ | ⟨f1, -⟩
            · exact f2 i z (by omega) he hz
            · rw [p2] at f1; exact absurd f1 (by decide)
        · refine Or.inr ⟨p1, ?_⟩
          rcases fb with ⟨f1, -⟩ | ⟨-, f2⟩
          · exact ⟨w, by omega, fun z => p2 ⟨f1, z⟩⟩
          · exact f2
      refine r_iload (q44 (i := 62) rfl) l4 ?_
      refine r_if 121 (q44 (i := 63) rfl) (by decide) (fun c1 => ?_) (fun c1 => ?_)
      · have c1 : ¬ a2 = 0 := c1
        refine r_iinc (y := nI (k + 1)) (q44 (i := 68) rfl) (Nat.le_of_ble_eq_true rfl) l6 (nI_1 k) rfl ?_
        have l4 := lk1 (k := 6) (v := .int (nI (k + 1))) l4 (by decide) (Or.inr (by decide))
        have l5 := lk1 (k := 6) (v := .int (nI (k + 1))) l5 (by decide) (Or.inl rfl)
        have l0 := lk1 (k := 6) (v := .int (nI (k + 1))) l0 (by decide) (Or.inr (by decide))
        have l1 := lk1 (k := 6) (v := .int (nI (k + 1))) l1 (by decide) (Or.inr (by decide))
        have l2 := lk1 (k := 6) (v := .int (nI (k + 1))) l2 (by decide) (Or.inr (by decide))
        have l3 := lk1 (k := 6) (v := .int (nI (k + 1))) l3 (by decide) (Or.inr (by decide))
        have l6 := lk0 ls 6 (.int (nI (k + 1)))
        generalize lset1 ls 6 (.int (nI (k + 1))) = ls at l6 l4 l5 l0 l1 l2 l3 ⊢
        refine r_goto 9 (q44 (i := 69) rfl) (by decide) ?_
        exact ih (k + 1) (by omega) a2 b2 fa2 fb2 (fun z => by first | exact c1 z.1 | exact c2 z.2) ls l6 l4 l5 l0 l1 l2 l3
      · have c1 : ¬ (¬ a2 = 0) := c1
        refine r_iload (q44 (i := 64) rfl) l5 ?_
        refine r_if 121 (q44 (i := 65) rfl) (by decide) (fun c2 => ?_) (fun c2 => ?_)
        · have c2 : ¬ b2 = 0 := c2
          refine r_iinc (y := nI (k + 1)) (q44 (i := 68) rfl) (Nat.le_of_ble_eq_true rfl) l6 (nI_1 k) rfl ?_
          have l4 := lk1 (k := 6) (v := .int (nI (k + 1))) l4 (by decide) (Or.inr (by decide))
          have l5 := lk1 (k := 6) (v := .int (nI (k + 1))) l5 (by decide) (Or.inl rfl)
          have l0 := lk1 (k := 6) (v := .int (nI (k + 1))) l0 (by decide) (Or.inr (by decide))
          have l1 := lk1 (k := 6) (v := .int (nI (k + 1))) l1 (by decide) (Or.inr (by decide))
          have l2 := lk1 (k := 6) (v := .int (nI (k + 1))) l2 (by decide) (Or.inr (by decide))
          have l3 := lk1 (k := 6) (v := .int (nI (k + 1))) l3 (by decide) (Or.inr (by decide))
          have l6 := lk0 ls 6 (.int (nI (k + 1)))
          generalize lset1 ls 6 (.int (nI (k + 1))) = ls at l6 l4 l5 l0 l1 l2 l3 ⊢
          refine r_goto 9 (q44 (i := 69) rfl) (by decide) ?_
          exact ih (k + 1) (by omega) a2 b2 fa2 fb2 (fun z => by first | exact c1 z.1 | exact c2 z.2) ls l6 l4 l5 l0 l1 l2 l3
        · have c2 : ¬ (¬ b2 = 0) := c2
          have c1 : a2 = 0 := Classical.not_not.mp c1
          have c2 : b2 = 0 := Classical.not_not.mp c2
          obtain ⟨-, w1, g1, g2⟩ := fa2.resolve_left (fun z => by rw [z.1] at c1; exact absurd c1 (by decide))
          obtain ⟨-, w2, g3, g4⟩ := fb2.resolve_left (fun z => by rw [z.1] at c2; exact absurd c2 (by decide))
          have hl : lik (gW γ) (hJ h 19) x y = 0 := by
            unfold lik
            rw [if_neg (fun z => g2 (z w1 g1)), if_neg (fun z => g4 (z w2 g3))]
          rw [hl] at hQ
          refine r_iconst (v := 0) (q44 (i := 66) rfl) (by decide) ?_
          exact r_iret (q44 (i := 67) rfl) rfl hQ
    have edv : dV (gW γ) (hJ h 19) x y w = (gW γ x w ^^^ gW γ y w) &&& hJ h 19 w := rfl
    refine r_iload (q44 (i := 6) rfl) l6 ?_
    refine r_aload_n (q44 (i := 7) rfl) l3 ?_
    refine r_getI (x := nI u) (q44 (i := 8) rfl) rfl (by decide) (k_17 S) (fun _ _ _ => rfl) v3 ?_
    refine r_icmp 127 (q44 (i := 9) rfl) (by decide) (fun c => absurd c (show ¬ (nI u ≤ nI k) from nI_ge (by omega) (by omega))) (fun _ => ?_)
    refine r_aload_n (q44 (i := 10) rfl) l3 ?_
    refine r_getR (b := 20) (q44 (i := 11) rfl) rfl (by decide) (k_17 S) (fun _ _ _ => rfl) (r_17_2 S) ?_
    refine r_iload (q44 (i := 12) rfl) l6 ?_
    refine r_iaN (x := nI w) (q44 (i := 13) rfl) (k_20 S) (by omega) (by decide) ew ?_
    refine r_istore (q44 (i := 14) rfl) (Nat.le_of_ble_eq_true rfl) rfl ?_
    have l6 := lk1 (k := 7) (v := .int (nI w)) l6 (by decide) (Or.inl rfl)
    have l4 := lk1 (k := 7) (v := .int (nI w)) l4 (by decide) (Or.inr (by decide))
    have l5 := lk1 (k := 7) (v := .int (nI w)) l5 (by decide) (Or.inr (by decide))
    have l0 := lk1 (k := 7) (v := .int (nI w)) l0 (by decide) (Or.inr (by decide))
    have l1 := lk1 (k := 7) (v := .int (nI w)) l1 (by decide) (Or.inr (by decide))
    have l2 := lk1 (k := 7) (v := .int (nI w)) l2 (by decide) (Or.inr (by decide))
    have l3 := lk1 (k := 7) (v := .int (nI w)) l3 (by decide) (Or.inr (by decide))
    have l7 := lk0 ls 7 (.int (nI w))
    generalize lset1 ls 7 (.int (nI w)) = ls at l7 l6 l4 l5 l0 l1 l2 l3 ⊢
    refine r_aload_n (q44 (i := 15) rfl) l3 ?_
    refine r_getR (b := 19) (q44 (i := 16) rfl) rfl (by decide) (k_17 S) (fun _ _ _ => rfl) (r_17_1 S) ?_
    refine r_iload (q44 (i := 17) rfl) l7 ?_
    refine r_laN (x := hJ h 19 w) (q44 (i := 18) rfl) (k_19 S) (by omega) (by decide) rfl ?_
    refine r_lstore (q44 (i := 19) rfl) (Nat.le_of_ble_eq_true rfl) rfl ?_
    have l7 := lk2 (k := 8) (v := .long (hJ h 19 w)) l7 (by decide) (by decide) (Or.inl rfl)
    have l6 := lk2 (k := 8) (v := .long (hJ h 19 w)) l6 (by decide) (by decide) (Or.inr (by decide))
    have l4 := lk2 (k := 8) (v := .long (hJ h 19 w)) l4 (by decide) (by decide) (Or.inr (by decide))
    have l5 := lk2 (k := 8) (v := .long (hJ h 19 w)) l5 (by decide) (by decide) (Or.inr (by decide))
    have l0 := lk2 (k := 8) (v := .long (hJ h 19 w)) l0 (by decide) (by decide) (Or.inr (by decide))
    have l1 := lk2 (k := 8) (v := .long (hJ h 19 w)) l1 (by decide) (by decide) (Or.inr (by decide))
    have l2 := lk2 (k := 8) (v := .long (hJ h 19 w)) l2 (by decide) (by decide) (Or.inr (by decide))
    have l3 := lk2 (k := 8) (v := .long (hJ h 19 w)) l3 (by decide) (by decide) (Or.inr (by decide))
    have l8 := lk00 ls 8 (.long (hJ h 19 w))
    generalize lset2 ls 8 (.long (hJ h 19 w)) = ls at l8 l7 l6 l4 l5 l0 l1 l2 l3 ⊢
    refine r_aload_n (q44 (i := 20) rfl) l0 ?_
    refine r_getR (b := ρ) (q44 (i := 21) rfl) rfl (by decide) (k_21 S) (fun _ _ _ => rfl) hRw.1 ?_
    refine r_iload_n (q44 (i := 22) rfl) l1 ?_
    refine r_aload_n (q44 (i := 23) rfl) l0 ?_
    refine r_getI (x := nI rw) (q44 (i := 24) rfl) rfl (by decide) (k_21 S) (fun _ _ _ => rfl) e7 ?_
    refine r_imul (q44 (i := 25) rfl) ?_
    rw [show ((nI x) * (nI rw) : Int32) = nI (x * rw) from pk_mul _ _]
    refine r_iload (q44 (i := 26) rfl) l7 ?_
    refine r_iadd (q44 (i := 27) rfl) ?_
    rw [show ((nI (x * rw)) + (nI w) : Int32) = nI (x * rw + w) from nI_add _ _]
    refine r_laN (x := gW γ x w) (q44 (i := 28) rfl) hRw.2.1 hix (by omega) (eRow _ _ hx hw) ?_
    refine r_aload_n (q44 (i := 29) rfl) l0 ?_
    refine r_getR (b := ρ) (q44 (i := 30) rfl) rfl (by decide) (k_21 S) (fun _ _ _ => rfl) hRw.1 ?_
    refine r_iload_n (q44 (i := 31) rfl) l2 ?_
    refine r_aload_n (q44 (i := 32) rfl) l0 ?_
    refine r_getI (x := nI rw) (q44 (i := 33) rfl) rfl (by decide) (k_21 S) (fun _ _ _ => rfl) e7 ?_
    refine r_imul (q44 (i := 34) rfl) ?_
    rw [show ((nI y) * (nI rw) : Int32) = nI (y * rw) from pk_mul _ _]
    refine r_iload (q44 (i := 35) rfl) l7 ?_
    refine r_iadd (q44 (i := 36) rfl) ?_
    rw [show ((nI (y * rw)) + (nI w) : Int32) = nI (y * rw + w) from nI_add _ _]
    refine r_laN (x := gW γ y w) (q44 (i := 37) rfl) hRw.2.1 hiy (by omega) (eRow _ _ hy hw) ?_
    refine r_lxor (q44 (i := 38) rfl) ?_
    refine r_lload (q44 (i := 39) rfl) l8 ?_
    refine r_land (q44 (i := 40) rfl) ?_
    rw [show (((gW γ x w) ^^^ (gW γ y w)) &&& (hJ h 19 w) : Int64) = dV (gW γ) (hJ h 19) x y w from rfl]
    refine r_lstore (q44 (i := 41) rfl) (Nat.le_of_ble_eq_true rfl) rfl ?_
    have l8 := lk2 (k := 10) (v := .long (dV (gW γ) (hJ h 19) x y w)) l8 (by decide) (by decide) (Or.inr (by decide))
    have l7 := lk2 (k := 10) (v := .long (dV (gW γ) (hJ h 19) x y w)) l7 (by decide) (by decide) (Or.inr (by decide))
    have l6 := lk2 (k := 10) (v := .long (dV (gW γ) (hJ h 19) x y w)) l6 (by decide) (by decide) (Or.inr (by decide))
    have l4 := lk2 (k := 10) (v := .long (dV (gW γ) (hJ h 19) x y w)) l4 (by decide) (by decide) (Or.inr (by decide))
    have l5 := lk2 (k := 10) (v := .long (dV (gW γ) (hJ h 19) x y w)) l5 (by decide) (by decide) (Or.inr (by decide))
    have l0 := lk2 (k := 10) (v := .long (dV (gW γ) (hJ h 19) x y w)) l0 (by decide) (by decide) (Or.inr (by decide))
    have l1 := lk2 (k := 10) (v := .long (dV (gW γ) (hJ h 19) x y w)) l1 (by decide) (by decide) (Or.inr (by decide))
    have l2 := lk2 (k := 10) (v := .long (dV (gW γ) (hJ h 19) x y w)) l2 (by decide) (by decide) (Or.inr (by decide))
    have l3 := lk2 (k := 10) (v := .long (dV (gW γ) (hJ h 19) x y w)) l3 (by decide) (by decide) (Or.inr (by decide))
    have l10 := lk00 ls 10 (.long (dV (gW γ) (hJ h 19) x y w))
    generalize lset2 ls 10 (.long (dV (gW γ) (hJ h 19) x y w)) = ls at l10 l8 l7 l6 l4 l5 l0 l1 l2 l3 ⊢
    refine r_iload (q44 (i := 42) rfl) l4 ?_
    refine r_if 86 (q44 (i := 43) rfl) (by decide) (fun c1 => ?_) (fun c1 => ?_)
    · have c1 : a = 0 := c1
      refine r_iconst (v := 0) (q44 (i := 50) rfl) (by decide) ?_
      refine r_istore (q44 (i := 51) rfl) (Nat.le_of_ble_eq_true rfl) rfl ?_
      have l10 := lk1 (k := 4) (v := .int 0) l10 (by decide) (Or.inr (by decide))
      have l8 := lk1 (k := 4) (v := .int 0) l8 (by decide) (Or.inr (by decide))
      have l7 := lk1 (k := 4) (v := .int 0) l7 (by decide) (Or.inr (by decide))
      have l6 := lk1 (k := 4) (v := .int 0) l6 (by decide) (Or.inr (by decide))
      have l5 := lk1 (k := 4) (v := .int 0) l5 (by decide) (Or.inr (by decide))
      have l0 := lk1 (k := 4) (v := .int 0) l0 (by decide) (Or.inr (by decide))
      have l1 := lk1 (k := 4) (v := .int 0) l1 (by decide) (Or.inr (by decide))
      have l2 := lk1 (k := 4) (v := .int 0) l2 (by decide) (Or.inr (by decide))
      have l3 := lk1 (k := 4) (v := .int 0) l3 (by decide) (Or.inl rfl)
      have l4 := lk0 ls 4 (.int 0)
      generalize lset1 ls 4 (.int 0) = ls at l4 l10 l8 l7 l6 l5 l0 l1 l2 l3 ⊢
      refine r_iload (q44 (i := 52) rfl) l5 ?_
      refine r_if 106 (q44 (i := 53) rfl) (by decide) (fun c3 => ?_) (fun c3 => ?_)
      · have c3 : b = 0 := c3
        refine r_iconst (v := 0) (q44 (i := 60) rfl) (by decide) ?_
        refine r_istore (q44 (i := 61) rfl) (Nat.le_of_ble_eq_true rfl) rfl ?_
        have l4 := lk1 (k := 5) (v := .int 0) l4 (by decide) (Or.inl rfl)
        have l10 := lk1 (k := 5) (v := .int 0) l10 (by decide) (Or.inr (by decide))
        have l8 := lk1 (k := 5) (v := .int 0) l8 (by decide) (Or.inr (by decide))
        have l7 := lk1 (k := 5) (v := .int 0) l7 (by decide) (Or.inr (by decide))
        have l6 := lk1 (k := 5) (v := .int 0) l6 (by decide) (Or.inr (by decide))
        have l0 := lk1 (k := 5) (v := .int 0) l0 (by decide) (Or.inr (by decide))
        have l1 := lk1 (k := 5) (v := .int 0) l1 (by decide) (Or.inr (by decide))
        have l2 := lk1 (k := 5) (v := .int 0) l2 (by decide) (Or.inr (by decide))
        have l3 := lk1 (k := 5) (v := .int 0) l3 (by decide) (Or.inr (by decide))
        have l5 := lk0 ls 5 (.int 0)
        generalize lset1 ls 5 (.int 0) = ls at l5 l4 l10 l8 l7 l6 l0 l1 l2 l3 ⊢
        exact t109 0 0 (by first | exact Or.inl ⟨rfl, by rcases fa with z | z; exact z.1; exact absurd z.1 c1, (cmp0 _ _).mp (Classical.not_not.mp c2)⟩ | exact Or.inr ⟨rfl, fun z => c2 ((cmp0 _ _).mpr z.2)⟩ | exact Or.inr ⟨rfl, fun z => by rw [z.1] at c1; exact absurd c1 (by decide)⟩) (by first | exact Or.inl ⟨rfl, by rcases fb with z | z; exact z.1; exact absurd z.1 c3, (cmp0 _ _).mp (Classical.not_not.mp c4)⟩ | exact Or.inr ⟨rfl, fun z => c4 ((cmp0 _ _).mpr z.2)⟩ | exact Or.inr ⟨rfl, fun z => by rw [z.1] at c3; exact absurd c3 (by decide)⟩) ls l6 l4 l5 l0 l1 l2 l3
      · have c3 : ¬ (b = 0) := c3
        refine r_lload (q44 (i := 54) rfl) l10 ?_
        refine r_lload (q44 (i := 55) rfl) l8 ?_
        refine r_lcmp (q44 (i := 56) rfl) ?_
        refine r_if 106 (q44 (i := 57) rfl) (by decide) (fun c4 => ?_) (fun c4 => ?_)
        · have c4 : ¬ lg_cmp (dV (gW γ) (hJ h 19) x y w) (hJ h 19 w) = 0 := c4
          refine r_iconst (v := 0) (q44 (i := 60) rfl) (by decide) ?_
          refine r_istore (q44 (i := 61) rfl) (Nat.le_of_ble_eq_true rfl) rfl ?_
          have l4 := lk1 (k := 5) (v := .int 0) l4 (by decide) (Or.inl rfl)
          have l10 := lk1 (k := 5) (v := .int 0) l10 (by decide) (Or.inr (by decide))
          have l8 := lk1 (k := 5) (v := .int 0) l8 (by decide) (Or.inr (by decide))
          have l7 := lk1 (k := 5) (v := .int 0) l7 (by decide) (Or.inr (by decide))
          have l6 := lk1 (k := 5) (v := .int 0) l6 (by decide) (Or.inr (by decide))
          have l0 := lk1 (k := 5) (v := .int 0) l0 (by decide) (Or.inr (by decide))
          have l1 := lk1 (k := 5) (v := .int 0) l1 (by decide) (Or.inr (by decide))
          have l2 := lk1 (k := 5) (v := .int 0) l2 (by decide) (Or.inr (by decide))
          have l3 := lk1 (k := 5) (v := .int 0) l3 (by decide) (Or.inr (by decide))
          have l5 := lk0 ls 5 (.int 0)
          generalize lset1 ls 5 (.int 0) = ls at l5 l4 l10 l8 l7 l6 l0 l1 l2 l3 ⊢
          exact t109 0 0 (by first | exact Or.inl ⟨rfl, by rcases fa with z | z; exact z.1; exact absurd z.1 c1, (cmp0 _ _).mp (Classical.not_not.mp c2)⟩ | exact Or.inr ⟨rfl, fun z => c2 ((cmp0 _ _).mpr z.2)⟩ | exact Or.inr ⟨rfl, fun z => by rw [z.1] at c1; exact absurd c1 (by decide)⟩) (by first | exact Or.inl ⟨rfl, by rcases fb with z | z; exact z.1; exact absurd z.1 c3, (cmp0 _ _).mp (Classical.not_not.mp c4)⟩ | exact Or.inr ⟨rfl, fun z => c4 ((cmp0 _ _).mpr z.2)⟩ | exact Or.inr ⟨rfl, fun z => by rw [z.1] at c3; exact absurd c3 (by decide)⟩) ls l6 l4 l5 l0 l1 l2 l3
        · have c4 : ¬ (¬ lg_cmp (dV (gW γ) (hJ h 19) x y w) (hJ h 19 w) = 0) := c4
          refine r_iconst (v := 1) (q44 (i := 58) rfl) (by decide) ?_
          refine r_goto 107 (q44 (i := 59) rfl) (by decide) ?_
          refine r_istore (q44 (i := 61) rfl) (Nat.le_of_ble_eq_true rfl) rfl ?_
          have l4 := lk1 (k := 5) (v := .int 1) l4 (by decide) (Or.inl rfl)
          have l10 := lk1 (k := 5) (v := .int 1) l10 (by decide) (Or.inr (by decide))
          have l8 := lk1 (k := 5) (v := .int 1) l8 (by decide) (Or.inr (by decide))
          have l7 := lk1 (k := 5) (v := .int 1) l7 (by decide) (Or.inr (by decide))
          have l6 := lk1 (k := 5) (v := .int 1) l6 (by decide) (Or.inr (by decide))
          have l0 := lk1 (k := 5) (v := .int 1) l0 (by decide) (Or.inr (by decide))
          have l1 := lk1 (k := 5) (v := .int 1) l1 (by decide) (Or.inr (by decide))
          have l2 := lk1 (k := 5) (v := .int 1) l2 (by decide) (Or.inr (by decide))
          have l3 := lk1 (k := 5) (v := .int 1) l3 (by decide) (Or.inr (by decide))
          have l5 := lk0 ls 5 (.int 1)
          generalize lset1 ls 5 (.int 1) = ls at l5 l4 l10 l8 l7 l6 l0 l1 l2 l3 ⊢
          exact t109 0 1 (by first | exact Or.inl ⟨rfl, by rcases fa with z | z; exact z.1; exact absurd z.1 c1, (cmp0 _ _).mp (Classical.not_not.mp c2)⟩ | exact Or.inr ⟨rfl, fun z => c2 ((cmp0 _ _).mpr z.2)⟩ | exact Or.inr ⟨rfl, fun z => by rw [z.1] at c1; exact absurd c1 (by decide)⟩) (by first | exact Or.inl ⟨rfl, by rcases fb with z | z; exact z.1; exact absurd z.1 c3, (cmp0 _ _).mp (Classical.not_not.mp c4)⟩ | exact Or.inr ⟨rfl, fun z => c4 ((cmp0 _ _).mpr z.2)⟩ | exact Or.inr ⟨rfl, fun z => by rw [z.1] at c3; exact absurd c3 (by decide)⟩) ls l6 l4 l5 l0 l1 l2 l3
    · have c1 : ¬ (a = 0) := c1
      refine r_lload (q44 (i := 44) rfl) l10 ?_
      refine r_lconst (v := 0) (q44 (i := 45) rfl) (by decide) ?_
      refine r_lcmp (q44 (i := 46) rfl) ?_
      refine r_if 86 (q44 (i := 47) rfl) (by decide) (fun c2 => ?_) (fun c2 => ?_)
      · have c2 : ¬ lg_cmp (dV (gW γ) (hJ h 19) x y w) 0 = 0 := c2
        refine r_iconst (v := 0) (q44 (i := 50) rfl) (by decide) ?_
        refine r_istore (q44 (i := 51) rfl) (Nat.le_of_ble_eq_true rfl) rfl ?_
        have l10 := lk1 (k := 4) (v := .int 0) l10 (by decide) (Or.inr (by decide))
        have l8 := lk1 (k := 4) (v := .int 0) l8 (by decide) (Or.inr (by decide))
        have l7 := lk1 (k := 4) (v := .int 0) l7 (by decide) (Or.inr (by decide))
        have l6 := lk1 (k := 4) (v := .int 0) l6 (by decide) (Or.inr (by decide))
        have l5 := lk1 (k := 4) (v := .int 0) l5 (by decide) (Or.inr (by decide))
        have l0 := lk1 (k := 4) (v := .int 0) l0 (by decide) (Or.inr (by decide))
        have l1 := lk1 (k := 4) (v := .int 0) l1 (by decide) (Or.inr (by decide))
        have l2 := lk1 (k := 4) (v := .int 0) l2 (by decide) (Or.inr (by decide))
        have l3 := lk1 (k := 4) (v := .int 0) l3 (by decide) (Or.inl rfl)
        have l4 := lk0 ls 4 (.int 0)
        generalize lset1 ls 4 (.int 0) = ls at l4 l10 l8 l7 l6 l5 l0 l1 l2 l3 ⊢
        refine r_iload (q44 (i := 52) rfl) l5 ?_
        refine r_if 106 (q44 (i := 53) rfl) (by decide) (fun c3 => ?_) (fun c3 => ?_)
        · have c3 : b = 0 := c3
          refine r_iconst (v := 0) (q44 (i := 60) rfl) (by decide) ?_
          refine r_istore (q44 (i := 61) rfl) (Nat.le_of_ble_eq_true rfl) rfl ?_
          have l4 := lk1 (k := 5) (v := .int 0) l4 (by decide) (Or.inl rfl)
          have l10 := lk1 (k := 5) (v := .int 0) l10 (by decide) (Or.inr (by decide))
          have l8 := lk1 (k := 5) (v := .int 0) l8 (by decide) (Or.inr (by decide))
          have l7 := lk1 (k := 5) (v := .int 0) l7 (by decide) (Or.inr (by decide))
          have l6 := lk1 (k := 5) (v := .int 0) l6 (by decide) (Or.inr (by decide))
          have l0 := lk1 (k := 5) (v := .int 0) l0 (by decide) (Or.inr (by decide))
          have l1 := lk1 (k := 5) (v := .int 0) l1 (by decide) (Or.inr (by decide))
          have l2 := lk1 (k := 5) (v := .int 0) l2 (by decide) (Or.inr (by decide))
          have l3 := lk1 (k := 5) (v := .int 0) l3 (by decide) (Or.inr (by decide))
          have l5 := lk0 ls 5 (.int 0)
          generalize lset1 ls 5 (.int 0) = ls at l5 l4 l10 l8 l7 l6 l0 l1 l2 l3 ⊢
          exact t109 0 0 (by first | exact Or.inl ⟨rfl, by rcases fa with z | z; exact z.1; exact absurd z.1 c1, (cmp0 _ _).mp (Classical.not_not.mp c2)⟩ | exact Or.inr ⟨rfl, fun z => c2 ((cmp0 _ _).mpr z.2)⟩ | exact Or.inr ⟨rfl, fun z => by rw [z.1] at c1; exact absurd c1 (by decide)⟩) (by first | exact Or.inl ⟨rfl, by rcases fb with z | z; exact z.1; exact absurd z.1 c3, (cmp0 _ _).mp (Classical.not_not.mp c4)⟩ | exact Or.inr ⟨rfl, fun z => c4 ((cmp0 _ _).mpr z.2)⟩ | exact Or.inr ⟨rfl, fun z => by rw [z.1] at c3; exact absurd c3 (by decide)⟩) ls l6 l4 l5 l0 l1 l2 l3
        · have c3 : ¬ (b = 0) := c3
          refine r_lload (q44 (i := 54) rfl) l10 ?_
          refine r_lload (q44 (i := 55) rfl) l8 ?_
          refine r_lcmp (q44 (i := 56) rfl) ?_
          refine r_if 106 (q44 (i := 57) rfl) (by decide) (fun c4 => ?_) (fun c4 => ?_)
          · have c4 : ¬ lg_cmp (dV (gW γ) (hJ h 19) x y w) (hJ h 19 w) = 0 := c4
            refine r_iconst (v := 0) (q44 (i := 60) rfl) (by decide) ?_
            refine r_istore (q44 (i := 61) rfl) (Nat.le_of_ble_eq_true rfl) rfl ?_
            have l4 := lk1 (k := 5) (v := .int 0) l4 (by decide) (Or.inl rfl)
            have l10 := lk1 (k := 5) (v := .int 0) l10 (by decide) (Or.inr (by decide))
            have l8 := lk1 (k := 5) (v := .int 0) l8 (by decide) (Or.inr (by decide))
            have l7 := lk1 (k := 5) (v := .int 0) l7 (by decide) (Or.inr (by decide))
            have l6 := lk1 (k := 5) (v := .int 0) l6 (by decide) (Or.inr (by decide))
            have l0 := lk1 (k := 5) (v := .int 0) l0 (by decide) (Or.inr (by decide))
            have l1 := lk1 (k := 5) (v := .int 0) l1 (by decide) (Or.inr (by decide))
            have l2 := lk1 (k := 5) (v := .int 0) l2 (by decide) (Or.inr (by decide))
            have l3 := lk1 (k := 5) (v := .int 0) l3 (by decide) (Or.inr (by decide))
            have l5 := lk0 ls 5 (.int 0)
            generalize lset1 ls 5 (.int 0) = ls at l5 l4 l10 l8 l7 l6 l0 l1 l2 l3 ⊢
            exact t109 0 0 (by first | exact Or.inl ⟨rfl, by rcases fa with z | z; exact z.1; exact absurd z.1 c1, (cmp0 _ _).mp (Classical.not_not.mp c2)⟩ | exact Or.inr ⟨rfl, fun z => c2 ((cmp0 _ _).mpr z.2)⟩ | exact Or.inr ⟨rfl, fun z => by rw [z.1] at c1; exact absurd c1 (by decide)⟩) (by first | exact Or.inl ⟨rfl, by rcases fb with z | z; exact z.1; exact absurd z.1 c3, (cmp0 _ _).mp (Classical.not_not.mp c4)⟩ | exact Or.inr ⟨rfl, fun z => c4 ((cmp0 _ _).mpr z.2)⟩ | exact Or.inr ⟨rfl, fun z => by rw [z.1] at c3; exact absurd c3 (by decide)⟩) ls l6 l4 l5 l0 l1 l2 l3
          · have c4 : ¬ (¬ lg_cmp (dV (gW γ) (hJ h 19) x y w) (hJ h 19 w) = 0) := c4
            refine r_iconst (v := 1) (q44 (i := 58) rfl) (by decide) ?_
            refine r_goto 107 (q44 (i := 59) rfl) (by decide) ?_
            refine r_istore (q44 (i := 61) rfl) (Nat.le_of_ble_eq_true rfl) rfl ?_
            have l4 := lk1 (k := 5) (v := .int 1) l4 (by decide) (Or.inl rfl)
            have l10 := lk1 (k := 5) (v := .int 1) l10 (by decide) (Or.inr (by decide))
            have l8 := lk1 (k := 5) (v := .int 1) l8 (by decide) (Or.inr (by decide))
            have l7 := lk1 (k := 5) (v := .int 1) l7 (by decide) (Or.inr (by decide))
            have l6 := lk1 (k := 5) (v := .int 1) l6 (by decide) (Or.inr (by decide))
            have l0 := lk1 (k := 5) (v := .int 1) l0 (by decide) (Or.inr (by decide))
            have l1 := lk1 (k := 5) (v := .int 1) l1 (by decide) (Or.inr (by decide))
            have l2 := lk1 (k := 5) (v := .int 1) l2 (by decide) (Or.inr (by decide))
            have l3 := lk1 (k := 5) (v := .int 1) l3 (by decide) (Or.inr (by decide))
            have l5 := lk0 ls 5 (.int 1)
            generalize lset1 ls 5 (.int 1) = ls at l5 l4 l10 l8 l7 l6 l0 l1 l2 l3 ⊢
            exact t109 0 1 (by first | exact Or.inl ⟨rfl, by rcases fa with z | z; exact z.1; exact absurd z.1 c1, (cmp0 _ _).mp (Classical.not_not.mp c2)⟩ | exact Or.inr ⟨rfl, fun z => c2 ((cmp0 _ _).mpr z.2)⟩ | exact Or.inr ⟨rfl, fun z => by rw [z.1] at c1; exact absurd c1 (by decide)⟩) (by first | exact Or.inl ⟨rfl, by rcases fb with z | z; exact z.1; exact absurd z.1 c3, (cmp0 _ _).mp (Classical.not_not.mp c4)⟩ | exact Or.inr ⟨rfl, fun z => c4 ((cmp0 _ _).mpr z.2)⟩ | exact Or.inr ⟨rfl, fun z => by rw [z.1] at c3; exact absurd c3 (by decide)⟩) ls l6 l4 l5 l0 l1 l2 l3
      · have c2 : ¬ (¬ lg_cmp (dV (gW γ) (hJ h 19) x y w) 0 = 0) := c2
        refine r_iconst (v := 1) (q44 (i := 48) rfl) (by decide) ?_
        refine r_goto 87 (q44 (i := 49) rfl) (by decide) ?_
        refine r_istore (q44 (i := 51) rfl) (Nat.le_of_ble_eq_true rfl) rfl ?_
        have l10 := lk1 (k := 4) (v := .int 1) l10 (by decide) (Or.inr (by decide))
        have l8 := lk1 (k := 4) (v := .int 1) l8 (by decide) (Or.inr (by decide))
        have l7 := lk1 (k := 4) (v := .int 1) l7 (by decide) (Or.inr (by decide))
        have l6 := lk1 (k := 4) (v := .int 1) l6 (by decide) (Or.inr (by decide))
        have l5 := lk1 (k := 4) (v := .int 1) l5 (by decide) (Or.inr (by decide))
        have l0 := lk1 (k := 4) (v := .int 1) l0 (by decide) (Or.inr (by decide))
        have l1 := lk1 (k := 4) (v := .int 1) l1 (by decide) (Or.inr (by decide))
        have l2 := lk1 (k := 4) (v := .int 1) l2 (by decide) (Or.inr (by decide))
        have l3 := lk1 (k := 4) (v := .int 1) l3 (by decide) (Or.inl rfl)
        have l4 := lk0 ls 4 (.int 1)
        generalize lset1 ls 4 (.int 1) = ls at l4 l10 l8 l7 l6 l5 l0 l1 l2 l3 ⊢
        refine r_iload (q44 (i := 52) rfl) l5 ?_
        refine r_if 106 (q44 (i := 53) rfl) (by decide) (fun c3 => ?_) (fun c3 => ?_)
        · have c3 : b = 0 := c3
          refine r_iconst (v := 0) (q44 (i := 60) rfl) (by decide) ?_
          refine r_istore (q44 (i := 61) rfl) (Nat.le_of_ble_eq_true rfl) rfl ?_
          have l4 := lk1 (k := 5) (v := .int 0) l4 (by decide) (Or.inl rfl)
          have l10 := lk1 (k := 5) (v := .int 0) l10 (by decide) (Or.inr (by decide))
          have l8 := lk1 (k := 5) (v := .int 0) l8 (by decide) (Or.inr (by decide))
          have l7 := lk1 (k := 5) (v := .int 0) l7 (by decide) (Or.inr (by decide))
          have l6 := lk1 (k := 5) (v := .int 0) l6 (by decide) (Or.inr (by decide))
          have l0 := lk1 (k := 5) (v := .int 0) l0 (by decide) (Or.inr (by decide))
          have l1 := lk1 (k := 5) (v := .int 0) l1 (by decide) (Or.inr (by decide))
          have l2 := lk1 (k := 5) (v := .int 0) l2 (by decide) (Or.inr (by decide))
          have l3 := lk1 (k := 5) (v := .int 0) l3 (by decide) (Or.inr (by decide))
          have l5 := lk0 ls 5 (.int 0)
          generalize lset1 ls 5 (.int 0) = ls at l5 l4 l10 l8 l7 l6 l0 l1 l2 l3 ⊢
          exact t109 1 0 (by first | exact Or.inl ⟨rfl, by rcases fa with z | z; exact z.1; exact absurd z.1 c1, (cmp0 _ _).mp (Classical.not_not.mp c2)⟩ | exact Or.inr ⟨rfl, fun z => c2 ((cmp0 _ _).mpr z.2)⟩ | exact Or.inr ⟨rfl, fun z => by rw [z.1] at c1; exact absurd c1 (by decide)⟩) (by first | exact Or.inl ⟨rfl, by rcases fb with z | z; exact z.1; exact absurd z.1 c3, (cmp0 _ _).mp (Classical.not_not.mp c4)⟩ | exact Or.inr ⟨rfl, fun z => c4 ((cmp0 _ _).mpr z.2)⟩ | exact Or.inr ⟨rfl, fun z => by rw [z.1] at c3; exact absurd c3 (by decide)⟩) ls l6 l4 l5 l0 l1 l2 l3
        · have c3 : ¬ (b = 0) := c3
          refine r_lload (q44 (i := 54) rfl) l10 ?_
          refine r_lload (q44 (i := 55) rfl) l8 ?_
          refine r_lcmp (q44 (i := 56) rfl) ?_
          refine r_if 106 (q44 (i := 57) rfl) (by decide) (fun c4 => ?_) (fun c4 => ?_)
          · have c4 : ¬ lg_cmp (dV (gW γ) (hJ h 19) x y w) (hJ h 19 w) = 0 := c4
            refine r_iconst (v := 0) (q44 (i := 60) rfl) (by decide) ?_
            refine r_istore (q44 (i := 61) rfl) (Nat.le_of_ble_eq_true rfl) rfl ?_
            have l4 := lk1 (k := 5) (v := .int 0) l4 (by decide) (Or.inl rfl)
            have l10 := lk1 (k := 5) (v := .int 0) l10 (by decide) (Or.inr (by decide))
            have l8 := lk1 (k := 5) (v := .int 0) l8 (by decide) (Or.inr (by decide))
            have l7 := lk1 (k := 5) (v := .int 0) l7 (by decide) (Or.inr (by decide))
            have l6 := lk1 (k := 5) (v := .int 0) l6 (by decide) (Or.inr (by decide))
            have l0 := lk1 (k := 5) (v := .int 0) l0 (by decide) (Or.inr (by decide))
            have l1 := lk1 (k := 5) (v := .int 0) l1 (by decide) (Or.inr (by decide))
            have l2 := lk1 (k := 5) (v := .int 0) l2 (by decide) (Or.inr (by decide))
            have l3 := lk1 (k := 5) (v := .int 0) l3 (by decide) (Or.inr (by decide))
            have l5 := lk0 ls 5 (.int 0)
            generalize lset1 ls 5 (.int 0) = ls at l5 l4 l10 l8 l7 l6 l0 l1 l2 l3 ⊢
            exact t109 1 0 (by first | exact Or.inl ⟨rfl, by rcases fa with z | z; exact z.1; exact absurd z.1 c1, (cmp0 _ _).mp (Classical.not_not.mp c2)⟩ | exact Or.inr ⟨rfl, fun z => c2 ((cmp0 _ _).mpr z.2)⟩ | exact Or.inr ⟨rfl, fun z => by rw [z.1] at c1; exact absurd c1 (by decide)⟩) (by first | exact Or.inl ⟨rfl, by rcases fb with z | z; exact z.1; exact absurd z.1 c3, (cmp0 _ _).mp (Classical.not_not.mp c4)⟩ | exact Or.inr ⟨rfl, fun z => c4 ((cmp0 _ _).mpr z.2)⟩ | exact Or.inr ⟨rfl, fun z => by rw [z.1] at c3; exact absurd c3 (by decide)⟩) ls l6 l4 l5 l0 l1 l2 l3
          · have c4 : ¬ (¬ lg_cmp (dV (gW γ) (hJ h 19) x y w) (hJ h 19 w) = 0) := c4
            refine r_iconst (v := 1) (q44 (i := 58) rfl) (by decide) ?_
            refine r_goto 107 (q44 (i := 59) rfl) (by decide) ?_
            refine r_istore (q44 (i := 61) rfl) (Nat.le_of_ble_eq_true rfl) rfl ?_
            have l4 := lk1 (k := 5) (v := .int 1) l4 (by decide) (Or.inl rfl)
            have l10 := lk1 (k := 5) (v := .int 1) l10 (by decide) (Or.inr (by decide))
            have l8 := lk1 (k := 5) (v := .int 1) l8 (by decide) (Or.inr (by decide))
            have l7 := lk1 (k := 5) (v := .int 1) l7 (by decide) (Or.inr (by decide))
            have l6 := lk1 (k := 5) (v := .int 1) l6 (by decide) (Or.inr (by decide))
            have l0 := lk1 (k := 5) (v := .int 1) l0 (by decide) (Or.inr (by decide))
            have l1 := lk1 (k := 5) (v := .int 1) l1 (by decide) (Or.inr (by decide))
            have l2 := lk1 (k := 5) (v := .int 1) l2 (by decide) (Or.inr (by decide))
            have l3 := lk1 (k := 5) (v := .int 1) l3 (by decide) (Or.inr (by decide))
            have l5 := lk0 ls 5 (.int 1)
            generalize lset1 ls 5 (.int 1) = ls at l5 l4 l10 l8 l7 l6 l0 l1 l2 l3 ⊢
            exact t109 1 1 (by first | exact Or.inl ⟨rfl, by rcases fa with z | z; exact z.1; exact absurd z.1 c1, (cmp0 _ _).mp (Classical.not_not.mp c2)⟩ | exact Or.inr ⟨rfl, fun z => c2 ((cmp0 _ _).mpr z.2)⟩ | exact Or.inr ⟨rfl, fun z => by rw [z.1] at c1; exact absurd c1 (by decide)⟩) (by first | exact Or.inl ⟨rfl, by rcases fb with z | z; exact z.1; exact absurd z.1 c3, (cmp0 _ _).mp (Classical.not_not.mp c4)⟩ | exact Or.inr ⟨rfl, fun z => c4 ((cmp0 _ _).mpr z.2)⟩ | exact Or.inr ⟨rfl, fun z => by rw [z.1] at c3; exact absurd c3 (by decide)⟩) ls l6 l4 l5 l0 l1 l2 l3
set_option maxHeartbeats 2000000 in
set_option maxRecDepth 10000 in
theorem sp_lik {d : Nat} {h : hp} (S : Sh h) {ρ n rw u : Nat} {γ : gs} (G : GC h ρ n rw γ) (V : VS h rw u) {x y : Nat} (hx : x < gC γ) (hy : y < gC γ) : Run (d + 1) 44 [.ref 21, .int (nI x), .int (nI y), .ref 17] h 0 0 (some (.int (lik (gW γ) (hJ h 19) x y))) h := by
  refine Run.of (Nat.le_of_ble_eq_true rfl) (fun Q hQ => ?_)
  show Wp (Ex (d)) 44 Q 0 [(0, .ref 21), (1, .int (nI x)), (2, .int (nI y)), (3, .ref 17)] [] h 0 0
  refine r_iconst (v := 1) (q44 (i := 0) rfl) (by decide) ?_
  refine r_istore (ls' := [(4, .int 1), (0, .ref 21), (1, .int (nI x)), (2, .int (nI y)), (3, .ref 17)]) (q44 (i := 1) rfl) (Nat.le_of_ble_eq_true rfl) rfl ?_
  refine r_iconst (v := 1) (q44 (i := 2) rfl) (by decide) ?_
  refine r_istore (ls' := [(5, .int 1), (4, .int 1), (0, .ref 21), (1, .int (nI x)), (2, .int (nI y)), (3, .ref 17)]) (q44 (i := 3) rfl) (Nat.le_of_ble_eq_true rfl) rfl ?_
  refine r_iconst (v := 0) (q44 (i := 4) rfl) (by decide) ?_
  refine r_istore (ls' := [(6, .int 0), (5, .int 1), (4, .int 1), (0, .ref 21), (1, .int (nI x)), (2, .int (nI y)), (3, .ref 17)]) (q44 (i := 5) rfl) (Nat.le_of_ble_eq_true rfl) rfl ?_
  exact lp_lik S G V hx hy hQ u 0 (by omega) 1 1 (Or.inl ⟨rfl, fun i w hi => absurd hi (Nat.not_lt_zero i)⟩) (Or.inl ⟨rfl, fun i w hi => absurd hi (Nat.not_lt_zero i)⟩) (by decide) _ rfl rfl rfl rfl rfl rfl rfl
end
section
/-! ===== GROUPS ===== -/
theorem xor_and (a b c v : Int64) : (a ^^^ c) &&& v = ((a ^^^ b) &&& v) ^^^ ((b ^^^ c) &&& v) := by
  apply b64_ext
  intro i _
  rw [b64_and, b64_xor, b64_xor, b64_and, b64_and, b64_xor, b64_xor]
  cases b64 a i <;> cases b64 b i <;> cases b64 c i <;> cases b64 v i <;> rfl
theorem xx0 (a : Int64) : a ^^^ a = 0 := by
  apply b64_ext
  intro i _
  rw [b64_xor, b64_0]
  cases b64 a i <;> rfl
theorem x0 (a : Int64) : a ^^^ 0 = a := by
  apply b64_ext
  intro i _
  rw [b64_xor, b64_0]
  cases b64 a i <;> rfl
theorem zx (a : Int64) : 0 ^^^ a = a := by
  apply b64_ext
  intro i _
  rw [b64_xor, b64_0]
  cases b64 a i <;> rfl
theorem dV_comm (T : Nat → Nat → Int64) (V : Nat → Int64) (x y w : Nat) : dV T V x y w = dV T V y x w := by
  unfold dV
  apply b64_ext
  intro i _
  rw [b64_and, b64_and, b64_xor, b64_xor]
  cases b64 (T x w) i <;> cases b64 (T y w) i <;> rfl
theorem dV_tr (T : Nat → Nat → Int64) (V : Nat → Int64) (x y z w : Nat) : dV T V x z w = dV T V x y w ^^^ dV T V y z w := xor_and _ _ _ _
theorem lik_comm (T : Nat → Nat → Int64) (V : Nat → Int64) (x y : Nat) : lik T V x y = lik T V y x := by
  have e : ∀ w, dV T V x y w = dV T V y x w := dV_comm T V x y
  unfold lik
  by_cases h1 : ∀ w, w < 64 → dV T V y x w = 0
  · rw [if_pos h1, if_pos (fun w hw => (e w).trans (h1 w hw))]
  · rw [if_neg h1, if_neg (fun q => h1 (fun w hw => (e w).symm.trans (q w hw)))]
    by_cases h2 : ∀ w, w < 64 → dV T V y x w = V w
    · rw [if_pos h2, if_pos (fun w hw => (e w).trans (h2 w hw))]
    · rw [if_neg h2, if_neg (fun q => h2 (fun w hw => (e w).symm.trans (q w hw)))]
theorem lik_ne (T : Nat → Nat → Int64) (V : Nat → Int64) (x y : Nat) : lik T V x y ≠ 0 ↔ (∀ w, w < 64 → dV T V x y w = 0) ∨ ∀ w, w < 64 → dV T V x y w = V w := by
  unfold lik
  by_cases h1 : ∀ w, w < 64 → dV T V x y w = 0
  · rw [if_pos h1]
    exact ⟨fun _ => Or.inl h1, fun _ => by decide⟩
  · rw [if_neg h1]
    by_cases h2 : ∀ w, w < 64 → dV T V x y w = V w
    · rw [if_pos h2]
      exact ⟨fun _ => Or.inr h2, fun _ => by decide⟩
    · rw [if_neg h2]
      exact ⟨fun z => absurd rfl z, fun z => by rcases z with z | z; exact absurd z h1; exact absurd z h2⟩
theorem lik_tr {T : Nat → Nat → Int64} {V : Nat → Int64} {x y z : Nat} (h1 : lik T V x y ≠ 0) (h2 : lik T V y z ≠ 0) : lik T V x z ≠ 0 := by
  rw [lik_ne] at h1 h2 ⊢
  rcases h1 with h1 | h1 <;> rcases h2 with h2 | h2
  · exact Or.inl (fun w hw => by rw [dV_tr T V x y z, h1 w hw, h2 w hw, xx0])
  · exact Or.inr (fun w hw => by rw [dV_tr T V x y z, h1 w hw, h2 w hw, zx])
  · exact Or.inr (fun w hw => by rw [dV_tr T V x y z, h1 w hw, h2 w hw, x0])
  · exact Or.inl (fun w hw => by rw [dV_tr T V x y z, h1 w hw, h2 w hw, xx0])
theorem lik_self (T : Nat → Nat → Int64) (V : Nat → Int64) (x : Nat) : lik T V x x = 1 := by
  unfold lik
  rw [if_pos (fun w _ => by
    unfold dV
    rw [xx0]
    apply b64_ext
    intro i _
    rw [b64_and, b64_0, Bool.false_and])]
/-- the least node of x's GROUP -/
noncomputable def ll (T : Nat → Nat → Int64) (V : Nat → Int64) (x : Nat) : Nat := lst (fun y => decide (lik T V y x ≠ 0)) x
noncomputable def lead (T : Nat → Nat → Int64) (V : Nat → Int64) (x : Nat) : Bool := decide (ll T V x = x)
def cntB (f : Nat → Bool) : Nat → Nat
  | 0 => 0
  | m + 1 => cntB f m + if f m then 1 else 0
theorem cntB_le (f : Nat → Bool) : ∀ m, cntB f m ≤ m
  | 0 => Nat.le_refl 0
  | m + 1 => by
    have := cntB_le f m
    unfold cntB
    split <;> omega
theorem cntB_mono (f : Nat → Bool) {a b : Nat} (h : a ≤ b) : cntB f a ≤ cntB f b := by
  induction b with
  | zero => rw [show a = 0 by omega]; exact Nat.le_refl _
  | succ b ih =>
    by_cases q : a = b + 1
    · rw [q]; exact Nat.le_refl _
    · have := ih (by omega)
      have e : cntB f (b + 1) = cntB f b + if f b then 1 else 0 := rfl
      omega
theorem cntB_lt {f : Nat → Bool} {a b : Nat} (h : a < b) (hf : f a = true) : cntB f a < cntB f b := by
  have e : cntB f (a + 1) = cntB f a + if f a then 1 else 0 := rfl
  rw [hf, if_pos rfl] at e
  have := cntB_mono f (show a + 1 ≤ b by omega)
  omega
theorem cntB_kth {f : Nat → Bool} {k : Nat} : ∀ {m : Nat}, k < cntB f m → ∃ i, i < m ∧ f i = true ∧ cntB f i = k
  | 0, h => absurd h (Nat.not_lt_zero k)
  | m + 1, h => by
    by_cases q : k < cntB f m
    · obtain ⟨i, a, b, c⟩ := cntB_kth q
      exact ⟨i, by omega, b, c⟩
    · have e : cntB f (m + 1) = cntB f m + if f m then 1 else 0 := rfl
      cases hf : f m
      · rw [hf] at e; simp at e; omega
      · rw [hf, if_pos rfl] at e
        exact ⟨m, by omega, hf, by omega⟩
theorem ll_le (T : Nat → Nat → Int64) (V : Nat → Int64) (x : Nat) : ll T V x ≤ x := (lst_facts _ x).1
theorem ll_lik (T : Nat → Nat → Int64) (V : Nat → Int64) (x : Nat) : lik T V (ll T V x) x ≠ 0 := by
  by_cases q : ll T V x < x
  · have := (lst_facts (fun y => decide (lik T V y x ≠ 0)) x).2.2 q
    exact of_decide_eq_true this
  · have e : ll T V x = x := by have := ll_le T V x; omega
    rw [e, lik_self]
    decide
theorem ll_min {T : Nat → Nat → Int64} {V : Nat → Int64} {x y : Nat} (h : y < ll T V x) : lik T V y x = 0 := by
  have := (lst_facts (fun y => decide (lik T V y x ≠ 0)) x).2.1 y h
  exact Classical.not_not.mp (of_decide_eq_false this)
theorem ll_lead (T : Nat → Nat → Int64) (V : Nat → Int64) (x : Nat) : lead T V (ll T V x) = true := by
  unfold lead
  apply decide_eq_true
  have h1 := ll_le T V (ll T V x)
  rcases Nat.lt_or_ge (ll T V (ll T V x)) (ll T V x) with q | q
  · exact absurd (ll_min q) (lik_tr (ll_lik T V (ll T V x)) (ll_lik T V x))
  · omega
/-- the leaders below m, as the class lists them -/
def LD (h : hp) (T : Nat → Nat → Int64) (V : Nat → Int64) (m : Nat) : Prop := hI h 27 2 = nI (cntB (lead T V) m) ∧ (∀ y, y < m → lead T V y = true → hI h 29 (cntB (lead T V) y) = nI y) ∧ ∀ y, y < m → hI h 28 y = nI (ll T V y)
set_option maxHeartbeats 2000000 in
set_option maxRecDepth 10000 in
theorem lp_leader {d : Nat} {h : hp} (S : Sh h) {ρ n rw u : Nat} {γ : gs} (G : GC h ρ n rw γ) (V : VS h rw u) {x : Nat} (hx : x < gC γ) (D : LD h (gW γ) (hJ h 19) x) {Q : resP} (hQ : Q (some (.int (nI (ll (gW γ) (hJ h 19) x)))) h) {bc bs : Nat} : ∀ (m k : Nat), k + m = cntB (lead (gW γ) (hJ h 19)) x → (∀ y, y < x → lead (gW γ) (hJ h 19) y = true → cntB (lead (gW γ) (hJ h 19)) y < k → lik (gW γ) (hJ h 19) y x = 0) → ∀ ls : List (Nat × Value), ls.lookup 4 = some (.int (nI k)) → ls.lookup 0 = some (.ref 27) → ls.lookup 1 = some (.int (nI x)) → ls.lookup 2 = some (.ref 21) → ls.lookup 3 = some (.ref 17) → Wp (Ex (d + 1)) 58 Q 3 ls [] h bc bs := by
  obtain ⟨d1, d2, d3⟩ := D
  have hc9 := G.2.1.2.2.2
  have hcl := cntB_le (lead (gW γ) (hJ h 19)) x
  intro m
  induction m with
  | zero =>
    intro k hk hz ls l4 l0 l1 l2 l3
    have e : k = cntB (lead (gW γ) (hJ h 19)) x := by omega
    have hll : ll (gW γ) (hJ h 19) x = x := by
      rcases Nat.lt_or_ge (ll (gW γ) (hJ h 19) x) x with q | q
      · exact absurd (hz _ q (ll_lead _ _ x) (by rw [e]; exact cntB_lt q (ll_lead _ _ x))) (ll_lik _ _ x)
      · have := ll_le (gW γ) (hJ h 19) x; omega
    rw [hll] at hQ
    rw [← e] at d1
    refine r_iload (q58 (i := 2) rfl) l4 ?_
    refine r_aload_n (q58 (i := 3) rfl) l0 ?_
    refine r_getI (x := nI k) (q58 (i := 4) rfl) rfl (by decide) (k_27 S) (fun _ _ _ => rfl) d1 ?_
    refine r_icmp 42 (q58 (i := 5) rfl) (by decide) (fun _ => ?_) (fun c => absurd (show nI k ≤ nI k from Int32.le_refl _) c)
    refine r_iload_n (q58 (i := 22) rfl) l1 ?_
    exact r_iret (q58 (i := 23) rfl) rfl hQ
  | succ m ih =>
    intro k hk hz ls l4 l0 l1 l2 l3
    obtain ⟨y, hy, hl, hcy⟩ := cntB_kth (f := lead (gW γ) (hJ h 19)) (k := k) (m := x) (by omega)
    have ey : hI h 29 k = nI y := by rw [← hcy]; exact d2 y hy hl
    refine r_iload (q58 (i := 2) rfl) l4 ?_
    refine r_aload_n (q58 (i := 3) rfl) l0 ?_
    refine r_getI (x := nI (cntB (lead (gW γ) (hJ h 19)) x)) (q58 (i := 4) rfl) rfl (by decide) (k_27 S) (fun _ _ _ => rfl) d1 ?_
    refine r_icmp 42 (q58 (i := 5) rfl) (by decide) (fun c => absurd c (show ¬ (nI (cntB (lead (gW γ) (hJ h 19)) x) ≤ nI k) from nI_ge (by omega) (by omega))) (fun _ => ?_)
    refine r_aload_n (q58 (i := 6) rfl) l2 ?_
    refine r_aload_n (q58 (i := 7) rfl) l0 ?_
    refine r_getR (b := 29) (q58 (i := 8) rfl) rfl (by decide) (k_27 S) (fun _ _ _ => rfl) (r_27_1 S) ?_
    refine r_iload (q58 (i := 9) rfl) l4 ?_
    refine r_iaN (x := nI y) (q58 (i := 10) rfl) (k_29 S) (by omega) (by decide) ey ?_
    refine r_iload_n (q58 (i := 11) rfl) l1 ?_
    refine r_aload_n (q58 (i := 12) rfl) l3 ?_
    refine r_cV (d := _) (q58 (i := 13) rfl) rfl rfl rfl (k_21 S) (Nat.le_of_ble_eq_true rfl) (Nat.zero_le _) (Nat.zero_le _) (sp_lik S G V (show y < gC γ by omega) hx) ?_
    show Wp _ _ _ 25 ls [.int (lik (gW γ) (hJ h 19) y x)] h _ _
    refine r_if 36 (q58 (i := 14) rfl) (by decide) (fun c => ?_) (fun c => ?_)
    · have c : lik (gW γ) (hJ h 19) y x = 0 := c
      refine r_iinc (y := nI (k + 1)) (q58 (i := 20) rfl) (Nat.le_of_ble_eq_true rfl) l4 (nI_1 k) rfl ?_
      have l0 := lk1 (k := 4) (v := .int (nI (k + 1))) l0 (by decide) (Or.inr (by decide))
      have l1 := lk1 (k := 4) (v := .int (nI (k + 1))) l1 (by decide) (Or.inr (by decide))
      have l2 := lk1 (k := 4) (v := .int (nI (k + 1))) l2 (by decide) (Or.inr (by decide))
      have l3 := lk1 (k := 4) (v := .int (nI (k + 1))) l3 (by decide) (Or.inl rfl)
      have l4 := lk0 ls 4 (.int (nI (k + 1)))
      generalize lset1 ls 4 (.int (nI (k + 1))) = ls at l4 l0 l1 l2 l3 ⊢
      refine r_goto 3 (q58 (i := 21) rfl) (by decide) ?_
      exact ih (k + 1) (by omega) (fun z h1 h2 h3 => by
        by_cases q : z = y
        · rw [q]; exact c
        · refine hz z h1 h2 ?_
          rcases Nat.lt_trichotomy z y with r | r | r
          · have := cntB_lt r h2; omega
          · exact absurd r q
          · have := cntB_lt r hl; omega) ls l4 l0 l1 l2 l3
    · have c : ¬ (lik (gW γ) (hJ h 19) y x = 0) := c
      have hll : ll (gW γ) (hJ h 19) x = y := lst_is hy (fun z hzy => by
        apply decide_eq_false
        intro hne
        have h1 : ll (gW γ) (hJ h 19) x ≤ z := by
          rcases Nat.lt_or_ge z (ll (gW γ) (hJ h 19) x) with q | q
          · exact absurd (ll_min q) hne
          · exact q
        exact absurd (hz _ (by omega) (ll_lead _ _ x) (by rw [← hcy]; exact cntB_lt (by omega) (ll_lead _ _ x))) (ll_lik _ _ x)) (decide_eq_true c)
      rw [hll] at hQ
      refine r_aload_n (q58 (i := 15) rfl) l0 ?_
      refine r_getR (b := 29) (q58 (i := 16) rfl) rfl (by decide) (k_27 S) (fun _ _ _ => rfl) (r_27_1 S) ?_
      refine r_iload (q58 (i := 17) rfl) l4 ?_
      refine r_iaN (x := nI y) (q58 (i := 18) rfl) (k_29 S) (by omega) (by decide) ey ?_
      exact r_iret (q58 (i := 19) rfl) rfl hQ
set_option maxHeartbeats 2000000 in
set_option maxRecDepth 10000 in
theorem sp_leaderOf {d : Nat} {h : hp} (S : Sh h) {ρ n rw u : Nat} {γ : gs} (G : GC h ρ n rw γ) (V : VS h rw u) {x : Nat} (hx : x < gC γ) (D : LD h (gW γ) (hJ h 19) x) : Run (d + 1 + 1) 58 [.ref 27, .int (nI x), .ref 21, .ref 17] h 0 0 (some (.int (nI (ll (gW γ) (hJ h 19) x)))) h := by
  refine Run.of (Nat.le_of_ble_eq_true rfl) (fun Q hQ => ?_)
  show Wp (Ex (d + 1)) 58 Q 0 [(0, .ref 27), (1, .int (nI x)), (2, .ref 21), (3, .ref 17)] [] h 0 0
  refine r_iconst (v := 0) (q58 (i := 0) rfl) (by decide) ?_
  refine r_istore (ls' := [(4, .int 0), (0, .ref 27), (1, .int (nI x)), (2, .ref 21), (3, .ref 17)]) (q58 (i := 1) rfl) (Nat.le_of_ble_eq_true rfl) rfl ?_
  exact lp_leader S G V hx D hQ (cntB (lead (gW γ) (hJ h 19)) x) 0 (by omega) (fun y _ _ hz => absurd hz (Nat.not_lt_zero _)) _ rfl rfl rfl rfl rfl
/-- what Groups.find changes -/
def FrGr (h h' : hp) : Prop := h'.2 = h.2 ∧ ∀ k, k < 27 ∨ 29 < k → hI h' k = hI h k
theorem FrGr.tr {h h' h'' : hp} (a : FrGr h h') (b : FrGr h' h'') : FrGr h h'' := ⟨b.1.trans a.1, fun k hk => (b.2 k hk).trans (a.2 k hk)⟩
theorem FrGr.G {h h' : hp} (F : FrGr h h') {ρ n rw : Nat} {γ : gs} (G : GC h ρ n rw γ) : GC h' ρ n rw γ := by
  obtain ⟨h2, hi⟩ := F
  unfold GC Rw hR hK hJ at *
  rw [h2, hi 21 (by decide), hi 22 (by decide), hi 23 (by decide), hi 24 (by decide), hi 25 (by decide)]
  exact G
theorem FrGr.V {h h' : hp} (F : FrGr h h') {rw u : Nat} (V : VS h rw u) : VS h' rw u := by
  obtain ⟨h2, hi⟩ := F
  unfold VS hJ at *
  rw [h2, hi 17 (by decide), hi 20 (by decide)]
  exact V
theorem FrGr.S {h h' : hp} (F : FrGr h h') (S : Sh h) : Sh h' := S.to (by rw [F.1])
set_option maxHeartbeats 2000000 in
set_option maxRecDepth 10000 in
theorem lp_find {d : Nat} {ρ n rw u : Nat} {γ : gs} : ∀ (m x : Nat) (h : hp), x + m = gC γ → Sh h → GC h ρ n rw γ → VS h rw u → LD h (gW γ) (hJ h 19) x → ∃ h', LD h' (gW γ) (hJ h 19) (gC γ) ∧ FrGr h h' ∧ ∀ (Q : resP), Q none h' → ∀ (bc bs : Nat) (ls : List (Nat × Value)), ls.lookup 3 = some (.int (nI x)) → ls.lookup 0 = some (.ref 27) → ls.lookup 1 = some (.ref 21) → ls.lookup 2 = some (.ref 17) → Wp (Ex (d + 2)) 57 Q 7 ls [] h bc bs := by
  intro m
  induction m with
  | zero =>
    intro x h hm S G V D
    have e : x = gC γ := by omega
    subst e
    refine ⟨h, D, ⟨rfl, fun _ _ => rfl⟩, ?_⟩
    intro Q hQ bc bs ls l3 l0 l1 l2
    have e9 := G.2.1.2.2.1
    refine r_iload_n (q57 (i := 5) rfl) l3 ?_
    refine r_aload_n (q57 (i := 6) rfl) l1 ?_
    refine r_getI (x := nI (gC γ)) (q57 (i := 7) rfl) rfl (by decide) (k_21 S) (fun _ _ _ => rfl) e9 ?_
    refine r_icmp 64 (q57 (i := 8) rfl) (by decide) (fun _ => ?_) (fun c => absurd (show nI (gC γ) ≤ nI (gC γ) from Int32.le_refl _) c)
    exact r_vret (q57 (i := 38) rfl) rfl hQ
  | succ m ih =>
    intro x h hm S G V D
    have e9 := G.2.1.2.2.1
    have hc9 := G.2.1.2.2.2
    have R1 := sp_leaderOf (d := d) S G V (show x < gC γ by omega) D
    obtain ⟨d1, d2, d3⟩ := D
    have hcl := cntB_le (lead (gW γ) (hJ h 19)) x
    have ec : cntB (lead (gW γ) (hJ h 19)) (x + 1) = cntB (lead (gW γ) (hJ h 19)) x + if lead (gW γ) (hJ h 19) x then 1 else 0 := rfl
    by_cases hL : ll (gW γ) (hJ h 19) x = x
    · have hl : lead (gW γ) (hJ h 19) x = true := decide_eq_true hL
      rw [hl, if_pos rfl] at ec
      obtain ⟨hx, hxe⟩ : ∃ hx, hx = sI (sI (sI h 28 x (nI (ll (gW γ) (hJ h 19) x))) 29 (cntB (lead (gW γ) (hJ h 19)) x) (nI x)) 27 2 (nI (cntB (lead (gW γ) (hJ h 19)) x + 1)) := ⟨_, rfl⟩
      have Fx : FrGr h hx := by
        rw [hxe]
        refine ⟨rfl, fun k hk => ?_⟩
        show u2 (u2 (u2 h.1 28 _ _) 29 _ _) 27 _ _ k = _
        rw [u2_n (by omega), u2_n (by omega), u2_n (by omega)]
      have Dx : LD hx (gW γ) (hJ h 19) (x + 1) := by
        rw [hxe]
        refine ⟨by rw [ec]; rfl, fun y hy hl2 => ?_, fun y hy => ?_⟩
        · show u1 (hI h 29) (cntB (lead (gW γ) (hJ h 19)) x) (nI x) (cntB (lead (gW γ) (hJ h 19)) y) = nI y
          by_cases q : y = x
          · rw [q, u1_s]
          · rw [u1_n (Nat.ne_of_lt (cntB_lt (by omega) hl2))]
            exact d2 y (by omega) hl2
        · show u1 (hI h 28) x (nI (ll (gW γ) (hJ h 19) x)) y = _
          by_cases q : y = x
          · rw [q, u1_s]
          · rw [u1_n q]
            exact d3 y (by omega)
      have ej : hJ hx 19 = hJ h 19 := by unfold hJ; rw [Fx.1]
      rw [← ej] at Dx
      obtain ⟨h', D', F', hk⟩ := ih (x + 1) hx (by omega) (Fx.S S) (Fx.G G) (Fx.V V) Dx
      rw [ej] at D'
      refine ⟨h', D', Fx.tr F', ?_⟩
      intro Q hQ bc bs ls l3 l0 l1 l2
      refine r_iload_n (q57 (i := 5) rfl) l3 ?_
      refine r_aload_n (q57 (i := 6) rfl) l1 ?_
      refine r_getI (x := nI (gC γ)) (q57 (i := 7) rfl) rfl (by decide) (k_21 S) (fun _ _ _ => rfl) e9 ?_
      refine r_icmp 64 (q57 (i := 8) rfl) (by decide) (fun c => absurd c (show ¬ (nI (gC γ) ≤ nI x) from nI_ge (by omega) (by omega))) (fun _ => ?_)
      refine r_aload_n (q57 (i := 9) rfl) l0 ?_
      refine r_getR (b := 28) (q57 (i := 10) rfl) rfl (by decide) (k_27 S) (fun _ _ _ => rfl) (r_27_0 S) ?_
      refine r_iload_n (q57 (i := 11) rfl) l3 ?_
      refine r_aload_n (q57 (i := 12) rfl) l0 ?_
      refine r_iload_n (q57 (i := 13) rfl) l3 ?_
      refine r_aload_n (q57 (i := 14) rfl) l1 ?_
      refine r_aload_n (q57 (i := 15) rfl) l2 ?_
      refine r_cV (d := _) (q57 (i := 16) rfl) rfl rfl rfl (k_27 S) (Nat.le_of_ble_eq_true rfl) (Nat.zero_le _) (Nat.zero_le _) R1 ?_
      show Wp _ _ _ 27 ls [.int (nI (ll (gW γ) (hJ h 19) x)), .int (nI x), .ref 28] h _ _
      refine r_iasN (q57 (i := 17) rfl) (k_28 S) (by omega) (by decide) ?_
      refine r_aload_n (q57 (i := 18) rfl) l0 ?_
      refine r_getR (b := 28) (q57 (i := 19) rfl) rfl (by decide) (k_27 S) (fun _ _ _ => rfl) (r_27_0 S) ?_
      refine r_iload_n (q57 (i := 20) rfl) l3 ?_
      refine r_iaN (x := nI (ll (gW γ) (hJ h 19) x)) (q57 (i := 21) rfl) (k_28 S) (by omega) (by decide) u1_s ?_
      refine r_iload_n (q57 (i := 22) rfl) l3 ?_
      refine r_icmp 58 (q57 (i := 23) rfl) (by decide) (fun c => absurd c (show ¬ (¬ nI (ll (gW γ) (hJ h 19) x) = nI x) from fun z => z (by rw [hL]))) (fun _ => ?_)
      refine r_aload_n (q57 (i := 24) rfl) l0 ?_
      refine r_getR (b := 29) (q57 (i := 25) rfl) rfl (by decide) (k_27 S) (fun _ _ _ => rfl) (r_27_1 S) ?_
      refine r_aload_n (q57 (i := 26) rfl) l0 ?_
      refine r_getI (x := nI (cntB (lead (gW γ) (hJ h 19)) x)) (q57 (i := 27) rfl) rfl (by decide) (k_27 S) (fun _ _ _ => rfl) d1 ?_
      refine r_iload_n (q57 (i := 28) rfl) l3 ?_
      refine r_iasN (q57 (i := 29) rfl) (k_29 S) (by omega) (by decide) ?_
      refine r_aload_n (q57 (i := 30) rfl) l0 ?_
      refine r_dup (q57 (i := 31) rfl) rfl ?_
      refine r_getI (x := nI (cntB (lead (gW γ) (hJ h 19)) x)) (q57 (i := 32) rfl) rfl (by decide) (k_27 S) (fun _ _ _ => rfl) d1 ?_
      refine r_iconst (v := 1) (q57 (i := 33) rfl) (by decide) ?_
      refine r_iadd (q57 (i := 34) rfl) ?_
      rw [show ((nI (cntB (lead (gW γ) (hJ h 19)) x)) + 1 : Int32) = nI (cntB (lead (gW γ) (hJ h 19)) x + 1) from nI_1 _]
      refine r_putI (q57 (i := 35) rfl) rfl (by decide) (k_27 S) rfl rfl ?_
      refine r_iinc (y := nI (x + 1)) (q57 (i := 36) rfl) (Nat.le_of_ble_eq_true rfl) l3 (nI_1 x) rfl ?_
      have l0 := lk1 (k := 3) (v := .int (nI (x + 1))) l0 (by decide) (Or.inr (by decide))
      have l1 := lk1 (k := 3) (v := .int (nI (x + 1))) l1 (by decide) (Or.inr (by decide))
      have l2 := lk1 (k := 3) (v := .int (nI (x + 1))) l2 (by decide) (Or.inl rfl)
      have l3 := lk0 ls 3 (.int (nI (x + 1)))
      generalize lset1 ls 3 (.int (nI (x + 1))) = ls at l3 l0 l1 l2 ⊢
      refine r_goto 7 (q57 (i := 37) rfl) (by decide) ?_
      rw [← hxe]
      exact hk Q hQ bc bs ls l3 l0 l1 l2
    · have hl : lead (gW γ) (hJ h 19) x = false := decide_eq_false hL
      rw [hl] at ec
      have ec : cntB (lead (gW γ) (hJ h 19)) (x + 1) = cntB (lead (gW γ) (hJ h 19)) x := ec
      obtain ⟨hx, hxe⟩ : ∃ hx, hx = sI h 28 x (nI (ll (gW γ) (hJ h 19) x)) := ⟨_, rfl⟩
      have Fx : FrGr h hx := by
        rw [hxe]
        refine ⟨rfl, fun k hk => ?_⟩
        show u2 h.1 28 _ _ k = _
        rw [u2_n (by omega)]
      have Dx : LD hx (gW γ) (hJ h 19) (x + 1) := by
        rw [hxe]
        refine ⟨by rw [ec]; exact d1, fun y hy hl2 => ?_, fun y hy => ?_⟩
        · by_cases q : y = x
          · rw [q, hl] at hl2; exact absurd hl2 (by decide)
          · exact d2 y (by omega) hl2
        · show u1 (hI h 28) x (nI (ll (gW γ) (hJ h 19) x)) y = _
          by_cases q : y = x
          · rw [q, u1_s]
          · rw [u1_n q]
            exact d3 y (by omega)
      have ej : hJ hx 19 = hJ h 19 := by unfold hJ; rw [Fx.1]
      rw [← ej] at Dx
      obtain ⟨h', D', F', hk⟩ := ih (x + 1) hx (by omega) (Fx.S S) (Fx.G G) (Fx.V V) Dx
      rw [ej] at D'
      refine ⟨h', D', Fx.tr F', ?_⟩
      intro Q hQ bc bs ls l3 l0 l1 l2
      refine r_iload_n (q57 (i := 5) rfl) l3 ?_
      refine r_aload_n (q57 (i := 6) rfl) l1 ?_
      refine r_getI (x := nI (gC γ)) (q57 (i := 7) rfl) rfl (by decide) (k_21 S) (fun _ _ _ => rfl) e9 ?_
      refine r_icmp 64 (q57 (i := 8) rfl) (by decide) (fun c => absurd c (show ¬ (nI (gC γ) ≤ nI x) from nI_ge (by omega) (by omega))) (fun _ => ?_)
      refine r_aload_n (q57 (i := 9) rfl) l0 ?_
      refine r_getR (b := 28) (q57 (i := 10) rfl) rfl (by decide) (k_27 S) (fun _ _ _ => rfl) (r_27_0 S) ?_
      refine r_iload_n (q57 (i := 11) rfl) l3 ?_
      refine r_aload_n (q57 (i := 12) rfl) l0 ?_
      refine r_iload_n (q57 (i := 13) rfl) l3 ?_
      refine r_aload_n (q57 (i := 14) rfl) l1 ?_
      refine r_aload_n (q57 (i := 15) rfl) l2 ?_
      refine r_cV (d := _) (q57 (i := 16) rfl) rfl rfl rfl (k_27 S) (Nat.le_of_ble_eq_true rfl) (Nat.zero_le _) (Nat.zero_le _) R1 ?_
      show Wp _ _ _ 27 ls [.int (nI (ll (gW γ) (hJ h 19) x)), .int (nI x), .ref 28] h _ _
      refine r_iasN (q57 (i := 17) rfl) (k_28 S) (by omega) (by decide) ?_
      refine r_aload_n (q57 (i := 18) rfl) l0 ?_
      refine r_getR (b := 28) (q57 (i := 19) rfl) rfl (by decide) (k_27 S) (fun _ _ _ => rfl) (r_27_0 S) ?_
      refine r_iload_n (q57 (i := 20) rfl) l3 ?_
      refine r_iaN (x := nI (ll (gW γ) (hJ h 19) x)) (q57 (i := 21) rfl) (k_28 S) (by omega) (by decide) u1_s ?_
      refine r_iload_n (q57 (i := 22) rfl) l3 ?_
      refine r_icmp 58 (q57 (i := 23) rfl) (by decide) (fun _ => ?_) (fun c => absurd (show ¬ nI (ll (gW γ) (hJ h 19) x) = nI x from neN (by have := ll_le (gW γ) (hJ h 19) x; omega) (by omega) hL) c)
      refine r_iinc (y := nI (x + 1)) (q57 (i := 36) rfl) (Nat.le_of_ble_eq_true rfl) l3 (nI_1 x) rfl ?_
      have l0 := lk1 (k := 3) (v := .int (nI (x + 1))) l0 (by decide) (Or.inr (by decide))
      have l1 := lk1 (k := 3) (v := .int (nI (x + 1))) l1 (by decide) (Or.inr (by decide))
      have l2 := lk1 (k := 3) (v := .int (nI (x + 1))) l2 (by decide) (Or.inl rfl)
      have l3 := lk0 ls 3 (.int (nI (x + 1)))
      generalize lset1 ls 3 (.int (nI (x + 1))) = ls at l3 l0 l1 l2 ⊢
      refine r_goto 7 (q57 (i := 37) rfl) (by decide) ?_
      rw [← hxe]
      exact hk Q hQ bc bs ls l3 l0 l1 l2
set_option maxHeartbeats 2000000 in
set_option maxRecDepth 10000 in
theorem sp_find {d : Nat} {h : hp} (S : Sh h) {ρ n rw u : Nat} {γ : gs} (G : GC h ρ n rw γ) (V : VS h rw u) : ∃ h', Run (d + 2 + 1) 57 [.ref 27, .ref 21, .ref 17] h 0 0 none h' ∧ LD h' (gW γ) (hJ h 19) (gC γ) ∧ FrGr h h' := by
  have F0 : FrGr h (sI h 27 2 0) := ⟨rfl, fun k hk => by show u2 h.1 27 _ _ k = _; rw [u2_n (by omega)]⟩
  obtain ⟨h', D', F', hk⟩ := lp_find (d := d) (γ := γ) (gC γ) 0 (sI h 27 2 0) (by omega) (F0.S S) (F0.G G) (F0.V V) ⟨rfl, fun y hy => absurd hy (Nat.not_lt_zero y), fun y hy => absurd hy (Nat.not_lt_zero y)⟩
  refine ⟨h', ?_, D', F0.tr F'⟩
  refine Run.of (Nat.le_of_ble_eq_true rfl) (fun Q hQ => ?_)
  show Wp (Ex (d + 2)) 57 Q 0 [(0, .ref 27), (1, .ref 21), (2, .ref 17)] [] h 0 0
  refine r_aload_n (q57 (i := 0) rfl) rfl ?_
  refine r_iconst (v := 0) (q57 (i := 1) rfl) (by decide) ?_
  refine r_putI (q57 (i := 2) rfl) rfl (by decide) (k_27 S) rfl rfl ?_
  refine r_iconst (v := 0) (q57 (i := 3) rfl) (by decide) ?_
  refine r_istore_n (ls' := [(3, .int 0), (0, .ref 27), (1, .ref 21), (2, .ref 17)]) (q57 (i := 4) rfl) (Nat.le_of_ble_eq_true rfl) rfl ?_
  exact hk Q hQ _ _ _ rfl rfl rfl rfl
end
section
/-! ===== the VECTORS, pure ===== -/
abbrev vs : Type := (Nat → Int64) × (Nat → Int32) × Nat
def vadd (v : vs) (w : Nat) : vs := (u1 v.1 (w / 64) (v.1 (w / 64) ||| 1 <<< ((nI (w % 64)).toInt64 &&& 63)), u1 v.2.1 v.2.2 (nI w), v.2.2 + 1)
def vok (v : vs) : Prop := cntB (inV v.1) 4096 = v.2.2
theorem cntB_same {f g : Nat → Bool} : ∀ m, (∀ i, i < m → g i = f i) → cntB g m = cntB f m
  | 0, _ => rfl
  | m + 1, h => by
    show cntB g m + (if g m then 1 else 0) = cntB f m + (if f m then 1 else 0)
    rw [cntB_same m (fun i hi => h i (by omega)), h m (by omega)]
theorem cntB_upd {f g : Nat → Bool} {w : Nat} (hw : f w = false) (hg : g w = true) (ho : ∀ i, i ≠ w → g i = f i) : ∀ m, w < m → cntB g m = cntB f m + 1
  | 0, h => absurd h (Nat.not_lt_zero w)
  | m + 1, h => by
    show cntB g m + (if g m then 1 else 0) = cntB f m + (if f m then 1 else 0) + 1
    by_cases q : w = m
    · subst q
      rw [cntB_same w (fun i hi => ho i (by omega)), hw, hg]
      rfl
    · rw [cntB_upd hw hg ho m (by omega), ho m (fun z => q z.symm)]
      omega
theorem cntB_free {f : Nat → Bool} {w : Nat} (hw : f w = false) : ∀ m, w < m → cntB f m < m
  | 0, h => absurd h (Nat.not_lt_zero w)
  | m + 1, h => by
    show cntB f m + (if f m then 1 else 0) < m + 1
    by_cases q : w = m
    · subst q
      rw [hw]
      have := cntB_le f w
      show cntB f w + 0 < w + 1
      omega
    · have := cntB_free hw m (by omega)
      split <;> omega
theorem inV_add (v : vs) (w i : Nat) : inV (vadd v w).1 i = (inV v.1 i || decide (i = w)) := by
  unfold inV vadd
  show b64 (u1 v.1 (w / 64) _ (i / 64)) (i % 64) = _
  by_cases q : i / 64 = w / 64
  · rw [q, u1_s, b64_or, b64_shl1 (by omega) (by omega)]
    by_cases z : i % 64 = w % 64
    · rw [decide_eq_true z, decide_eq_true (show i = w by omega)]
    · rw [decide_eq_false z, decide_eq_false (show ¬ i = w by omega)]
  · rw [u1_n q, decide_eq_false (show ¬ i = w by intro e; exact q (by rw [e])), Bool.or_false]
theorem vok_lt {v : vs} (V : vok v) {w : Nat} (hw : w < 4096) (hi : inV v.1 w = false) : v.2.2 < 4096 := by
  rw [← V]
  exact cntB_free hi 4096 hw
theorem vok_add {v : vs} (V : vok v) {w : Nat} (hw : w < 4096) (hi : inV v.1 w = false) : vok (vadd v w) := by
  show cntB (inV (vadd v w).1) 4096 = v.2.2 + 1
  rw [cntB_upd (f := inV v.1) (w := w) hi (by rw [inV_add, decide_eq_true rfl, Bool.or_true]) (fun i hne => by rw [inV_add, decide_eq_false hne, Bool.or_false]) 4096 hw, V]
def nz (V : Nat → Int64) (i : Nat) : Bool := decide (V i ≠ 0)
/-- the class's VectorSet holds v -/
def VC (h : hp) (rw : Nat) (v : vs) : Prop := hJ h 19 = v.1 ∧ hI h 18 = v.2.1 ∧ hI h 17 4 = nI v.2.2 ∧ VS h rw (cntB (nz v.1) 64)
def FrV (h h' : hp) : Prop := h'.2.2 = h.2.2 ∧ (∀ k, k ≠ 17 → k ≠ 18 → k ≠ 20 → hI h' k = hI h k) ∧ ∀ k, k ≠ 19 → hJ h' k = hJ h k
theorem orbit_ne {x : Int64} {k : Nat} (hk : k < 64) : x ||| 1 <<< ((nI k).toInt64 &&& 63) ≠ 0 := fun e => by
  have : b64 (x ||| 1 <<< ((nI k).toInt64 &&& 63)) k = false := by rw [e, b64_0]
  rw [b64_or, b64_shl1 hk hk, decide_eq_true rfl, Bool.or_true] at this
  exact absurd this (by decide)
theorem VC_add {h : hp} {rw : Nat} {v : vs} (C : VC h rw v) {w : Nat} (hw : w < 4096) (hr : w / 64 < rw) : VC (addV h w (cntB (nz v.1) 64) v.2.2) rw (vadd v w) ∧ FrV h (addV h w (cntB (nz v.1) 64) v.2.2) := by
  obtain ⟨c1, c2, c3, c4, c5, c6, c7⟩ := C
  have hk : w % 64 < 64 := Nat.mod_lt _ (by decide)
  have hw6 : w / 64 < 64 := by omega
  have hnz : nz (vadd v w).1 (w / 64) = true := by
    unfold nz vadd
    show decide (u1 v.1 (w / 64) _ (w / 64) ≠ 0) = true
    rw [u1_s]
    exact decide_eq_true (orbit_ne hk)
  have hno : ∀ i, i ≠ w / 64 → nz (vadd v w).1 i = nz v.1 i := fun i hi => by
    unfold nz vadd
    show decide (u1 v.1 (w / 64) _ i ≠ 0) = _
    rw [u1_n hi]
  by_cases z : hJ h 19 (w / 64) = 0
  · have z' : nz v.1 (w / 64) = false := by unfold nz; rw [← c1]; exact decide_eq_false (fun q => q z)
    have hc := cntB_upd (f := nz v.1) (g := nz (vadd v w).1) z' hnz hno 64 hw6
    have hlt := cntB_free z' 64 hw6
    have e : addV h w (cntB (nz v.1) 64) v.2.2 = sI (sI (sJ (sI (sI h 20 (cntB (nz v.1) 64) (nI (w / 64))) 17 3 (nI (cntB (nz v.1) 64 + 1))) 19 (w / 64) (hJ h 19 (w / 64) ||| 1 <<< ((nI (w % 64)).toInt64 &&& 63))) 18 v.2.2 (nI w)) 17 4 (nI (v.2.2 + 1)) := by
      unfold addV; rw [if_pos z]
    rw [e]
    refine ⟨⟨?_, ?_, ?_, ?_⟩, rfl, fun k a b c => ?_, fun k a => ?_⟩
    · show u1 (hJ h 19) (w / 64) (hJ h 19 (w / 64) ||| _) = _
      rw [c1]; rfl
    · show u1 (hI h 18) v.2.2 (nI w) = _
      rw [c2]; rfl
    · rfl
    · rw [hc]
      refine ⟨rfl, by omega, fun k hk2 => ?_, fun i hi hne => ?_⟩
      · show ∃ w', w' < rw ∧ u1 (hI h 20) (cntB (nz v.1) 64) (nI (w / 64)) k = nI w'
        by_cases q : k = cntB (nz v.1) 64
        · exact ⟨w / 64, hr, by rw [q, u1_s]⟩
        · obtain ⟨w', a, b⟩ := c6 k (by omega)
          exact ⟨w', a, by rw [u1_n q]; exact b⟩
      · show ∃ k, k < cntB (nz v.1) 64 + 1 ∧ u1 (hI h 20) (cntB (nz v.1) 64) (nI (w / 64)) k = nI i
        by_cases q : i = w / 64
        · exact ⟨cntB (nz v.1) 64, by omega, by rw [u1_s, q]⟩
        · have : u1 (hJ h 19) (w / 64) (hJ h 19 (w / 64) ||| 1 <<< ((nI (w % 64)).toInt64 &&& 63)) i ≠ 0 := hne
          rw [u1_n q] at this
          obtain ⟨k, a, b⟩ := c7 i hi this
          exact ⟨k, by omega, by rw [u1_n (by omega)]; exact b⟩
    · show u2 (u2 (u2 (u2 h.1 20 _ _) 17 _ _) 18 _ _) 17 _ _ k = _
      rw [u2_n a, u2_n b, u2_n a, u2_n c]
    · show u2 h.2.1 19 _ _ k = _
      rw [u2_n a]
  · have z' : nz v.1 (w / 64) = true := by unfold nz; rw [← c1]; exact decide_eq_true z
    have hc : cntB (nz (vadd v w).1) 64 = cntB (nz v.1) 64 := cntB_same 64 (fun i _ => by
      by_cases q : i = w / 64
      · rw [q, hnz, z']
      · exact hno i q)
    have e : addV h w (cntB (nz v.1) 64) v.2.2 = sI (sI (sJ h 19 (w / 64) (hJ h 19 (w / 64) ||| 1 <<< ((nI (w % 64)).toInt64 &&& 63))) 18 v.2.2 (nI w)) 17 4 (nI (v.2.2 + 1)) := by
      unfold addV; rw [if_neg z]
    rw [e]
    refine ⟨⟨?_, ?_, ?_, ?_⟩, rfl, fun k a b c => ?_, fun k a => ?_⟩
    · show u1 (hJ h 19) (w / 64) (hJ h 19 (w / 64) ||| _) = _
      rw [c1]; rfl
    · show u1 (hI h 18) v.2.2 (nI w) = _
      rw [c2]; rfl
    · rfl
    · rw [hc]
      refine ⟨c4, c5, c6, fun i hi hne => ?_⟩
      by_cases q : i = w / 64
      · exact c7 i hi (by rw [q]; exact z)
      · have : u1 (hJ h 19) (w / 64) (hJ h 19 (w / 64) ||| 1 <<< ((nI (w % 64)).toInt64 &&& 63)) i ≠ 0 := hne
        rw [u1_n q] at this
        exact c7 i hi this
    · show u2 (u2 h.1 18 _ _) 17 _ _ k = _
      rw [u2_n a, u2_n b]
    · show u2 h.2.1 19 _ _ k = _
      rw [u2_n a]
theorem sp_addC {d : Nat} {h : hp} (S : Sh h) {rw : Nat} {v : vs} (C : VC h rw v) (K : vok v) {w : Nat} (hw : w < 4096) (hi : inV v.1 w = false) : Run (d + 1 + 1) 73 [.ref 17, .int (nI w)] h 0 0 none (addV h w (cntB (nz v.1) 64) v.2.2) := by
  obtain ⟨c1, c2, c3, c4, c5, c6, c7⟩ := C
  refine sp_add S hw c3 (vok_lt K hw hi) c4 (fun z => ?_) (by rw [c1]; exact hi)
  rw [c1] at z
  exact cntB_free (show nz v.1 (w / 64) = false from decide_eq_false (fun q => q z)) 64 (by omega)
/-! ===== a question ===== -/
abbrev sst : Type := vs × Nat × Nat
/-- the least INPUT WORD that parts p from the node x, 2 ^ n if none does -/
def wdp (T : Nat → Nat → Int64) (n p x : Nat) : Nat := lst (dif T p (2 * x)) (2 ^ n)
noncomputable def pP (T : Nat → Nat → Int64) (V : Nat → Int64) (c x : Nat) : Nat := if lik T V c x = 2 then 2 * c + 1 else 2 * c
noncomputable def askT (T : Nat → Nat → Int64) (n c x : Nat) : Nat → sst → Option Nat × sst
  | 0, s => (none, s)
  | m + 1, s => if lik T s.1.1 c x = 0 then (none, s) else if wdp T n (pP T s.1.1 c x) x = 2 ^ n then (some (pP T s.1.1 c x), (s.1, s.2.1, s.2.2 + 1)) else askT T n c x m (vadd s.1 (wdp T n (pP T s.1.1 c x) x), s.2.1 + 1, s.2.2 + 1)
def oO : Option Nat → Int32
  | none => -1
  | some p => nI p
theorem pP_le (T : Nat → Nat → Int64) (V : Nat → Int64) (c x : Nat) : pP T V c x ≤ 2 * c + 1 := by unfold pP; split <;> omega
theorem wdp_lt (T : Nat → Nat → Int64) (n p x : Nat) (h : wdp T n p x ≠ 2 ^ n) : wdp T n p x < 2 ^ n ∧ dif T p (2 * x) (wdp T n p x) = true := by
  obtain ⟨a, b, c⟩ := lst_facts (dif T p (2 * x)) (2 ^ n)
  have : wdp T n p x < 2 ^ n := by unfold wdp at *; omega
  exact ⟨this, c this⟩
theorem b64_z {T : Nat → Nat → Int64} {V : Nat → Int64} {c x w i : Nat} : b64 (dV T V c x w) i = ((b64 (T c w) i ^^ b64 (T x w) i) && b64 (V w) i) := by unfold dV; rw [b64_and, b64_xor]
theorem lbit_e (T : Nat → Nat → Int64) (c w : Nat) : lbit T (2 * c) w = b64 (T c (w / 64)) (w % 64) := by
  unfold lbit lw
  rw [if_pos (by omega), show 2 * c / 2 = c by omega]
theorem lbit_o (T : Nat → Nat → Int64) (c w : Nat) : lbit T (2 * c + 1) w = !b64 (T c (w / 64)) (w % 64) := by
  unfold lbit lw
  rw [if_neg (by omega), show (2 * c + 1) / 2 = c by omega, b64_not _ (Nat.mod_lt _ (by decide))]
theorem lik_two {T : Nat → Nat → Int64} {V : Nat → Int64} {x y : Nat} (h : lik T V x y = 2) : ∀ w, w < 64 → dV T V x y w = V w := by
  unfold lik at h
  split at h
  · exact absurd h (by decide)
  · split at h
    · assumption
    · exact absurd h (by decide)
theorem lik_one {T : Nat → Nat → Int64} {V : Nat → Int64} {x y : Nat} (h : lik T V x y ≠ 0) (h2 : lik T V x y ≠ 2) : ∀ w, w < 64 → dV T V x y w = 0 := by
  unfold lik at h h2
  split at h
  · assumption
  · split at h
    · rename_i a b
      rw [if_neg a, if_pos b] at h2
      exact absurd rfl h2
    · exact absurd rfl h
/-- what parts two nodes that are LIKE each other isn't a VECTOR yet -/
theorem ask_new {T : Nat → Nat → Int64} {V : Nat → Int64} {c x w : Nat} (hl : lik T V c x ≠ 0) (hd : dif T (pP T V c x) (2 * x) w = true) (hw : w / 64 < 64) : inV V w = false := by
  unfold dif at hd
  rw [lbit_e] at hd
  unfold inV
  by_cases q : lik T V c x = 2
  · have e := b64_z (T := T) (V := V) (c := c) (x := x) (w := w / 64) (i := w % 64)
    rw [lik_two q _ hw] at e
    unfold pP at hd
    rw [if_pos q, lbit_o] at hd
    rw [e]
    revert hd
    cases b64 (T c (w / 64)) (w % 64) <;> cases b64 (T x (w / 64)) (w % 64) <;> cases b64 (V (w / 64)) (w % 64) <;> simp_all
  · have e := b64_z (T := T) (V := V) (c := c) (x := x) (w := w / 64) (i := w % 64)
    rw [lik_one hl q _ hw, b64_0] at e
    unfold pP at hd
    rw [if_neg q, lbit_e] at hd
    revert hd e
    cases b64 (T c (w / 64)) (w % 64) <;> cases b64 (T x (w / 64)) (w % 64) <;> cases b64 (V (w / 64)) (w % 64) <;> simp
/-- the class's Sweeper and VECTORS hold s -/
def SW (h : hp) (rw : Nat) (s : sst) : Prop := VC h rw s.1 ∧ hI h 30 2 = nI s.2.1 ∧ hI h 30 3 = nI s.2.2 ∧ vok s.1
def FrS (h h' : hp) : Prop := h'.2.2 = h.2.2 ∧ (∀ k, k ≠ 17 → k ≠ 18 → k ≠ 20 → k ≠ 30 → hI h' k = hI h k) ∧ (∀ k, k ≠ 19 → hJ h' k = hJ h k) ∧ ∀ k, k ≠ 2 → k ≠ 3 → hI h' 30 k = hI h 30 k
theorem FrS.rf (h : hp) : FrS h h := ⟨rfl, fun _ _ _ _ _ => rfl, fun _ _ => rfl, fun _ _ _ => rfl⟩
theorem FrS.tr {h h' h'' : hp} (a : FrS h h') (b : FrS h' h'') : FrS h h'' := ⟨b.1.trans a.1, fun k x y z t => (b.2.1 k x y z t).trans (a.2.1 k x y z t), fun k x => (b.2.2.1 k x).trans (a.2.2.1 k x), fun k x y => (b.2.2.2 k x y).trans (a.2.2.2 k x y)⟩
theorem FrS.S {h h' : hp} (F : FrS h h') (S : Sh h) : Sh h' := S.to F.1
theorem FrS.G {h h' : hp} (F : FrS h h') {ρ n rw : Nat} {γ : gs} (hρ : ρ ≠ 19) (G : GC h ρ n rw γ) : GC h' ρ n rw γ := by
  obtain ⟨h2, hi, hj, _⟩ := F
  unfold GC Rw hR hK at *
  rw [h2, hi 21 (by decide) (by decide) (by decide) (by decide), hi 22 (by decide) (by decide) (by decide) (by decide), hi 23 (by decide) (by decide) (by decide) (by decide), hi 24 (by decide) (by decide) (by decide) (by decide), hi 25 (by decide) (by decide) (by decide) (by decide), hj ρ hρ]
  exact G
theorem lik012 (T : Nat → Nat → Int64) (V : Nat → Int64) (x y : Nat) : lik T V x y = 0 ∨ lik T V x y = 1 ∨ lik T V x y = 2 := by
  unfold lik
  split
  · exact Or.inr (Or.inl rfl)
  · split
    · exact Or.inr (Or.inr rfl)
    · exact Or.inl rfl
theorem apt_no {T : Nat → Nat → Int64} {p q m : Nat} (h : lst (dif T p q) m = m) : apt T p q m = -1 := if_neg (by rw [h]; exact Nat.lt_irrefl m)
theorem apt_is {T : Nat → Nat → Int64} {p q m : Nat} (h : lst (dif T p q) m < m) : apt T p q m = nI (lst (dif T p q) m) := if_pos h
theorem nI_mul (a b : Nat) : nI a * nI b = nI (a * b) := Int32.toBitVec_inj.mp (by
  show BitVec.ofNat 32 a * BitVec.ofNat 32 b = BitVec.ofNat 32 (a * b)
  exact (BitVec.ofNat_mul a b).symm)
theorem nI_ne1 {a : Nat} (h : a < 2 ^ 31) : ¬ nI a = -1 := fun z => by
  have e : nI a = nI (2 ^ 32 - 1) := z
  have : (nI a).toBitVec = (nI (2 ^ 32 - 1)).toBitVec := by rw [e]
  have h2 : BitVec.ofNat 32 a = BitVec.ofNat 32 (2 ^ 32 - 1) := this
  have h3 := congrArg BitVec.toNat h2
  rw [BitVec.toNat_ofNat, BitVec.toNat_ofNat] at h3
  omega
set_option maxHeartbeats 2000000 in
set_option maxRecDepth 10000 in
theorem ask_53 {d : Nat} {ρ n rw : Nat} {γ : gs} (hρ : ρ ≠ 19) (Pz : ∀ p q, p < 2 * gC γ → q < 2 * gC γ → apt (gW γ) p q (64 * rw) = apt (gW γ) p q (2 ^ n)) (hrw : ∀ w, w < 2 ^ n → w / 64 < rw ∧ w < 4096) {c x : Nat} (hc : c < x) (hx : x < gC γ) {h : hp} (S : Sh h) (G : GC h ρ n rw γ) {s : sst} (W : SW h rw s) {p t : Nat} (hp : p < 2 * gC γ) (hn : wdp (gW γ) n p x < 2 ^ n → inV s.1.1 (wdp (gW γ) n p x) = false) {Q : resP} {bc bs : Nat} (h1 : wdp (gW γ) n p x = 2 ^ n → Q (some (.int (nI p))) h) (h2 : wdp (gW γ) n p x < 2 ^ n → ∀ ls : List (Nat × Value), ls.lookup 5 = some (.int (nI (t + 1))) → ls.lookup 0 = some (.ref 30) → ls.lookup 1 = some (.int (nI c)) → ls.lookup 2 = some (.int (nI x)) → ls.lookup 3 = some (.ref 21) → ls.lookup 4 = some (.ref 17) → Wp (Ex (d + 2)) 62 Q 3 ls [] (sI (addV h (wdp (gW γ) n p x) (cntB (nz s.1.1) 64) s.1.2.2) 30 2 (nI (s.2.1 + 1))) bc bs) (ls : List (Nat × Value)) (l5 : ls.lookup 5 = some (.int (nI t))) (l0 : ls.lookup 0 = some (.ref 30)) (l1 : ls.lookup 1 = some (.int (nI c))) (l2 : ls.lookup 2 = some (.int (nI x))) (l3 : ls.lookup 3 = some (.ref 21)) (l4 : ls.lookup 4 = some (.ref 17)) : Wp (Ex (d + 2)) 62 Q 53 ls [.int (nI p)] h bc bs := by
  have hc9 := G.2.1.2.2.2
  obtain ⟨VCh, w2, w3, w4⟩ := W
  have R1 := sp_fwa (d := d) S G hp (show 2 * x < 2 * gC γ by omega)
  rw [Pz p (2 * x) hp (by omega)] at R1
  have hle := (lst_facts (dif (gW γ) p (2 * x)) (2 ^ n)).1
  by_cases hz : wdp (gW γ) n p x = 2 ^ n
  · have ea := apt_no (T := gW γ) (p := p) (q := 2 * x) hz
    have hQ := h1 hz
    rw [ea] at R1
    refine r_istore (q62 (i := 33) rfl) (Nat.le_of_ble_eq_true rfl) rfl ?_
    have l5 := lk1 (k := 7) (v := .int (nI p)) l5 (by decide) (Or.inr (by decide))
    have l0 := lk1 (k := 7) (v := .int (nI p)) l0 (by decide) (Or.inr (by decide))
    have l1 := lk1 (k := 7) (v := .int (nI p)) l1 (by decide) (Or.inr (by decide))
    have l2 := lk1 (k := 7) (v := .int (nI p)) l2 (by decide) (Or.inr (by decide))
    have l3 := lk1 (k := 7) (v := .int (nI p)) l3 (by decide) (Or.inr (by decide))
    have l4 := lk1 (k := 7) (v := .int (nI p)) l4 (by decide) (Or.inr (by decide))
    have l7 := lk0 ls 7 (.int (nI p))
    generalize lset1 ls 7 (.int (nI p)) = ls at l7 l5 l0 l1 l2 l3 l4 ⊢
    refine r_aload_n (q62 (i := 34) rfl) l3 ?_
    refine r_iload (q62 (i := 35) rfl) l7 ?_
    refine r_iconst (v := 2) (q62 (i := 36) rfl) (by decide) ?_
    refine r_iload_n (q62 (i := 37) rfl) l2 ?_
    refine r_imul (q62 (i := 38) rfl) ?_
    rw [show (2 * (nI x) : Int32) = nI (2 * x) from nI_mul 2 x]
    refine r_cV (d := _) (q62 (i := 39) rfl) rfl rfl rfl (k_21 S) (Nat.le_of_ble_eq_true rfl) (Nat.zero_le _) (Nat.zero_le _) R1 ?_
    show Wp _ _ _ 64 ls [.int (-1)] h _ _
    refine r_istore (q62 (i := 40) rfl) (Nat.le_of_ble_eq_true rfl) rfl ?_
    have l7 := lk1 (k := 8) (v := .int (-1)) l7 (by decide) (Or.inl rfl)
    have l5 := lk1 (k := 8) (v := .int (-1)) l5 (by decide) (Or.inr (by decide))
    have l0 := lk1 (k := 8) (v := .int (-1)) l0 (by decide) (Or.inr (by decide))
    have l1 := lk1 (k := 8) (v := .int (-1)) l1 (by decide) (Or.inr (by decide))
    have l2 := lk1 (k := 8) (v := .int (-1)) l2 (by decide) (Or.inr (by decide))
    have l3 := lk1 (k := 8) (v := .int (-1)) l3 (by decide) (Or.inr (by decide))
    have l4 := lk1 (k := 8) (v := .int (-1)) l4 (by decide) (Or.inr (by decide))
    have l8 := lk0 ls 8 (.int (-1))
    generalize lset1 ls 8 (.int (-1)) = ls at l8 l7 l5 l0 l1 l2 l3 l4 ⊢
    refine r_iload (q62 (i := 41) rfl) l8 ?_
    refine r_iconst (v := (-1)) (q62 (i := 42) rfl) (by decide) ?_
    refine r_icmp 75 (q62 (i := 43) rfl) (by decide) (fun zz => absurd zz (show ¬ (¬ (-1) = (-1)) from fun z => z rfl)) (fun _ => ?_)
    refine r_iload (q62 (i := 44) rfl) l7 ?_
    exact r_iret (q62 (i := 45) rfl) rfl hQ
  · have hlt : wdp (gW γ) n p x < 2 ^ n := by unfold wdp at *; omega
    obtain ⟨q1, q2⟩ := hrw _ hlt
    have ea : apt (gW γ) p (2 * x) (2 ^ n) = nI (wdp (gW γ) n p x) := apt_is hlt
    have hk := h2 hlt
    rw [ea] at R1
    have R2 := sp_addC (d := d) S VCh w4 q2 (hn hlt)
    have F2 := (VC_add VCh q2 q1).2
    have e2 : hI (addV h (wdp (gW γ) n p x) (cntB (nz s.1.1) 64) s.1.2.2) 30 2 = nI s.2.1 := by rw [F2.2.1 30 (by decide) (by decide) (by decide)]; exact w2
    have S2 : Sh (addV h (wdp (gW γ) n p x) (cntB (nz s.1.1) 64) s.1.2.2) := S.to F2.1
    refine r_istore (q62 (i := 33) rfl) (Nat.le_of_ble_eq_true rfl) rfl ?_
    have l5 := lk1 (k := 7) (v := .int (nI p)) l5 (by decide) (Or.inr (by decide))
    have l0 := lk1 (k := 7) (v := .int (nI p)) l0 (by decide) (Or.inr (by decide))
    have l1 := lk1 (k := 7) (v := .int (nI p)) l1 (by decide) (Or.inr (by decide))
    have l2 := lk1 (k := 7) (v := .int (nI p)) l2 (by decide) (Or.inr (by decide))
    have l3 := lk1 (k := 7) (v := .int (nI p)) l3 (by decide) (Or.inr (by decide))
    have l4 := lk1 (k := 7) (v := .int (nI p)) l4 (by decide) (Or.inr (by decide))
    have l7 := lk0 ls 7 (.int (nI p))
    generalize lset1 ls 7 (.int (nI p)) = ls at l7 l5 l0 l1 l2 l3 l4 ⊢
    refine r_aload_n (q62 (i := 34) rfl) l3 ?_
    refine r_iload (q62 (i := 35) rfl) l7 ?_
    refine r_iconst (v := 2) (q62 (i := 36) rfl) (by decide) ?_
    refine r_iload_n (q62 (i := 37) rfl) l2 ?_
    refine r_imul (q62 (i := 38) rfl) ?_
    rw [show (2 * (nI x) : Int32) = nI (2 * x) from nI_mul 2 x]
    refine r_cV (d := _) (q62 (i := 39) rfl) rfl rfl rfl (k_21 S) (Nat.le_of_ble_eq_true rfl) (Nat.zero_le _) (Nat.zero_le _) R1 ?_
    show Wp _ _ _ 64 ls [.int (nI (wdp (gW γ) n p x))] h _ _
    refine r_istore (q62 (i := 40) rfl) (Nat.le_of_ble_eq_true rfl) rfl ?_
    have l7 := lk1 (k := 8) (v := .int (nI (wdp (gW γ) n p x))) l7 (by decide) (Or.inl rfl)
    have l5 := lk1 (k := 8) (v := .int (nI (wdp (gW γ) n p x))) l5 (by decide) (Or.inr (by decide))
    have l0 := lk1 (k := 8) (v := .int (nI (wdp (gW γ) n p x))) l0 (by decide) (Or.inr (by decide))
    have l1 := lk1 (k := 8) (v := .int (nI (wdp (gW γ) n p x))) l1 (by decide) (Or.inr (by decide))
    have l2 := lk1 (k := 8) (v := .int (nI (wdp (gW γ) n p x))) l2 (by decide) (Or.inr (by decide))
    have l3 := lk1 (k := 8) (v := .int (nI (wdp (gW γ) n p x))) l3 (by decide) (Or.inr (by decide))
    have l4 := lk1 (k := 8) (v := .int (nI (wdp (gW γ) n p x))) l4 (by decide) (Or.inr (by decide))
    have l8 := lk0 ls 8 (.int (nI (wdp (gW γ) n p x)))
    generalize lset1 ls 8 (.int (nI (wdp (gW γ) n p x))) = ls at l8 l7 l5 l0 l1 l2 l3 l4 ⊢
    refine r_iload (q62 (i := 41) rfl) l8 ?_
    refine r_iconst (v := (-1)) (q62 (i := 42) rfl) (by decide) ?_
    refine r_icmp 75 (q62 (i := 43) rfl) (by decide) (fun _ => ?_) (fun zz => absurd (show ¬ nI (wdp (gW γ) n p x) = (-1) from nI_ne1 (by omega)) zz)
    refine r_aload (q62 (i := 46) rfl) l4 ?_
    refine r_iload (q62 (i := 47) rfl) l8 ?_
    refine r_cV (d := _) (q62 (i := 48) rfl) rfl rfl rfl (k_17 S) (Nat.le_of_ble_eq_true rfl) (Nat.zero_le _) (Nat.zero_le _) R2 ?_
    show Wp _ _ _ 82 ls [] (addV h (wdp (gW γ) n p x) (cntB (nz s.1.1) 64) s.1.2.2) _ _
    refine r_aload_n (q62 (i := 49) rfl) l0 ?_
    refine r_dup (q62 (i := 50) rfl) rfl ?_
    refine r_getI (x := nI s.2.1) (q62 (i := 51) rfl) rfl (by decide) (k_30 S2) (fun _ _ _ => rfl) e2 ?_
    refine r_iconst (v := 1) (q62 (i := 52) rfl) (by decide) ?_
    refine r_iadd (q62 (i := 53) rfl) ?_
    rw [show ((nI s.2.1) + 1 : Int32) = nI (s.2.1 + 1) from nI_1 _]
    refine r_putI (q62 (i := 54) rfl) rfl (by decide) (k_30 S2) rfl rfl ?_
    refine r_iinc (y := nI (t + 1)) (q62 (i := 55) rfl) (Nat.le_of_ble_eq_true rfl) l5 (nI_1 t) rfl ?_
    have l8 := lk1 (k := 5) (v := .int (nI (t + 1))) l8 (by decide) (Or.inr (by decide))
    have l7 := lk1 (k := 5) (v := .int (nI (t + 1))) l7 (by decide) (Or.inr (by decide))
    have l0 := lk1 (k := 5) (v := .int (nI (t + 1))) l0 (by decide) (Or.inr (by decide))
    have l1 := lk1 (k := 5) (v := .int (nI (t + 1))) l1 (by decide) (Or.inr (by decide))
    have l2 := lk1 (k := 5) (v := .int (nI (t + 1))) l2 (by decide) (Or.inr (by decide))
    have l3 := lk1 (k := 5) (v := .int (nI (t + 1))) l3 (by decide) (Or.inr (by decide))
    have l4 := lk1 (k := 5) (v := .int (nI (t + 1))) l4 (by decide) (Or.inl rfl)
    have l5 := lk0 ls 5 (.int (nI (t + 1)))
    generalize lset1 ls 5 (.int (nI (t + 1))) = ls at l5 l8 l7 l0 l1 l2 l3 l4 ⊢
    refine r_goto 3 (q62 (i := 56) rfl) (by decide) ?_
    exact hk ls l5 l0 l1 l2 l3 l4
set_option maxHeartbeats 2000000 in
set_option maxRecDepth 10000 in
theorem lp_ask {d : Nat} {ρ n rw : Nat} {γ : gs} (hρ : ρ ≠ 19) (Pz : ∀ p q, p < 2 * gC γ → q < 2 * gC γ → apt (gW γ) p q (64 * rw) = apt (gW γ) p q (2 ^ n)) (hrw : ∀ w, w < 2 ^ n → w / 64 < rw ∧ w < 4096) {c x : Nat} (hc : c < x) (hx : x < gC γ) : ∀ (m t : Nat) (s : sst) (h : hp), t + m = 2 → Sh h → GC h ρ n rw γ → SW h rw s → ∃ h', SW h' rw (askT (gW γ) n c x m s).2 ∧ FrS h h' ∧ ∀ (Q : resP), Q (some (.int (oO (askT (gW γ) n c x m s).1))) h' → ∀ (bc bs : Nat) (ls : List (Nat × Value)), ls.lookup 5 = some (.int (nI t)) → ls.lookup 0 = some (.ref 30) → ls.lookup 1 = some (.int (nI c)) → ls.lookup 2 = some (.int (nI x)) → ls.lookup 3 = some (.ref 21) → ls.lookup 4 = some (.ref 17) → Wp (Ex (d + 2)) 62 Q 3 ls [] h bc bs := by
  intro m
  induction m with
  | zero =>
    intro t s h ht S G W
    have e : t = 2 := by omega
    subst e
    refine ⟨h, W, FrS.rf h, ?_⟩
    intro Q hQ bc bs ls l5 l0 l1 l2 l3 l4
    have hQ : Q (some (.int (-1))) h := hQ
    refine r_iload (q62 (i := 2) rfl) l5 ?_
    refine r_iconst (v := 2) (q62 (i := 3) rfl) (by decide) ?_
    refine r_icmp 98 (q62 (i := 4) rfl) (by decide) (fun _ => ?_) (fun zz => absurd (show 2 ≤ nI 2 from Int32.le_refl _) zz)
    refine r_iconst (v := (-1)) (q62 (i := 57) rfl) (by decide) ?_
    exact r_iret (q62 (i := 58) rfl) rfl hQ
  | succ m ih =>
    intro t s h ht S G W
    have hc9 := G.2.1.2.2.2
    have VCh := W.1
    have R1 := sp_lik (d := d + 1) S G VCh.2.2.2 (show c < gC γ by omega) hx
    rw [VCh.1] at R1
    by_cases hl : lik (gW γ) s.1.1 c x = 0
    · have e : askT (gW γ) n c x (m + 1) s = (none, s) := by unfold askT; rw [if_pos hl]
      rw [e]
      refine ⟨h, W, FrS.rf h, ?_⟩
      intro Q hQ bc bs ls l5 l0 l1 l2 l3 l4
      have hQ : Q (some (.int (-1))) h := hQ
      rw [hl] at R1
      refine r_iload (q62 (i := 2) rfl) l5 ?_
      refine r_iconst (v := 2) (q62 (i := 3) rfl) (by decide) ?_
      refine r_icmp 98 (q62 (i := 4) rfl) (by decide) (fun zz => absurd zz (show ¬ (2 ≤ nI t) from nI_ge (a := t) (b := 2) (by omega) (by omega))) (fun _ => ?_)
      refine r_aload_n (q62 (i := 5) rfl) l3 ?_
      refine r_iload_n (q62 (i := 6) rfl) l1 ?_
      refine r_iload_n (q62 (i := 7) rfl) l2 ?_
      refine r_aload (q62 (i := 8) rfl) l4 ?_
      refine r_cV (d := _) (q62 (i := 9) rfl) rfl rfl rfl (k_21 S) (Nat.le_of_ble_eq_true rfl) (Nat.zero_le _) (Nat.zero_le _) R1 ?_
      show Wp _ _ _ 17 ls [.int 0] h _ _
      refine r_istore (q62 (i := 10) rfl) (Nat.le_of_ble_eq_true rfl) rfl ?_
      have l5 := lk1 (k := 6) (v := .int 0) l5 (by decide) (Or.inl rfl)
      have l0 := lk1 (k := 6) (v := .int 0) l0 (by decide) (Or.inr (by decide))
      have l1 := lk1 (k := 6) (v := .int 0) l1 (by decide) (Or.inr (by decide))
      have l2 := lk1 (k := 6) (v := .int 0) l2 (by decide) (Or.inr (by decide))
      have l3 := lk1 (k := 6) (v := .int 0) l3 (by decide) (Or.inr (by decide))
      have l4 := lk1 (k := 6) (v := .int 0) l4 (by decide) (Or.inr (by decide))
      have l6 := lk0 ls 6 (.int 0)
      generalize lset1 ls 6 (.int 0) = ls at l6 l5 l0 l1 l2 l3 l4 ⊢
      refine r_iload (q62 (i := 11) rfl) l6 ?_
      refine r_if 26 (q62 (i := 12) rfl) (by decide) (fun zz => absurd zz (show ¬ (¬ 0 = 0) from fun z => z rfl)) (fun _ => ?_)
      refine r_iconst (v := (-1)) (q62 (i := 13) rfl) (by decide) ?_
      exact r_iret (q62 (i := 14) rfl) rfl hQ
    · have Fa : FrS h (sI h 30 3 (nI (s.2.2 + 1))) := ⟨rfl, fun k _ _ _ hk => by show u2 h.1 30 _ _ k = _; rw [u2_n hk], fun _ _ => rfl, fun k _ hk => by show u2 h.1 30 _ _ 30 k = _; rw [u2_s, u1_n hk]⟩
      have W1 : SW (sI h 30 3 (nI (s.2.2 + 1))) rw (s.1, s.2.1, s.2.2 + 1) := ⟨W.1, W.2.1, rfl, W.2.2.2⟩
      have hpl := pP_le (gW γ) s.1.1 c x
      have hin : wdp (gW γ) n (pP (gW γ) s.1.1 c x) x < 2 ^ n → inV s.1.1 (wdp (gW γ) n (pP (gW γ) s.1.1 c x) x) = false := fun hz => ask_new hl (wdp_lt _ _ _ _ (by omega)).2 (by have := (hrw _ hz).2; omega)
      have X53 := fun Q bc bs => ask_53 (d := d) hρ Pz hrw hc hx (Fa.S S) (Fa.G hρ G) W1 (p := pP (gW γ) s.1.1 c x) (t := t) (by omega) hin (Q := Q) (bc := bc) (bs := bs)
      by_cases hz : wdp (gW γ) n (pP (gW γ) s.1.1 c x) x = 2 ^ n
      · have e : askT (gW γ) n c x (m + 1) s = (some (pP (gW γ) s.1.1 c x), (s.1, s.2.1, s.2.2 + 1)) := by
          show (if _ then _ else _) = _
          rw [if_neg hl, if_pos hz]
        rw [e]
        refine ⟨_, W1, Fa, ?_⟩
        intro Q hQ bc bs ls l5 l0 l1 l2 l3 l4
        have K53 := X53 Q bc bs (fun _ => hQ) (fun z => absurd hz (by omega))
        by_cases h2 : lik (gW γ) s.1.1 c x = 2
        · have ep : pP (gW γ) s.1.1 c x = 2 * c + 1 := if_pos h2
          rw [ep] at K53
          rw [h2] at R1
          refine r_iload (q62 (i := 2) rfl) l5 ?_
          refine r_iconst (v := 2) (q62 (i := 3) rfl) (by decide) ?_
          refine r_icmp 98 (q62 (i := 4) rfl) (by decide) (fun zz => absurd zz (show ¬ (2 ≤ nI t) from nI_ge (a := t) (b := 2) (by omega) (by omega))) (fun _ => ?_)
          refine r_aload_n (q62 (i := 5) rfl) l3 ?_
          refine r_iload_n (q62 (i := 6) rfl) l1 ?_
          refine r_iload_n (q62 (i := 7) rfl) l2 ?_
          refine r_aload (q62 (i := 8) rfl) l4 ?_
          refine r_cV (d := _) (q62 (i := 9) rfl) rfl rfl rfl (k_21 S) (Nat.le_of_ble_eq_true rfl) (Nat.zero_le _) (Nat.zero_le _) R1 ?_
          show Wp _ _ _ 17 ls [.int 2] h _ _
          refine r_istore (q62 (i := 10) rfl) (Nat.le_of_ble_eq_true rfl) rfl ?_
          have l5 := lk1 (k := 6) (v := .int 2) l5 (by decide) (Or.inl rfl)
          have l0 := lk1 (k := 6) (v := .int 2) l0 (by decide) (Or.inr (by decide))
          have l1 := lk1 (k := 6) (v := .int 2) l1 (by decide) (Or.inr (by decide))
          have l2 := lk1 (k := 6) (v := .int 2) l2 (by decide) (Or.inr (by decide))
          have l3 := lk1 (k := 6) (v := .int 2) l3 (by decide) (Or.inr (by decide))
          have l4 := lk1 (k := 6) (v := .int 2) l4 (by decide) (Or.inr (by decide))
          have l6 := lk0 ls 6 (.int 2)
          generalize lset1 ls 6 (.int 2) = ls at l6 l5 l0 l1 l2 l3 l4 ⊢
          refine r_iload (q62 (i := 11) rfl) l6 ?_
          refine r_if 26 (q62 (i := 12) rfl) (by decide) (fun _ => ?_) (fun zz => absurd (show ¬ (2 : Int32) = 0 from by decide) zz)
          refine r_aload_n (q62 (i := 15) rfl) l0 ?_
          refine r_dup (q62 (i := 16) rfl) rfl ?_
          refine r_getI (x := nI s.2.2) (q62 (i := 17) rfl) rfl (by decide) (k_30 S) (fun _ _ _ => rfl) W.2.2.1 ?_
          refine r_iconst (v := 1) (q62 (i := 18) rfl) (by decide) ?_
          refine r_iadd (q62 (i := 19) rfl) ?_
          rw [show ((nI s.2.2) + 1 : Int32) = nI (s.2.2 + 1) from nI_1 _]
          refine r_putI (q62 (i := 20) rfl) rfl (by decide) (k_30 S) rfl rfl ?_
          refine r_iload (q62 (i := 21) rfl) l6 ?_
          refine r_iconst (v := 2) (q62 (i := 22) rfl) (by decide) ?_
          refine r_icmp 50 (q62 (i := 23) rfl) (by decide) (fun zz => absurd zz (show ¬ (¬ (2 : Int32) = 2) from by decide)) (fun _ => ?_)
          refine r_iconst (v := 2) (q62 (i := 24) rfl) (by decide) ?_
          refine r_iload_n (q62 (i := 25) rfl) l1 ?_
          refine r_imul (q62 (i := 26) rfl) ?_
          rw [show (2 * (nI c) : Int32) = nI (2 * c) from nI_mul 2 c]
          refine r_iconst (v := 1) (q62 (i := 27) rfl) (by decide) ?_
          refine r_iadd (q62 (i := 28) rfl) ?_
          rw [show ((nI (2 * c)) + 1 : Int32) = nI (2 * c + 1) from nI_1 _]
          refine r_goto 53 (q62 (i := 29) rfl) (by decide) ?_
          exact K53 ls l5 l0 l1 l2 l3 l4
        · have ep : pP (gW γ) s.1.1 c x = 2 * c := if_neg h2
          rw [ep] at K53
          refine r_iload (q62 (i := 2) rfl) l5 ?_
          refine r_iconst (v := 2) (q62 (i := 3) rfl) (by decide) ?_
          refine r_icmp 98 (q62 (i := 4) rfl) (by decide) (fun zz => absurd zz (show ¬ (2 ≤ nI t) from nI_ge (a := t) (b := 2) (by omega) (by omega))) (fun _ => ?_)
          refine r_aload_n (q62 (i := 5) rfl) l3 ?_
          refine r_iload_n (q62 (i := 6) rfl) l1 ?_
          refine r_iload_n (q62 (i := 7) rfl) l2 ?_
          refine r_aload (q62 (i := 8) rfl) l4 ?_
          refine r_cV (d := _) (q62 (i := 9) rfl) rfl rfl rfl (k_21 S) (Nat.le_of_ble_eq_true rfl) (Nat.zero_le _) (Nat.zero_le _) R1 ?_
          show Wp _ _ _ 17 ls [.int (lik (gW γ) s.1.1 c x)] h _ _
          refine r_istore (q62 (i := 10) rfl) (Nat.le_of_ble_eq_true rfl) rfl ?_
          have l5 := lk1 (k := 6) (v := .int (lik (gW γ) s.1.1 c x)) l5 (by decide) (Or.inl rfl)
          have l0 := lk1 (k := 6) (v := .int (lik (gW γ) s.1.1 c x)) l0 (by decide) (Or.inr (by decide))
          have l1 := lk1 (k := 6) (v := .int (lik (gW γ) s.1.1 c x)) l1 (by decide) (Or.inr (by decide))
          have l2 := lk1 (k := 6) (v := .int (lik (gW γ) s.1.1 c x)) l2 (by decide) (Or.inr (by decide))
          have l3 := lk1 (k := 6) (v := .int (lik (gW γ) s.1.1 c x)) l3 (by decide) (Or.inr (by decide))
          have l4 := lk1 (k := 6) (v := .int (lik (gW γ) s.1.1 c x)) l4 (by decide) (Or.inr (by decide))
          have l6 := lk0 ls 6 (.int (lik (gW γ) s.1.1 c x))
          generalize lset1 ls 6 (.int (lik (gW γ) s.1.1 c x)) = ls at l6 l5 l0 l1 l2 l3 l4 ⊢
          refine r_iload (q62 (i := 11) rfl) l6 ?_
          refine r_if 26 (q62 (i := 12) rfl) (by decide) (fun _ => ?_) (fun zz => absurd (show ¬ lik (gW γ) s.1.1 c x = 0 from hl) zz)
          refine r_aload_n (q62 (i := 15) rfl) l0 ?_
          refine r_dup (q62 (i := 16) rfl) rfl ?_
          refine r_getI (x := nI s.2.2) (q62 (i := 17) rfl) rfl (by decide) (k_30 S) (fun _ _ _ => rfl) W.2.2.1 ?_
          refine r_iconst (v := 1) (q62 (i := 18) rfl) (by decide) ?_
          refine r_iadd (q62 (i := 19) rfl) ?_
          rw [show ((nI s.2.2) + 1 : Int32) = nI (s.2.2 + 1) from nI_1 _]
          refine r_putI (q62 (i := 20) rfl) rfl (by decide) (k_30 S) rfl rfl ?_
          refine r_iload (q62 (i := 21) rfl) l6 ?_
          refine r_iconst (v := 2) (q62 (i := 22) rfl) (by decide) ?_
          refine r_icmp 50 (q62 (i := 23) rfl) (by decide) (fun _ => ?_) (fun zz => absurd (show ¬ lik (gW γ) s.1.1 c x = 2 from h2) zz)
          refine r_iconst (v := 2) (q62 (i := 30) rfl) (by decide) ?_
          refine r_iload_n (q62 (i := 31) rfl) l1 ?_
          refine r_imul (q62 (i := 32) rfl) ?_
          rw [show (2 * (nI c) : Int32) = nI (2 * c) from nI_mul 2 c]
          exact K53 ls l5 l0 l1 l2 l3 l4
      · have hlt := (wdp_lt _ _ _ _ hz).1
        have e : askT (gW γ) n c x (m + 1) s = askT (gW γ) n c x m (vadd s.1 (wdp (gW γ) n (pP (gW γ) s.1.1 c x) x), s.2.1 + 1, s.2.2 + 1) := by
          show (if _ then _ else _) = _
          rw [if_neg hl, if_neg hz]
        rw [e]
        obtain ⟨q1, q2⟩ := hrw _ hlt
        obtain ⟨VC2, FV⟩ := VC_add W1.1 q2 q1
        have W2 : SW (sI (addV (sI h 30 3 (nI (s.2.2 + 1))) (wdp (gW γ) n (pP (gW γ) s.1.1 c x) x) (cntB (nz s.1.1) 64) s.1.2.2) 30 2 (nI (s.2.1 + 1))) rw (vadd s.1 (wdp (gW γ) n (pP (gW γ) s.1.1 c x) x), s.2.1 + 1, s.2.2 + 1) := by
          refine ⟨VC2, rfl, ?_, vok_add W.2.2.2 q2 (hin hlt)⟩
          show hI (addV (sI h 30 3 (nI (s.2.2 + 1))) (wdp (gW γ) n (pP (gW γ) s.1.1 c x) x) (cntB (nz s.1.1) 64) s.1.2.2) 30 3 = _
          rw [FV.2.1 30 (by decide) (by decide) (by decide)]
          rfl
        have F2 : FrS h (sI (addV (sI h 30 3 (nI (s.2.2 + 1))) (wdp (gW γ) n (pP (gW γ) s.1.1 c x) x) (cntB (nz s.1.1) 64) s.1.2.2) 30 2 (nI (s.2.1 + 1))) := by
          refine Fa.tr ⟨FV.1, fun k a b c e => ?_, fun k a => FV.2.2 k a, fun k a b => ?_⟩
          · show u2 (addV _ _ _ _).1 30 _ _ k = _
            rw [u2_n e]
            exact FV.2.1 k a b c
          · show u2 (addV _ _ _ _).1 30 _ _ 30 k = _
            rw [u2_s, u1_n a]
            exact congrFun (FV.2.1 30 (by decide) (by decide) (by decide)) k
        obtain ⟨h', W', F', hk⟩ := ih (t + 1) _ _ (by omega) (F2.S S) (F2.G hρ G) W2
        refine ⟨h', W', F2.tr F', ?_⟩
        intro Q hQ bc bs ls l5 l0 l1 l2 l3 l4
        have K53 := X53 Q bc bs (fun z => absurd z hz) (fun _ ls l5 l0 l1 l2 l3 l4 => hk Q hQ bc bs ls l5 l0 l1 l2 l3 l4)
        by_cases h2 : lik (gW γ) s.1.1 c x = 2
        · have ep : pP (gW γ) s.1.1 c x = 2 * c + 1 := if_pos h2
          rw [ep] at K53
          rw [h2] at R1
          refine r_iload (q62 (i := 2) rfl) l5 ?_
          refine r_iconst (v := 2) (q62 (i := 3) rfl) (by decide) ?_
          refine r_icmp 98 (q62 (i := 4) rfl) (by decide) (fun zz => absurd zz (show ¬ (2 ≤ nI t) from nI_ge (a := t) (b := 2) (by omega) (by omega))) (fun _ => ?_)
          refine r_aload_n (q62 (i := 5) rfl) l3 ?_
          refine r_iload_n (q62 (i := 6) rfl) l1 ?_
          refine r_iload_n (q62 (i := 7) rfl) l2 ?_
          refine r_aload (q62 (i := 8) rfl) l4 ?_
          refine r_cV (d := _) (q62 (i := 9) rfl) rfl rfl rfl (k_21 S) (Nat.le_of_ble_eq_true rfl) (Nat.zero_le _) (Nat.zero_le _) R1 ?_
          show Wp _ _ _ 17 ls [.int 2] h _ _
          refine r_istore (q62 (i := 10) rfl) (Nat.le_of_ble_eq_true rfl) rfl ?_
          have l5 := lk1 (k := 6) (v := .int 2) l5 (by decide) (Or.inl rfl)
          have l0 := lk1 (k := 6) (v := .int 2) l0 (by decide) (Or.inr (by decide))
          have l1 := lk1 (k := 6) (v := .int 2) l1 (by decide) (Or.inr (by decide))
          have l2 := lk1 (k := 6) (v := .int 2) l2 (by decide) (Or.inr (by decide))
          have l3 := lk1 (k := 6) (v := .int 2) l3 (by decide) (Or.inr (by decide))
          have l4 := lk1 (k := 6) (v := .int 2) l4 (by decide) (Or.inr (by decide))
          have l6 := lk0 ls 6 (.int 2)
          generalize lset1 ls 6 (.int 2) = ls at l6 l5 l0 l1 l2 l3 l4 ⊢
          refine r_iload (q62 (i := 11) rfl) l6 ?_
          refine r_if 26 (q62 (i := 12) rfl) (by decide) (fun _ => ?_) (fun zz => absurd (show ¬ (2 : Int32) = 0 from by decide) zz)
          refine r_aload_n (q62 (i := 15) rfl) l0 ?_
          refine r_dup (q62 (i := 16) rfl) rfl ?_
          refine r_getI (x := nI s.2.2) (q62 (i := 17) rfl) rfl (by decide) (k_30 S) (fun _ _ _ => rfl) W.2.2.1 ?_
          refine r_iconst (v := 1) (q62 (i := 18) rfl) (by decide) ?_
          refine r_iadd (q62 (i := 19) rfl) ?_
          rw [show ((nI s.2.2) + 1 : Int32) = nI (s.2.2 + 1) from nI_1 _]
          refine r_putI (q62 (i := 20) rfl) rfl (by decide) (k_30 S) rfl rfl ?_
          refine r_iload (q62 (i := 21) rfl) l6 ?_
          refine r_iconst (v := 2) (q62 (i := 22) rfl) (by decide) ?_
          refine r_icmp 50 (q62 (i := 23) rfl) (by decide) (fun zz => absurd zz (show ¬ (¬ (2 : Int32) = 2) from by decide)) (fun _ => ?_)
          refine r_iconst (v := 2) (q62 (i := 24) rfl) (by decide) ?_
          refine r_iload_n (q62 (i := 25) rfl) l1 ?_
          refine r_imul (q62 (i := 26) rfl) ?_
          rw [show (2 * (nI c) : Int32) = nI (2 * c) from nI_mul 2 c]
          refine r_iconst (v := 1) (q62 (i := 27) rfl) (by decide) ?_
          refine r_iadd (q62 (i := 28) rfl) ?_
          rw [show ((nI (2 * c)) + 1 : Int32) = nI (2 * c + 1) from nI_1 _]
          refine r_goto 53 (q62 (i := 29) rfl) (by decide) ?_
          exact K53 ls l5 l0 l1 l2 l3 l4
        · have ep : pP (gW γ) s.1.1 c x = 2 * c := if_neg h2
          rw [ep] at K53
          refine r_iload (q62 (i := 2) rfl) l5 ?_
          refine r_iconst (v := 2) (q62 (i := 3) rfl) (by decide) ?_
          refine r_icmp 98 (q62 (i := 4) rfl) (by decide) (fun zz => absurd zz (show ¬ (2 ≤ nI t) from nI_ge (a := t) (b := 2) (by omega) (by omega))) (fun _ => ?_)
          refine r_aload_n (q62 (i := 5) rfl) l3 ?_
          refine r_iload_n (q62 (i := 6) rfl) l1 ?_
          refine r_iload_n (q62 (i := 7) rfl) l2 ?_
          refine r_aload (q62 (i := 8) rfl) l4 ?_
          refine r_cV (d := _) (q62 (i := 9) rfl) rfl rfl rfl (k_21 S) (Nat.le_of_ble_eq_true rfl) (Nat.zero_le _) (Nat.zero_le _) R1 ?_
          show Wp _ _ _ 17 ls [.int (lik (gW γ) s.1.1 c x)] h _ _
          refine r_istore (q62 (i := 10) rfl) (Nat.le_of_ble_eq_true rfl) rfl ?_
          have l5 := lk1 (k := 6) (v := .int (lik (gW γ) s.1.1 c x)) l5 (by decide) (Or.inl rfl)
          have l0 := lk1 (k := 6) (v := .int (lik (gW γ) s.1.1 c x)) l0 (by decide) (Or.inr (by decide))
          have l1 := lk1 (k := 6) (v := .int (lik (gW γ) s.1.1 c x)) l1 (by decide) (Or.inr (by decide))
          have l2 := lk1 (k := 6) (v := .int (lik (gW γ) s.1.1 c x)) l2 (by decide) (Or.inr (by decide))
          have l3 := lk1 (k := 6) (v := .int (lik (gW γ) s.1.1 c x)) l3 (by decide) (Or.inr (by decide))
          have l4 := lk1 (k := 6) (v := .int (lik (gW γ) s.1.1 c x)) l4 (by decide) (Or.inr (by decide))
          have l6 := lk0 ls 6 (.int (lik (gW γ) s.1.1 c x))
          generalize lset1 ls 6 (.int (lik (gW γ) s.1.1 c x)) = ls at l6 l5 l0 l1 l2 l3 l4 ⊢
          refine r_iload (q62 (i := 11) rfl) l6 ?_
          refine r_if 26 (q62 (i := 12) rfl) (by decide) (fun _ => ?_) (fun zz => absurd (show ¬ lik (gW γ) s.1.1 c x = 0 from hl) zz)
          refine r_aload_n (q62 (i := 15) rfl) l0 ?_
          refine r_dup (q62 (i := 16) rfl) rfl ?_
          refine r_getI (x := nI s.2.2) (q62 (i := 17) rfl) rfl (by decide) (k_30 S) (fun _ _ _ => rfl) W.2.2.1 ?_
          refine r_iconst (v := 1) (q62 (i := 18) rfl) (by decide) ?_
          refine r_iadd (q62 (i := 19) rfl) ?_
          rw [show ((nI s.2.2) + 1 : Int32) = nI (s.2.2 + 1) from nI_1 _]
          refine r_putI (q62 (i := 20) rfl) rfl (by decide) (k_30 S) rfl rfl ?_
          refine r_iload (q62 (i := 21) rfl) l6 ?_
          refine r_iconst (v := 2) (q62 (i := 22) rfl) (by decide) ?_
          refine r_icmp 50 (q62 (i := 23) rfl) (by decide) (fun _ => ?_) (fun zz => absurd (show ¬ lik (gW γ) s.1.1 c x = 2 from h2) zz)
          refine r_iconst (v := 2) (q62 (i := 30) rfl) (by decide) ?_
          refine r_iload_n (q62 (i := 31) rfl) l1 ?_
          refine r_imul (q62 (i := 32) rfl) ?_
          rw [show (2 * (nI c) : Int32) = nI (2 * c) from nI_mul 2 c]
          exact K53 ls l5 l0 l1 l2 l3 l4
set_option maxHeartbeats 2000000 in
set_option maxRecDepth 10000 in
theorem sp_ask {d : Nat} {ρ n rw : Nat} {γ : gs} (hρ : ρ ≠ 19) (Pz : ∀ p q, p < 2 * gC γ → q < 2 * gC γ → apt (gW γ) p q (64 * rw) = apt (gW γ) p q (2 ^ n)) (hrw : ∀ w, w < 2 ^ n → w / 64 < rw ∧ w < 4096) {c x : Nat} (hc : c < x) (hx : x < gC γ) {s : sst} {h : hp} (S : Sh h) (G : GC h ρ n rw γ) (W : SW h rw s) : ∃ h', Run (d + 2 + 1) 62 [.ref 30, .int (nI c), .int (nI x), .ref 21, .ref 17] h 0 0 (some (.int (oO (askT (gW γ) n c x 2 s).1))) h' ∧ SW h' rw (askT (gW γ) n c x 2 s).2 ∧ FrS h h' := by
  obtain ⟨h', W', F', hk⟩ := lp_ask (d := d) hρ Pz hrw hc hx 2 0 s h rfl S G W
  refine ⟨h', ?_, W', F'⟩
  refine Run.of (Nat.le_of_ble_eq_true rfl) (fun Q hQ => ?_)
  show Wp (Ex (d + 2)) 62 Q 0 [(0, .ref 30), (1, .int (nI c)), (2, .int (nI x)), (3, .ref 21), (4, .ref 17)] [] h 0 0
  refine r_iconst (v := 0) (q62 (i := 0) rfl) (by decide) ?_
  refine r_istore (ls' := [(5, .int 0), (0, .ref 30), (1, .int (nI c)), (2, .int (nI x)), (3, .ref 21), (4, .ref 17)]) (q62 (i := 1) rfl) (Nat.le_of_ble_eq_true rfl) rfl ?_
  exact hk Q hQ _ _ _ rfl rfl rfl rfl rfl rfl
end
section
/-! ===== the sweep of the class ===== -/
noncomputable def repT (T : Nat → Nat → Int64) (n x : Nat) (rep : Nat → Nat) : Nat → Nat → sst → Nat × sst
  | 0, _, s => (2 * x, s)
  | m + 1, c, s => if rep c = 2 * c then (match (askT T n c x 2 s).1 with
      | some p => (p, (askT T n c x 2 s).2)
      | none => repT T n x rep m (c + 1) (askT T n c x 2 s).2) else repT T n x rep m (c + 1) s
theorem askT_le (T : Nat → Nat → Int64) (n c x : Nat) : ∀ (m : Nat) (s : sst) (p : Nat), (askT T n c x m s).1 = some p → p ≤ 2 * c + 1
  | 0, s, p, h => by cases h
  | m + 1, s, p, h => by
    unfold askT at h
    split at h
    · cases h
    · split at h
      · have e : pP T s.1.1 c x = p := Option.some.inj h
        rw [← e]
        exact pP_le _ _ _ _
      · exact askT_le T n c x m _ p h
theorem repT_le (T : Nat → Nat → Int64) (n x : Nat) (rep : Nat → Nat) : ∀ (m c : Nat) (s : sst), c + m = x → (repT T n x rep m c s).1 ≤ 2 * x
  | 0, c, s, h => Nat.le_refl _
  | m + 1, c, s, h => by
    unfold repT
    split
    · cases e : (askT T n c x 2 s).1 with
      | some p => have := askT_le T n c x 2 s p e; show p ≤ _; omega
      | none => exact repT_le T n x rep m (c + 1) _ (by omega)
    · exact repT_le T n x rep m (c + 1) _ (by omega)
set_option maxHeartbeats 2000000 in
set_option maxRecDepth 10000 in
theorem lp_rep {d : Nat} {ρ n rw : Nat} {γ : gs} (hρ : ρ ≠ 19) (Pz : ∀ p q, p < 2 * gC γ → q < 2 * gC γ → apt (gW γ) p q (64 * rw) = apt (gW γ) p q (2 ^ n)) (hrw : ∀ w, w < 2 ^ n → w / 64 < rw ∧ w < 4096) {x : Nat} (hx : x < gC γ) {rep : Nat → Nat} (hre : ∀ k, k < x → rep k ≤ 2 * k) : ∀ (m c : Nat) (s : sst) (h : hp), c + m = x → Sh h → GC h ρ n rw γ → SW h rw s → (hI h 31 = fun k => nI (rep k)) → ∃ h', SW h' rw (repT (gW γ) n x rep m c s).2 ∧ FrS h h' ∧ ∀ (Q : resP), Q (some (.int (nI (repT (gW γ) n x rep m c s).1))) h' → ∀ (bc bs : Nat) (ls : List (Nat × Value)), ls.lookup 4 = some (.int (nI c)) → ls.lookup 0 = some (.ref 30) → ls.lookup 1 = some (.int (nI x)) → ls.lookup 2 = some (.ref 21) → ls.lookup 3 = some (.ref 17) → Wp (Ex (d + 3)) 61 Q 3 ls [] h bc bs := by
  intro m
  induction m with
  | zero =>
    intro c s h ht S G W H
    have e : c = x := by omega
    subst e
    refine ⟨h, W, FrS.rf h, ?_⟩
    intro Q hQ bc bs ls l4 l0 l1 l2 l3
    have hQ : Q (some (.int (nI (2 * c)))) h := hQ
    refine r_iload (q61 (i := 2) rfl) l4 ?_
    refine r_iload_n (q61 (i := 3) rfl) l1 ?_
    refine r_icmp 49 (q61 (i := 4) rfl) (by decide) (fun _ => ?_) (fun zz => absurd (show nI c ≤ nI c from Int32.le_refl _) zz)
    refine r_iconst (v := 2) (q61 (i := 27) rfl) (by decide) ?_
    refine r_iload_n (q61 (i := 28) rfl) l1 ?_
    refine r_imul (q61 (i := 29) rfl) ?_
    rw [show (2 * (nI c) : Int32) = nI (2 * c) from nI_mul 2 c]
    exact r_iret (q61 (i := 30) rfl) rfl hQ
  | succ m ih =>
    intro c s h ht S G W H
    have hc9 := G.2.1.2.2.2
    have hcr := hre c (by omega)
    by_cases hr : rep c = 2 * c
    · obtain ⟨h1, R1, W1, F1⟩ := sp_ask (d := d) hρ Pz hrw (show c < x by omega) hx S G W
      have S1 := F1.S S
      cases ea : (askT (gW γ) n c x 2 s).1 with
      | some p =>
        have hp := askT_le _ _ _ _ 2 s p ea
        have e : repT (gW γ) n x rep (m + 1) c s = (p, (askT (gW γ) n c x 2 s).2) := by
          show (if _ then _ else _) = _
          rw [if_pos hr, ea]
        rw [e]
        rw [ea] at R1
        refine ⟨h1, W1, F1, ?_⟩
        intro Q hQ bc bs ls l4 l0 l1 l2 l3
        refine r_iload (q61 (i := 2) rfl) l4 ?_
        refine r_iload_n (q61 (i := 3) rfl) l1 ?_
        refine r_icmp 49 (q61 (i := 4) rfl) (by decide) (fun zz => absurd zz (show ¬ (nI x ≤ nI c) from nI_ge (by omega) (by omega))) (fun _ => ?_)
        refine r_aload_n (q61 (i := 5) rfl) l0 ?_
        refine r_getR (b := 31) (q61 (i := 6) rfl) rfl (by decide) (k_30 S) (fun _ _ _ => rfl) (r_30_0 S) ?_
        refine r_iload (q61 (i := 7) rfl) l4 ?_
        refine r_iaN (x := nI (rep c)) (q61 (i := 8) rfl) (k_31 S) (by omega) (by decide) (congrFun H c) ?_
        refine r_iconst (v := 2) (q61 (i := 9) rfl) (by decide) ?_
        refine r_iload (q61 (i := 10) rfl) l4 ?_
        refine r_imul (q61 (i := 11) rfl) ?_
        rw [show (2 * (nI c) : Int32) = nI (2 * c) from nI_mul 2 c]
        refine r_icmp 43 (q61 (i := 12) rfl) (by decide) (fun zz => absurd zz (show ¬ (¬ nI (rep c) = nI (2 * c)) from fun z => z (by rw [hr]))) (fun _ => ?_)
        refine r_aload_n (q61 (i := 13) rfl) l0 ?_
        refine r_iload (q61 (i := 14) rfl) l4 ?_
        refine r_iload_n (q61 (i := 15) rfl) l1 ?_
        refine r_aload_n (q61 (i := 16) rfl) l2 ?_
        refine r_aload_n (q61 (i := 17) rfl) l3 ?_
        refine r_cV (d := _) (q61 (i := 18) rfl) rfl rfl rfl (k_30 S) (Nat.le_of_ble_eq_true rfl) (Nat.zero_le _) (Nat.zero_le _) R1 ?_
        show Wp _ _ _ 32 ls [.int (nI p)] h1 _ _
        refine r_istore (q61 (i := 19) rfl) (Nat.le_of_ble_eq_true rfl) rfl ?_
        have l4 := lk1 (k := 5) (v := .int (nI p)) l4 (by decide) (Or.inl rfl)
        have l0 := lk1 (k := 5) (v := .int (nI p)) l0 (by decide) (Or.inr (by decide))
        have l1 := lk1 (k := 5) (v := .int (nI p)) l1 (by decide) (Or.inr (by decide))
        have l2 := lk1 (k := 5) (v := .int (nI p)) l2 (by decide) (Or.inr (by decide))
        have l3 := lk1 (k := 5) (v := .int (nI p)) l3 (by decide) (Or.inr (by decide))
        have l5 := lk0 ls 5 (.int (nI p))
        generalize lset1 ls 5 (.int (nI p)) = ls at l5 l4 l0 l1 l2 l3 ⊢
        refine r_iload (q61 (i := 20) rfl) l5 ?_
        refine r_iconst (v := (-1)) (q61 (i := 21) rfl) (by decide) ?_
        refine r_icmp 43 (q61 (i := 22) rfl) (by decide) (fun zz => absurd zz (show ¬ (nI p = (-1)) from nI_ne1 (by omega))) (fun _ => ?_)
        refine r_iload (q61 (i := 23) rfl) l5 ?_
        exact r_iret (q61 (i := 24) rfl) rfl hQ
      | none =>
        have e : repT (gW γ) n x rep (m + 1) c s = repT (gW γ) n x rep m (c + 1) (askT (gW γ) n c x 2 s).2 := by
          show (if _ then _ else _) = _
          rw [if_pos hr, ea]
        rw [e]
        rw [ea] at R1
        obtain ⟨h', W', F', hk⟩ := ih (c + 1) _ h1 (by omega) S1 (F1.G hρ G) W1 ((F1.2.1 31 (by decide) (by decide) (by decide) (by decide)).trans H)
        refine ⟨h', W', F1.tr F', ?_⟩
        intro Q hQ bc bs ls l4 l0 l1 l2 l3
        refine r_iload (q61 (i := 2) rfl) l4 ?_
        refine r_iload_n (q61 (i := 3) rfl) l1 ?_
        refine r_icmp 49 (q61 (i := 4) rfl) (by decide) (fun zz => absurd zz (show ¬ (nI x ≤ nI c) from nI_ge (by omega) (by omega))) (fun _ => ?_)
        refine r_aload_n (q61 (i := 5) rfl) l0 ?_
        refine r_getR (b := 31) (q61 (i := 6) rfl) rfl (by decide) (k_30 S) (fun _ _ _ => rfl) (r_30_0 S) ?_
        refine r_iload (q61 (i := 7) rfl) l4 ?_
        refine r_iaN (x := nI (rep c)) (q61 (i := 8) rfl) (k_31 S) (by omega) (by decide) (congrFun H c) ?_
        refine r_iconst (v := 2) (q61 (i := 9) rfl) (by decide) ?_
        refine r_iload (q61 (i := 10) rfl) l4 ?_
        refine r_imul (q61 (i := 11) rfl) ?_
        rw [show (2 * (nI c) : Int32) = nI (2 * c) from nI_mul 2 c]
        refine r_icmp 43 (q61 (i := 12) rfl) (by decide) (fun zz => absurd zz (show ¬ (¬ nI (rep c) = nI (2 * c)) from fun z => z (by rw [hr]))) (fun _ => ?_)
        refine r_aload_n (q61 (i := 13) rfl) l0 ?_
        refine r_iload (q61 (i := 14) rfl) l4 ?_
        refine r_iload_n (q61 (i := 15) rfl) l1 ?_
        refine r_aload_n (q61 (i := 16) rfl) l2 ?_
        refine r_aload_n (q61 (i := 17) rfl) l3 ?_
        refine r_cV (d := _) (q61 (i := 18) rfl) rfl rfl rfl (k_30 S) (Nat.le_of_ble_eq_true rfl) (Nat.zero_le _) (Nat.zero_le _) R1 ?_
        show Wp _ _ _ 32 ls [.int (-1)] h1 _ _
        refine r_istore (q61 (i := 19) rfl) (Nat.le_of_ble_eq_true rfl) rfl ?_
        have l4 := lk1 (k := 5) (v := .int (-1)) l4 (by decide) (Or.inl rfl)
        have l0 := lk1 (k := 5) (v := .int (-1)) l0 (by decide) (Or.inr (by decide))
        have l1 := lk1 (k := 5) (v := .int (-1)) l1 (by decide) (Or.inr (by decide))
        have l2 := lk1 (k := 5) (v := .int (-1)) l2 (by decide) (Or.inr (by decide))
        have l3 := lk1 (k := 5) (v := .int (-1)) l3 (by decide) (Or.inr (by decide))
        have l5 := lk0 ls 5 (.int (-1))
        generalize lset1 ls 5 (.int (-1)) = ls at l5 l4 l0 l1 l2 l3 ⊢
        refine r_iload (q61 (i := 20) rfl) l5 ?_
        refine r_iconst (v := (-1)) (q61 (i := 21) rfl) (by decide) ?_
        refine r_icmp 43 (q61 (i := 22) rfl) (by decide) (fun _ => ?_) (fun zz => absurd (show (-1 : Int32) = (-1) from by decide) zz)
        refine r_iinc (y := nI (c + 1)) (q61 (i := 25) rfl) (Nat.le_of_ble_eq_true rfl) l4 (nI_1 c) rfl ?_
        have l5 := lk1 (k := 4) (v := .int (nI (c + 1))) l5 (by decide) (Or.inr (by decide))
        have l0 := lk1 (k := 4) (v := .int (nI (c + 1))) l0 (by decide) (Or.inr (by decide))
        have l1 := lk1 (k := 4) (v := .int (nI (c + 1))) l1 (by decide) (Or.inr (by decide))
        have l2 := lk1 (k := 4) (v := .int (nI (c + 1))) l2 (by decide) (Or.inr (by decide))
        have l3 := lk1 (k := 4) (v := .int (nI (c + 1))) l3 (by decide) (Or.inl rfl)
        have l4 := lk0 ls 4 (.int (nI (c + 1)))
        generalize lset1 ls 4 (.int (nI (c + 1))) = ls at l4 l5 l0 l1 l2 l3 ⊢
        refine r_goto 3 (q61 (i := 26) rfl) (by decide) ?_
        exact hk Q hQ bc bs ls l4 l0 l1 l2 l3
    · have e : repT (gW γ) n x rep (m + 1) c s = repT (gW γ) n x rep m (c + 1) s := by
        show (if _ then _ else _) = _
        rw [if_neg hr]
      rw [e]
      obtain ⟨h', W', F', hk⟩ := ih (c + 1) s h (by omega) S G W H
      refine ⟨h', W', F', ?_⟩
      intro Q hQ bc bs ls l4 l0 l1 l2 l3
      refine r_iload (q61 (i := 2) rfl) l4 ?_
      refine r_iload_n (q61 (i := 3) rfl) l1 ?_
      refine r_icmp 49 (q61 (i := 4) rfl) (by decide) (fun zz => absurd zz (show ¬ (nI x ≤ nI c) from nI_ge (by omega) (by omega))) (fun _ => ?_)
      refine r_aload_n (q61 (i := 5) rfl) l0 ?_
      refine r_getR (b := 31) (q61 (i := 6) rfl) rfl (by decide) (k_30 S) (fun _ _ _ => rfl) (r_30_0 S) ?_
      refine r_iload (q61 (i := 7) rfl) l4 ?_
      refine r_iaN (x := nI (rep c)) (q61 (i := 8) rfl) (k_31 S) (by omega) (by decide) (congrFun H c) ?_
      refine r_iconst (v := 2) (q61 (i := 9) rfl) (by decide) ?_
      refine r_iload (q61 (i := 10) rfl) l4 ?_
      refine r_imul (q61 (i := 11) rfl) ?_
      rw [show (2 * (nI c) : Int32) = nI (2 * c) from nI_mul 2 c]
      refine r_icmp 43 (q61 (i := 12) rfl) (by decide) (fun _ => ?_) (fun zz => absurd (show ¬ nI (rep c) = nI (2 * c) from neN (by omega) (by omega) hr) zz)
      refine r_iinc (y := nI (c + 1)) (q61 (i := 25) rfl) (Nat.le_of_ble_eq_true rfl) l4 (nI_1 c) rfl ?_
      have l0 := lk1 (k := 4) (v := .int (nI (c + 1))) l0 (by decide) (Or.inr (by decide))
      have l1 := lk1 (k := 4) (v := .int (nI (c + 1))) l1 (by decide) (Or.inr (by decide))
      have l2 := lk1 (k := 4) (v := .int (nI (c + 1))) l2 (by decide) (Or.inr (by decide))
      have l3 := lk1 (k := 4) (v := .int (nI (c + 1))) l3 (by decide) (Or.inl rfl)
      have l4 := lk0 ls 4 (.int (nI (c + 1)))
      generalize lset1 ls 4 (.int (nI (c + 1))) = ls at l4 l0 l1 l2 l3 ⊢
      refine r_goto 3 (q61 (i := 26) rfl) (by decide) ?_
      exact hk Q hQ bc bs ls l4 l0 l1 l2 l3
set_option maxHeartbeats 2000000 in
set_option maxRecDepth 10000 in
theorem sp_rep {d : Nat} {ρ n rw : Nat} {γ : gs} (hρ : ρ ≠ 19) (Pz : ∀ p q, p < 2 * gC γ → q < 2 * gC γ → apt (gW γ) p q (64 * rw) = apt (gW γ) p q (2 ^ n)) (hrw : ∀ w, w < 2 ^ n → w / 64 < rw ∧ w < 4096) {x : Nat} (hx : x < gC γ) {rep : Nat → Nat} (hre : ∀ k, k < x → rep k ≤ 2 * k) {s : sst} {h : hp} (S : Sh h) (G : GC h ρ n rw γ) (W : SW h rw s) (H : hI h 31 = fun k => nI (rep k)) : ∃ h', Run (d + 3 + 1) 61 [.ref 30, .int (nI x), .ref 21, .ref 17] h 0 0 (some (.int (nI (repT (gW γ) n x rep x 0 s).1))) h' ∧ SW h' rw (repT (gW γ) n x rep x 0 s).2 ∧ FrS h h' := by
  obtain ⟨h', W', F', hk⟩ := lp_rep (d := d) hρ Pz hrw hx hre x 0 s h (Nat.zero_add x) S G W H
  refine ⟨h', ?_, W', F'⟩
  refine Run.of (Nat.le_of_ble_eq_true rfl) (fun Q hQ => ?_)
  show Wp (Ex (d + 3)) 61 Q 0 [(0, .ref 30), (1, .int (nI x)), (2, .ref 21), (3, .ref 17)] [] h 0 0
  refine r_iconst (v := 0) (q61 (i := 0) rfl) (by decide) ?_
  refine r_istore (ls' := [(4, .int 0), (0, .ref 30), (1, .int (nI x)), (2, .ref 21), (3, .ref 17)]) (q61 (i := 1) rfl) (Nat.le_of_ble_eq_true rfl) rfl ?_
  exact hk Q hQ _ _ _ rfl rfl rfl rfl rfl
abbrev swt : Type := sst × (Nat → Nat) × Nat
/-- the SWEEP behind the nodes up to i -/
noncomputable def swT (T : Nat → Nat → Int64) (n : Nat) (v : vs) (rep : Nat → Nat) : Nat → swt
  | 0 => ((v, 0, 0), u1 rep 0 0, 0)
  | i + 1 => ((repT T n (i + 1) (swT T n v rep i).2.1 (i + 1) 0 (swT T n v rep i).1).2, u1 (swT T n v rep i).2.1 (i + 1) (repT T n (i + 1) (swT T n v rep i).2.1 (i + 1) 0 (swT T n v rep i).1).1, (swT T n v rep i).2.2 + if (repT T n (i + 1) (swT T n v rep i).2.1 (i + 1) 0 (swT T n v rep i).1).1 = 2 * (i + 1) then 0 else 1)
theorem swT_le (T : Nat → Nat → Int64) (n : Nat) (v : vs) (rep : Nat → Nat) : ∀ i k, k ≤ i → (swT T n v rep i).2.1 k ≤ 2 * k
  | 0, k, h => by
    have e : k = 0 := by omega
    subst e
    exact Nat.le_refl 0
  | i + 1, k, h => by
    show u1 (swT T n v rep i).2.1 (i + 1) _ k ≤ _
    by_cases q : k = i + 1
    · rw [q, u1_s]
      exact repT_le _ _ _ _ _ _ _ (by omega)
    · rw [u1_n q]
      exact swT_le T n v rep i k (by omega)
def FrT (h h' : hp) : Prop := h'.2.2 = h.2.2 ∧ (∀ k, k ≠ 17 → k ≠ 18 → k ≠ 20 → k ≠ 30 → k ≠ 31 → k ≠ 32 → hI h' k = hI h k) ∧ ∀ k, k ≠ 19 → hJ h' k = hJ h k
theorem FrT.tr {h h' h'' : hp} (a : FrT h h') (b : FrT h' h'') : FrT h h'' := ⟨b.1.trans a.1, fun k x y z t u v => (b.2.1 k x y z t u v).trans (a.2.1 k x y z t u v), fun k x => (b.2.2 k x).trans (a.2.2 k x)⟩
theorem FrS.T {h h' : hp} (F : FrS h h') : FrT h h' := ⟨F.1, fun k x y z t _ _ => F.2.1 k x y z t, F.2.2.1⟩
theorem FrT.S {h h' : hp} (F : FrT h h') (S : Sh h) : Sh h' := S.to F.1
theorem FrT.G {h h' : hp} (F : FrT h h') {ρ n rw : Nat} {γ : gs} (hρ : ρ ≠ 19) (G : GC h ρ n rw γ) : GC h' ρ n rw γ := by
  obtain ⟨h2, hi, hj⟩ := F
  unfold GC Rw hR hK at *
  rw [h2, hi 21 (by decide) (by decide) (by decide) (by decide) (by decide) (by decide), hi 22 (by decide) (by decide) (by decide) (by decide) (by decide) (by decide), hi 23 (by decide) (by decide) (by decide) (by decide) (by decide) (by decide), hi 24 (by decide) (by decide) (by decide) (by decide) (by decide) (by decide), hi 25 (by decide) (by decide) (by decide) (by decide) (by decide) (by decide), hj ρ hρ]
  exact G
theorem FrT.w {h : hp} {a : Nat} (ha : a = 30 ∨ a = 31 ∨ a = 32) (i : Nat) (v : Int32) : FrT h (sI h a i v) := ⟨rfl, fun k _ _ _ x y z => by
  show u2 h.1 a _ _ k = _
  rw [u2_n (by omega)], fun _ _ => rfl⟩
def SWR (h : hp) (rw : Nat) (r : swt) : Prop := SW h rw r.1 ∧ (hI h 31 = fun k => nI (r.2.1 k)) ∧ hI h 30 4 = nI r.2.2
theorem nIu1 (f : Nat → Nat) (k v : Nat) : u1 (fun j => nI (f j)) k (nI v) = fun j => nI (u1 f k v j) := by
  funext j
  unfold u1
  split <;> rfl
set_option maxHeartbeats 2000000 in
set_option maxRecDepth 10000 in
theorem lp_run {d : Nat} {ρ n rw : Nat} {γ : gs} (hρ : ρ ≠ 19) (Pz : ∀ p q, p < 2 * gC γ → q < 2 * gC γ → apt (gW γ) p q (64 * rw) = apt (gW γ) p q (2 ^ n)) (hrw : ∀ w, w < 2 ^ n → w / 64 < rw ∧ w < 4096)  {v : vs} {rep : Nat → Nat} : ∀ (m i : Nat) (h : hp), i + 1 + m = gC γ → Sh h → GC h ρ n rw γ → SWR h rw (swT (gW γ) n v rep i) → ∃ h', SWR h' rw (swT (gW γ) n v rep (gC γ - 1)) ∧ FrT h h' ∧ ∀ (Q : resP), Q none h' → ∀ (bc bs : Nat) (ls : List (Nat × Value)), ls.lookup 3 = some (.int (nI (i + 1))) → ls.lookup 0 = some (.ref 30) → ls.lookup 1 = some (.ref 21) → ls.lookup 2 = some (.ref 17) → Wp (Ex (d + 4)) 60 Q 24 ls [] h bc bs := by
  intro m
  induction m with
  | zero =>
    intro i h hm S G W
    have e : i + 1 = gC γ := by omega
    have e9 := G.2.1.2.2.1
    refine ⟨h, by rw [← e]; exact W, (FrS.rf h).T, ?_⟩
    intro Q hQ bc bs ls l3 l0 l1 l2
    rw [← e] at e9
    refine r_iload_n (q60 (i := 16) rfl) l3 ?_
    refine r_aload_n (q60 (i := 17) rfl) l1 ?_
    refine r_getI (x := nI (i + 1)) (q60 (i := 18) rfl) rfl (by decide) (k_21 S) (fun _ _ _ => rfl) e9 ?_
    refine r_icmp 73 (q60 (i := 19) rfl) (by decide) (fun _ => ?_) (fun zz => absurd (show nI (i + 1) ≤ nI (i + 1) from Int32.le_refl _) zz)
    exact r_vret (q60 (i := 45) rfl) rfl hQ
  | succ m ih =>
    intro i h hm S G W
    have e9 := G.2.1.2.2.1
    have hc9 := G.2.1.2.2.2
    obtain ⟨W1, W2, W3⟩ := W
    obtain ⟨h1, R1, X1, F1⟩ := sp_rep (d := d) hρ Pz hrw (show i + 1 < gC γ by omega) (fun k hk => swT_le (gW γ) n v rep i k (by omega)) S G W1 W2
    have S1 := F1.S S
    have hle := repT_le (gW γ) n (i + 1) (swT (gW γ) n v rep i).2.1 (i + 1) 0 (swT (gW γ) n v rep i).1 (Nat.zero_add _)
    obtain ⟨r, er⟩ : ∃ r, r = (repT (gW γ) n (i + 1) (swT (gW γ) n v rep i).2.1 (i + 1) 0 (swT (gW γ) n v rep i).1).1 := ⟨_, rfl⟩
    rw [← er] at hle R1
    have H31 : hI h1 31 = fun k => nI ((swT (gW γ) n v rep i).2.1 k) := (F1.2.1 31 (by decide) (by decide) (by decide) (by decide)).trans W2
    have H4 : hI h1 30 4 = nI (swT (gW γ) n v rep i).2.2 := (F1.2.2.2 4 (by decide) (by decide)).trans W3
    have X2 : SW (sI h1 31 (i + 1) (nI r)) rw (swT (gW γ) n v rep (i + 1)).1 := X1
    have H32 : hI (sI h1 31 (i + 1) (nI r)) 31 = fun k => nI ((swT (gW γ) n v rep (i + 1)).2.1 k) := by
      show u1 (hI h1 31) (i + 1) (nI r) = _
      rw [H31, nIu1, er]
      rfl
    have F2 : FrT h (sI h1 31 (i + 1) (nI r)) := F1.T.tr (FrT.w (by decide) _ _)
    by_cases q : r = 2 * (i + 1)
    · have e : (swT (gW γ) n v rep (i + 1)).2.2 = (swT (gW γ) n v rep i).2.2 := by
        show (swT (gW γ) n v rep i).2.2 + (if _ then 0 else 1) = _
        rw [← er, if_pos q, Nat.add_zero]
      obtain ⟨h', W', F', hk⟩ := ih (i + 1) (sI h1 31 (i + 1) (nI r)) (by omega) (F2.S S) (F2.G hρ G) ⟨X2, H32, by rw [e]; exact H4⟩
      refine ⟨h', W', F2.tr F', ?_⟩
      intro Q hQ bc bs ls l3 l0 l1 l2
      have c54 : nI r = nI (2 * (i + 1)) := by rw [q]
      refine r_iload_n (q60 (i := 16) rfl) l3 ?_
      refine r_aload_n (q60 (i := 17) rfl) l1 ?_
      refine r_getI (x := nI (gC γ)) (q60 (i := 18) rfl) rfl (by decide) (k_21 S) (fun _ _ _ => rfl) e9 ?_
      refine r_icmp 73 (q60 (i := 19) rfl) (by decide) (fun zz => absurd zz (show ¬ (nI (gC γ) ≤ nI (i + 1)) from nI_ge (by omega) (by omega))) (fun _ => ?_)
      refine r_aload_n (q60 (i := 20) rfl) l0 ?_
      refine r_getR (b := 31) (q60 (i := 21) rfl) rfl (by decide) (k_30 S) (fun _ _ _ => rfl) (r_30_0 S) ?_
      refine r_iload_n (q60 (i := 22) rfl) l3 ?_
      refine r_aload_n (q60 (i := 23) rfl) l0 ?_
      refine r_iload_n (q60 (i := 24) rfl) l3 ?_
      refine r_aload_n (q60 (i := 25) rfl) l1 ?_
      refine r_aload_n (q60 (i := 26) rfl) l2 ?_
      refine r_cV (d := _) (q60 (i := 27) rfl) rfl rfl rfl (k_30 S) (Nat.le_of_ble_eq_true rfl) (Nat.zero_le _) (Nat.zero_le _) R1 ?_
      show Wp _ _ _ 44 ls [.int (nI r), .int (nI (i + 1)), .ref 31] h1 _ _
      refine r_iasN (q60 (i := 28) rfl) (k_31 S1) (by omega) (by decide) ?_
      refine r_aload_n (q60 (i := 29) rfl) l0 ?_
      refine r_getR (b := 31) (q60 (i := 30) rfl) rfl (by decide) (k_30 S1) (fun _ _ _ => rfl) (r_30_0 S1) ?_
      refine r_iload_n (q60 (i := 31) rfl) l3 ?_
      refine r_iaN (x := nI r) (q60 (i := 32) rfl) (k_31 S1) (by omega) (by decide) u1_s ?_
      refine r_iconst (v := 2) (q60 (i := 33) rfl) (by decide) ?_
      refine r_iload_n (q60 (i := 34) rfl) l3 ?_
      refine r_imul (q60 (i := 35) rfl) ?_
      rw [show (2 * (nI (i + 1)) : Int32) = nI (2 * (i + 1)) from nI_mul 2 (i + 1)]
      refine r_icmp 67 (q60 (i := 36) rfl) (by decide) (fun _ => ?_) (fun zz => absurd (show nI r = nI (2 * (i + 1)) from c54) zz)
      refine r_iinc (y := nI (i + 1 + 1)) (q60 (i := 43) rfl) (Nat.le_of_ble_eq_true rfl) l3 (nI_1 (i + 1)) rfl ?_
      have l0 := lk1 (k := 3) (v := .int (nI (i + 1 + 1))) l0 (by decide) (Or.inr (by decide))
      have l1 := lk1 (k := 3) (v := .int (nI (i + 1 + 1))) l1 (by decide) (Or.inr (by decide))
      have l2 := lk1 (k := 3) (v := .int (nI (i + 1 + 1))) l2 (by decide) (Or.inl rfl)
      have l3 := lk0 ls 3 (.int (nI (i + 1 + 1)))
      generalize lset1 ls 3 (.int (nI (i + 1 + 1))) = ls at l3 l0 l1 l2 ⊢
      refine r_goto 24 (q60 (i := 44) rfl) (by decide) ?_
      exact hk Q hQ bc bs ls l3 l0 l1 l2
    · have e : (swT (gW γ) n v rep (i + 1)).2.2 = (swT (gW γ) n v rep i).2.2 + 1 := by
        show (swT (gW γ) n v rep i).2.2 + (if _ then 0 else 1) = _
        rw [← er, if_neg q]
      have F3 := F2.tr (FrT.w (h := sI h1 31 (i + 1) (nI r)) (a := 30) (by decide) 4 (nI ((swT (gW γ) n v rep i).2.2 + 1)))
      obtain ⟨h', W', F', hk⟩ := ih (i + 1) (sI (sI h1 31 (i + 1) (nI r)) 30 4 (nI ((swT (gW γ) n v rep i).2.2 + 1))) (by omega) (F3.S S) (F3.G hρ G) ⟨X2, H32, by rw [e]; rfl⟩
      refine ⟨h', W', F3.tr F', ?_⟩
      intro Q hQ bc bs ls l3 l0 l1 l2
      have c54 := neN (a := r) (b := 2 * (i + 1)) (by omega) (by omega) q
      refine r_iload_n (q60 (i := 16) rfl) l3 ?_
      refine r_aload_n (q60 (i := 17) rfl) l1 ?_
      refine r_getI (x := nI (gC γ)) (q60 (i := 18) rfl) rfl (by decide) (k_21 S) (fun _ _ _ => rfl) e9 ?_
      refine r_icmp 73 (q60 (i := 19) rfl) (by decide) (fun zz => absurd zz (show ¬ (nI (gC γ) ≤ nI (i + 1)) from nI_ge (by omega) (by omega))) (fun _ => ?_)
      refine r_aload_n (q60 (i := 20) rfl) l0 ?_
      refine r_getR (b := 31) (q60 (i := 21) rfl) rfl (by decide) (k_30 S) (fun _ _ _ => rfl) (r_30_0 S) ?_
      refine r_iload_n (q60 (i := 22) rfl) l3 ?_
      refine r_aload_n (q60 (i := 23) rfl) l0 ?_
      refine r_iload_n (q60 (i := 24) rfl) l3 ?_
      refine r_aload_n (q60 (i := 25) rfl) l1 ?_
      refine r_aload_n (q60 (i := 26) rfl) l2 ?_
      refine r_cV (d := _) (q60 (i := 27) rfl) rfl rfl rfl (k_30 S) (Nat.le_of_ble_eq_true rfl) (Nat.zero_le _) (Nat.zero_le _) R1 ?_
      show Wp _ _ _ 44 ls [.int (nI r), .int (nI (i + 1)), .ref 31] h1 _ _
      refine r_iasN (q60 (i := 28) rfl) (k_31 S1) (by omega) (by decide) ?_
      refine r_aload_n (q60 (i := 29) rfl) l0 ?_
      refine r_getR (b := 31) (q60 (i := 30) rfl) rfl (by decide) (k_30 S1) (fun _ _ _ => rfl) (r_30_0 S1) ?_
      refine r_iload_n (q60 (i := 31) rfl) l3 ?_
      refine r_iaN (x := nI r) (q60 (i := 32) rfl) (k_31 S1) (by omega) (by decide) u1_s ?_
      refine r_iconst (v := 2) (q60 (i := 33) rfl) (by decide) ?_
      refine r_iload_n (q60 (i := 34) rfl) l3 ?_
      refine r_imul (q60 (i := 35) rfl) ?_
      rw [show (2 * (nI (i + 1)) : Int32) = nI (2 * (i + 1)) from nI_mul 2 (i + 1)]
      refine r_icmp 67 (q60 (i := 36) rfl) (by decide) (fun zz => absurd zz (show ¬ (nI r = nI (2 * (i + 1))) from c54)) (fun _ => ?_)
      refine r_aload_n (q60 (i := 37) rfl) l0 ?_
      refine r_dup (q60 (i := 38) rfl) rfl ?_
      refine r_getI (x := nI (swT (gW γ) n v rep i).2.2) (q60 (i := 39) rfl) rfl (by decide) (k_30 S1) (fun _ _ _ => rfl) H4 ?_
      refine r_iconst (v := 1) (q60 (i := 40) rfl) (by decide) ?_
      refine r_iadd (q60 (i := 41) rfl) ?_
      rw [show ((nI (swT (gW γ) n v rep i).2.2) + 1 : Int32) = nI ((swT (gW γ) n v rep i).2.2 + 1) from nI_1 _]
      refine r_putI (q60 (i := 42) rfl) rfl (by decide) (k_30 S1) rfl rfl ?_
      refine r_iinc (y := nI (i + 1 + 1)) (q60 (i := 43) rfl) (Nat.le_of_ble_eq_true rfl) l3 (nI_1 (i + 1)) rfl ?_
      have l0 := lk1 (k := 3) (v := .int (nI (i + 1 + 1))) l0 (by decide) (Or.inr (by decide))
      have l1 := lk1 (k := 3) (v := .int (nI (i + 1 + 1))) l1 (by decide) (Or.inr (by decide))
      have l2 := lk1 (k := 3) (v := .int (nI (i + 1 + 1))) l2 (by decide) (Or.inl rfl)
      have l3 := lk0 ls 3 (.int (nI (i + 1 + 1)))
      generalize lset1 ls 3 (.int (nI (i + 1 + 1))) = ls at l3 l0 l1 l2 ⊢
      refine r_goto 24 (q60 (i := 44) rfl) (by decide) ?_
      exact hk Q hQ bc bs ls l3 l0 l1 l2
set_option maxHeartbeats 2000000 in
set_option maxRecDepth 10000 in
theorem sp_run {d : Nat} {ρ n rw : Nat} {γ : gs} (hρ : ρ ≠ 19) (Pz : ∀ p q, p < 2 * gC γ → q < 2 * gC γ → apt (gW γ) p q (64 * rw) = apt (gW γ) p q (2 ^ n)) (hrw : ∀ w, w < 2 ^ n → w / 64 < rw ∧ w < 4096)  (hc1 : 1 ≤ gC γ) {v : vs} {rep : Nat → Nat} {h : hp} (S : Sh h) (G : GC h ρ n rw γ) (C : VC h rw v) (K : vok v) (H : hI h 31 = fun k => nI (rep k)) : ∃ h', Run (d + 4 + 1) 60 [.ref 30, .ref 21, .ref 17] h 0 0 none h' ∧ SWR h' rw (swT (gW γ) n v rep (gC γ - 1)) ∧ FrT h h' := by
  have F0 : FrT h (sI (sI (sI (sI h 30 2 0) 30 3 0) 30 4 0) 31 0 0) := (((FrT.w (by decide) _ _).tr (FrT.w (by decide) _ _)).tr (FrT.w (by decide) _ _)).tr (FrT.w (by decide) _ _)
  obtain ⟨h', W', F', hk⟩ := lp_run (d := d) hρ Pz hrw (v := v) (rep := rep) (gC γ - 1) 0 (sI (sI (sI (sI h 30 2 0) 30 3 0) 30 4 0) 31 0 0) (by omega) (F0.S S) (F0.G hρ G) ⟨⟨C, rfl, rfl, K⟩, by
    show u1 (hI h 31) 0 (nI 0) = _
    rw [H, nIu1]
    rfl, rfl⟩
  refine ⟨h', ?_, W', F0.tr F'⟩
  refine Run.of (Nat.le_of_ble_eq_true rfl) (fun Q hQ => ?_)
  show Wp (Ex (d + 4)) 60 Q 0 [(0, .ref 30), (1, .ref 21), (2, .ref 17)] [] h 0 0
  refine r_aload_n (q60 (i := 0) rfl) rfl ?_
  refine r_iconst (v := 0) (q60 (i := 1) rfl) (by decide) ?_
  refine r_putI (q60 (i := 2) rfl) rfl (by decide) (k_30 S) rfl rfl ?_
  refine r_aload_n (q60 (i := 3) rfl) rfl ?_
  refine r_iconst (v := 0) (q60 (i := 4) rfl) (by decide) ?_
  refine r_putI (q60 (i := 5) rfl) rfl (by decide) (k_30 S) rfl rfl ?_
  refine r_aload_n (q60 (i := 6) rfl) rfl ?_
  refine r_iconst (v := 0) (q60 (i := 7) rfl) (by decide) ?_
  refine r_putI (q60 (i := 8) rfl) rfl (by decide) (k_30 S) rfl rfl ?_
  refine r_aload_n (q60 (i := 9) rfl) rfl ?_
  refine r_getR (b := 31) (q60 (i := 10) rfl) rfl (by decide) (k_30 S) (fun _ _ _ => rfl) (r_30_0 S) ?_
  refine r_iconst (v := 0) (q60 (i := 11) rfl) (by decide) ?_
  refine r_iconst (v := 0) (q60 (i := 12) rfl) (by decide) ?_
  refine r_iastore (q60 (i := 13) rfl) (k_31 S) (vp_in_nI (n := 0) (by decide) (by decide)) ?_
  show Wp _ _ _ _ _ _ (sI (sI (sI (sI h 30 2 0) 30 3 0) 30 4 0) 31 0 0) _ _
  refine r_iconst (v := 1) (q60 (i := 14) rfl) (by decide) ?_
  refine r_istore_n (ls' := [(3, .int 1), (0, .ref 30), (1, .ref 21), (2, .ref 17)]) (q60 (i := 15) rfl) (Nat.le_of_ble_eq_true rfl) rfl ?_
  exact hk Q hQ _ _ _ rfl rfl rfl rfl
end
section
/-! ===== what is needed ===== -/
def mkN (rep : Nat → Nat) (nd : Nat → Bool) (p : Nat) : Nat → Bool := u1 nd (rep (p / 2) / 2) true
def mkO (rep : Nat → Nat) (f : Nat → Nat) (nd : Nat → Bool) : Nat → (Nat → Bool)
  | 0 => nd
  | k + 1 => mkN rep (mkO rep f nd k) (f k)
def ndL (γ : gs) (rep : Nat → Nat) (n : Nat) : Nat → (Nat → Bool) × Nat → (Nat → Bool) × Nat
  | 0, s => s
  | m + 1, s => ndL γ rep n m (if s.1 (n + 1 + m) then (mkN rep (mkN rep s.1 (gL γ (n + 1 + m))) (gR γ (n + 1 + m)), s.2 + 1) else s)
def bI (b : Bool) : Int32 := if b then 1 else 0
def ND (h : hp) (C : Nat) (nd : Nat → Bool) : Prop := ∀ k, k < C → hI h 32 k = bI (nd k)
theorem ND_mk {h : hp} {C : Nat} {nd : Nat → Bool} (D : ND h C nd) (rep : Nat → Nat) (p : Nat) : ND (sI h 32 (rep (p / 2) / 2) 1) C (mkN rep nd p) := fun k hk => by
  show u1 (hI h 32) (rep (p / 2) / 2) 1 k = bI (u1 nd (rep (p / 2) / 2) true k)
  by_cases q : k = rep (p / 2) / 2
  · rw [q, u1_s, u1_s]; rfl
  · rw [u1_n q, u1_n q]; exact D k hk
/-- only needed marks changed -/
def FrM (h h' : hp) : Prop := h'.2 = h.2 ∧ (∀ k, k ≠ 32 → k ≠ 30 → hI h' k = hI h k) ∧ ∀ k, k ≠ 5 → hI h' 30 k = hI h 30 k
theorem FrM.rf (h : hp) : FrM h h := ⟨rfl, fun _ _ _ => rfl, fun _ _ => rfl⟩
theorem FrM.tr {h h' h'' : hp} (a : FrM h h') (b : FrM h' h'') : FrM h h'' := ⟨b.1.trans a.1, fun k x y => (b.2.1 k x y).trans (a.2.1 k x y), fun k x => (b.2.2 k x).trans (a.2.2 k x)⟩
theorem FrM.S {h h' : hp} (F : FrM h h') (S : Sh h) : Sh h' := S.to (by rw [F.1])
theorem FrM.w32 {h : hp} (i : Nat) (v : Int32) : FrM h (sI h 32 i v) := ⟨rfl, fun k x _ => by
  show u2 h.1 32 _ _ k = _
  rw [u2_n x], fun k _ => rfl⟩
theorem FrM.w30 {h : hp} (v : Int32) : FrM h (sI h 30 5 v) := ⟨rfl, fun k _ x => by
  show u2 h.1 30 _ _ k = _
  rw [u2_n x], fun k x => by
  show u2 h.1 30 5 _ 30 k = _
  rw [u2_s, u1_n x]⟩
theorem FrM.G {h h' : hp} (F : FrM h h') {ρ n rw : Nat} {γ : gs} (G : GC h ρ n rw γ) : GC h' ρ n rw γ := by
  obtain ⟨h2, hi, _⟩ := F
  unfold GC Rw hR hK hJ at *
  rw [h2, hi 21 (by decide) (by decide), hi 22 (by decide) (by decide), hi 23 (by decide) (by decide), hi 24 (by decide) (by decide), hi 25 (by decide) (by decide)]
  exact G
set_option maxHeartbeats 2000000 in
set_option maxRecDepth 10000 in
theorem sp_mark {d : Nat} {h : hp} (S : Sh h) {rep : Nat → Nat} (H : hI h 31 = fun k => nI (rep k)) {p : Nat} (hp1 : p / 2 < 973) (hp2 : rep (p / 2) / 2 < 973) (hp3 : rep (p / 2) < 2 ^ 31) : Run (d + 1) 65 [.ref 30, .int (nI p)] h 0 0 none (sI h 32 (rep (p / 2) / 2) 1) := by
  refine Run.of (Nat.le_of_ble_eq_true rfl) (fun Q hQ => ?_)
  show Wp (Ex (d)) 65 Q 0 [(0, .ref 30), (1, .int (nI p))] [] h 0 0
  refine r_aload_n (q65 (i := 0) rfl) rfl ?_
  refine r_getR (b := 32) (q65 (i := 1) rfl) rfl (by decide) (k_30 S) (fun _ _ _ => rfl) (r_30_1 S) ?_
  refine r_aload_n (q65 (i := 2) rfl) rfl ?_
  refine r_getR (b := 31) (q65 (i := 3) rfl) rfl (by decide) (k_30 S) (fun _ _ _ => rfl) (r_30_0 S) ?_
  refine r_iload_n (q65 (i := 4) rfl) rfl ?_
  refine r_iconst (v := 1) (q65 (i := 5) rfl) (by decide) ?_
  refine r_ishr (q65 (i := 6) rfl) ?_
  rw [show ((nI p) >>> (1 &&& 31) : Int32) = nI (p / 2) from shr1 (by omega)]
  refine r_iaN (x := nI (rep (p / 2))) (q65 (i := 7) rfl) (k_31 S) (by omega) (by decide) (congrFun H _) ?_
  refine r_iconst (v := 1) (q65 (i := 8) rfl) (by decide) ?_
  refine r_ishr (q65 (i := 9) rfl) ?_
  rw [show ((nI (rep (p / 2))) >>> (1 &&& 31) : Int32) = nI (rep (p / 2) / 2) from shr1 (by omega)]
  refine r_iconst (v := 1) (q65 (i := 10) rfl) (by decide) ?_
  refine r_zasN (y := 1) (q65 (i := 11) rfl) (k_32 S) (by omega) (by decide) (by decide) ?_
  exact r_vret (q65 (i := 12) rfl) rfl hQ
set_option maxHeartbeats 2000000 in
set_option maxRecDepth 10000 in
theorem lp_markOuts_3 {d n g k C : Nat} {rep lit : Nat → Nat} {f : Nat → Nat} (hn : n + g ≤ 132) (hC : C ≤ 973) (hk : k ≤ 10) (hre : ∀ x, x < C → rep x ≤ 2 * x) {nd : Nat → Bool} : ∀ (m i : Nat) (h : hp), i + m = k → Sh h → (hI h 31 = fun k => nI (rep k)) → hI h 3 6 = nI n → hI h 3 7 = nI g → hI h 3 8 = nI k → (∀ v, v < n + g → hI h 9 v = nI (sl n lit v)) → (∀ j, j < k → pl (hI h 8 j) < nI (n + g) ∧ sd n lit (hI h 8 j) = f j ∧ f j < 2 * C) → ND h C (mkO rep f nd i) → ∃ h', ND h' C (mkO rep f nd k) ∧ FrM h h' ∧ ∀ (Q : resP), Q none h' → ∀ (bc bs : Nat) (ls : List (Nat × Value)), ls.lookup 2 = some (.int (nI i)) → ls.lookup 0 = some (.ref 30) → ls.lookup 1 = some (.ref 3) → Wp (Ex (d + 3)) 64 Q 2 ls [] h bc bs := by
  intro m
  induction m with
  | zero =>
    intro i h hm S H c6 c7 c8 hl ho D
    have e : i = k := by omega
    subst e
    refine ⟨h, D, FrM.rf h, ?_⟩
    intro Q hQ bc bs ls l2 l0 l1
    refine r_iload_n (q64 (i := 2) rfl) l2 ?_
    refine r_aload_n (q64 (i := 3) rfl) l1 ?_
    refine r_getI (x := nI i) (q64 (i := 4) rfl) rfl (by decide) (k_3 S) (fun _ _ _ => rfl) c8 ?_
    refine r_icmp 30 (q64 (i := 5) rfl) (by decide) (fun _ => ?_) (fun zz => absurd (show nI i ≤ nI i from Int32.le_refl _) zz)
    exact r_vret (q64 (i := 16) rfl) rfl hQ
  | succ m ih =>
    intro i h hm S H c6 c7 c8 hl ho D
    obtain ⟨o1, o2, o3⟩ := ho i (by omega)
    have hfr := hre (f i / 2) (by omega)
    have R1 := sp_literalOf_3 (d := d) S (m := n + g) (by rw [c6, c7]; exact nI_add n g) hn (hI h 8 i)
    rw [litS_sd hl (Nat.le_refl _) (by omega) o1, o2] at R1
    have R2 := sp_mark (d := d + 2) S H (p := f i) (by omega) (by omega) (by omega)
    have F1 := FrM.w32 (h := h) (rep (f i / 2) / 2) 1
    obtain ⟨h', D', F', hkk⟩ := ih (i + 1) (sI h 32 (rep (f i / 2) / 2) 1) (by omega) (F1.S S) H c6 c7 c8 hl ho (ND_mk D rep (f i))
    refine ⟨h', D', F1.tr F', ?_⟩
    intro Q hQ bc bs ls l2 l0 l1
    refine r_iload_n (q64 (i := 2) rfl) l2 ?_
    refine r_aload_n (q64 (i := 3) rfl) l1 ?_
    refine r_getI (x := nI k) (q64 (i := 4) rfl) rfl (by decide) (k_3 S) (fun _ _ _ => rfl) c8 ?_
    refine r_icmp 30 (q64 (i := 5) rfl) (by decide) (fun zz => absurd zz (show ¬ (nI k ≤ nI i) from nI_ge (by omega) (by omega))) (fun _ => ?_)
    refine r_aload_n (q64 (i := 6) rfl) l0 ?_
    refine r_aload_n (q64 (i := 7) rfl) l1 ?_
    refine r_aload_n (q64 (i := 8) rfl) l1 ?_
    refine r_getR (b := 8) (q64 (i := 9) rfl) rfl (by decide) (k_3 S) (fun _ _ _ => rfl) (r_3_4 S) ?_
    refine r_iload_n (q64 (i := 10) rfl) l2 ?_
    refine r_iaN (x := hI h 8 i) (q64 (i := 11) rfl) (k_8 S) (by omega) (by decide) rfl ?_
    refine r_cV (d := _) (q64 (i := 12) rfl) rfl rfl rfl (k_3 S) (Nat.le_of_ble_eq_true rfl) (Nat.zero_le _) (Nat.zero_le _) R1 ?_
    show Wp _ _ _ 21 ls [.int (nI (f i)), .ref 30] h _ _
    refine r_cV (d := _) (q64 (i := 13) rfl) rfl rfl rfl (k_30 S) (Nat.le_of_ble_eq_true rfl) (Nat.zero_le _) (Nat.zero_le _) R2 ?_
    show Wp _ _ _ 24 ls [] (sI h 32 (rep (f i / 2) / 2) 1) _ _
    refine r_iinc (y := nI (i + 1)) (q64 (i := 14) rfl) (Nat.le_of_ble_eq_true rfl) l2 (nI_1 i) rfl ?_
    have l0 := lk1 (k := 2) (v := .int (nI (i + 1))) l0 (by decide) (Or.inr (by decide))
    have l1 := lk1 (k := 2) (v := .int (nI (i + 1))) l1 (by decide) (Or.inl rfl)
    have l2 := lk0 ls 2 (.int (nI (i + 1)))
    generalize lset1 ls 2 (.int (nI (i + 1))) = ls at l2 l0 l1 ⊢
    refine r_goto 2 (q64 (i := 15) rfl) (by decide) ?_
    exact hkk Q hQ bc bs ls l2 l0 l1
set_option maxHeartbeats 2000000 in
set_option maxRecDepth 10000 in
theorem sp_markOuts_3 {d n g k C : Nat} {rep lit : Nat → Nat} {f : Nat → Nat} (hn : n + g ≤ 132) (hC : C ≤ 973) (hk : k ≤ 10) (hre : ∀ x, x < C → rep x ≤ 2 * x) {nd : Nat → Bool} {h : hp} (S : Sh h) (H : hI h 31 = fun k => nI (rep k)) (c6 : hI h 3 6 = nI n) (c7 : hI h 3 7 = nI g) (c8 : hI h 3 8 = nI k) (hl : ∀ v, v < n + g → hI h 9 v = nI (sl n lit v)) (ho : ∀ j, j < k → pl (hI h 8 j) < nI (n + g) ∧ sd n lit (hI h 8 j) = f j ∧ f j < 2 * C) (D : ND h C nd) : ∃ h', Run (d + 3 + 1) 64 [.ref 30, .ref 3] h 0 0 none h' ∧ ND h' C (mkO rep f nd k) ∧ FrM h h' := by
  obtain ⟨h', D', F', hkk⟩ := lp_markOuts_3 (d := d) hn hC hk hre (nd := nd) k 0 h (Nat.zero_add k) S H c6 c7 c8 hl ho D
  refine ⟨h', ?_, D', F'⟩
  refine Run.of (Nat.le_of_ble_eq_true rfl) (fun Q hQ => ?_)
  show Wp (Ex (d + 3)) 64 Q 0 [(0, .ref 30), (1, .ref 3)] [] h 0 0
  refine r_iconst (v := 0) (q64 (i := 0) rfl) (by decide) ?_
  refine r_istore_n (ls' := [(2, .int 0), (0, .ref 30), (1, .ref 3)]) (q64 (i := 1) rfl) (Nat.le_of_ble_eq_true rfl) rfl ?_
  exact hkk Q hQ _ _ _ rfl rfl rfl
set_option maxHeartbeats 2000000 in
set_option maxRecDepth 10000 in
theorem lp_markOuts_10 {d n g k C : Nat} {rep lit : Nat → Nat} {f : Nat → Nat} (hn : n + g ≤ 132) (hC : C ≤ 973) (hk : k ≤ 10) (hre : ∀ x, x < C → rep x ≤ 2 * x) {nd : Nat → Bool} : ∀ (m i : Nat) (h : hp), i + m = k → Sh h → (hI h 31 = fun k => nI (rep k)) → hI h 10 6 = nI n → hI h 10 7 = nI g → hI h 10 8 = nI k → (∀ v, v < n + g → hI h 16 v = nI (sl n lit v)) → (∀ j, j < k → pl (hI h 15 j) < nI (n + g) ∧ sd n lit (hI h 15 j) = f j ∧ f j < 2 * C) → ND h C (mkO rep f nd i) → ∃ h', ND h' C (mkO rep f nd k) ∧ FrM h h' ∧ ∀ (Q : resP), Q none h' → ∀ (bc bs : Nat) (ls : List (Nat × Value)), ls.lookup 2 = some (.int (nI i)) → ls.lookup 0 = some (.ref 30) → ls.lookup 1 = some (.ref 10) → Wp (Ex (d + 3)) 64 Q 2 ls [] h bc bs := by
  intro m
  induction m with
  | zero =>
    intro i h hm S H c6 c7 c8 hl ho D
    have e : i = k := by omega
    subst e
    refine ⟨h, D, FrM.rf h, ?_⟩
    intro Q hQ bc bs ls l2 l0 l1
    refine r_iload_n (q64 (i := 2) rfl) l2 ?_
    refine r_aload_n (q64 (i := 3) rfl) l1 ?_
    refine r_getI (x := nI i) (q64 (i := 4) rfl) rfl (by decide) (k_10 S) (fun _ _ _ => rfl) c8 ?_
    refine r_icmp 30 (q64 (i := 5) rfl) (by decide) (fun _ => ?_) (fun zz => absurd (show nI i ≤ nI i from Int32.le_refl _) zz)
    exact r_vret (q64 (i := 16) rfl) rfl hQ
  | succ m ih =>
    intro i h hm S H c6 c7 c8 hl ho D
    obtain ⟨o1, o2, o3⟩ := ho i (by omega)
    have hfr := hre (f i / 2) (by omega)
    have R1 := sp_literalOf_10 (d := d) S (m := n + g) (by rw [c6, c7]; exact nI_add n g) hn (hI h 15 i)
    rw [litS_sd hl (Nat.le_refl _) (by omega) o1, o2] at R1
    have R2 := sp_mark (d := d + 2) S H (p := f i) (by omega) (by omega) (by omega)
    have F1 := FrM.w32 (h := h) (rep (f i / 2) / 2) 1
    obtain ⟨h', D', F', hkk⟩ := ih (i + 1) (sI h 32 (rep (f i / 2) / 2) 1) (by omega) (F1.S S) H c6 c7 c8 hl ho (ND_mk D rep (f i))
    refine ⟨h', D', F1.tr F', ?_⟩
    intro Q hQ bc bs ls l2 l0 l1
    refine r_iload_n (q64 (i := 2) rfl) l2 ?_
    refine r_aload_n (q64 (i := 3) rfl) l1 ?_
    refine r_getI (x := nI k) (q64 (i := 4) rfl) rfl (by decide) (k_10 S) (fun _ _ _ => rfl) c8 ?_
    refine r_icmp 30 (q64 (i := 5) rfl) (by decide) (fun zz => absurd zz (show ¬ (nI k ≤ nI i) from nI_ge (by omega) (by omega))) (fun _ => ?_)
    refine r_aload_n (q64 (i := 6) rfl) l0 ?_
    refine r_aload_n (q64 (i := 7) rfl) l1 ?_
    refine r_aload_n (q64 (i := 8) rfl) l1 ?_
    refine r_getR (b := 15) (q64 (i := 9) rfl) rfl (by decide) (k_10 S) (fun _ _ _ => rfl) (r_10_4 S) ?_
    refine r_iload_n (q64 (i := 10) rfl) l2 ?_
    refine r_iaN (x := hI h 15 i) (q64 (i := 11) rfl) (k_15 S) (by omega) (by decide) rfl ?_
    refine r_cV (d := _) (q64 (i := 12) rfl) rfl rfl rfl (k_10 S) (Nat.le_of_ble_eq_true rfl) (Nat.zero_le _) (Nat.zero_le _) R1 ?_
    show Wp _ _ _ 21 ls [.int (nI (f i)), .ref 30] h _ _
    refine r_cV (d := _) (q64 (i := 13) rfl) rfl rfl rfl (k_30 S) (Nat.le_of_ble_eq_true rfl) (Nat.zero_le _) (Nat.zero_le _) R2 ?_
    show Wp _ _ _ 24 ls [] (sI h 32 (rep (f i / 2) / 2) 1) _ _
    refine r_iinc (y := nI (i + 1)) (q64 (i := 14) rfl) (Nat.le_of_ble_eq_true rfl) l2 (nI_1 i) rfl ?_
    have l0 := lk1 (k := 2) (v := .int (nI (i + 1))) l0 (by decide) (Or.inr (by decide))
    have l1 := lk1 (k := 2) (v := .int (nI (i + 1))) l1 (by decide) (Or.inl rfl)
    have l2 := lk0 ls 2 (.int (nI (i + 1)))
    generalize lset1 ls 2 (.int (nI (i + 1))) = ls at l2 l0 l1 ⊢
    refine r_goto 2 (q64 (i := 15) rfl) (by decide) ?_
    exact hkk Q hQ bc bs ls l2 l0 l1
set_option maxHeartbeats 2000000 in
set_option maxRecDepth 10000 in
theorem sp_markOuts_10 {d n g k C : Nat} {rep lit : Nat → Nat} {f : Nat → Nat} (hn : n + g ≤ 132) (hC : C ≤ 973) (hk : k ≤ 10) (hre : ∀ x, x < C → rep x ≤ 2 * x) {nd : Nat → Bool} {h : hp} (S : Sh h) (H : hI h 31 = fun k => nI (rep k)) (c6 : hI h 10 6 = nI n) (c7 : hI h 10 7 = nI g) (c8 : hI h 10 8 = nI k) (hl : ∀ v, v < n + g → hI h 16 v = nI (sl n lit v)) (ho : ∀ j, j < k → pl (hI h 15 j) < nI (n + g) ∧ sd n lit (hI h 15 j) = f j ∧ f j < 2 * C) (D : ND h C nd) : ∃ h', Run (d + 3 + 1) 64 [.ref 30, .ref 10] h 0 0 none h' ∧ ND h' C (mkO rep f nd k) ∧ FrM h h' := by
  obtain ⟨h', D', F', hkk⟩ := lp_markOuts_10 (d := d) hn hC hk hre (nd := nd) k 0 h (Nat.zero_add k) S H c6 c7 c8 hl ho D
  refine ⟨h', ?_, D', F'⟩
  refine Run.of (Nat.le_of_ble_eq_true rfl) (fun Q hQ => ?_)
  show Wp (Ex (d + 3)) 64 Q 0 [(0, .ref 30), (1, .ref 10)] [] h 0 0
  refine r_iconst (v := 0) (q64 (i := 0) rfl) (by decide) ?_
  refine r_istore_n (ls' := [(2, .int 0), (0, .ref 30), (1, .ref 10)]) (q64 (i := 1) rfl) (Nat.le_of_ble_eq_true rfl) rfl ?_
  exact hkk Q hQ _ _ _ rfl rfl rfl
set_option maxHeartbeats 2000000 in
set_option maxRecDepth 10000 in
theorem lp_ndClear {d : Nat} {h : hp} (S : Sh h) {C : Nat} (e9 : hI h 21 9 = nI C) (hC : C ≤ 973) {Q : resP} {bc bs : Nat} (hk : ∀ ls : List (Nat × Value), ls.lookup 0 = some (.ref 30) → ls.lookup 1 = some (.ref 21) → ls.lookup 2 = some (.ref 3) → ls.lookup 3 = some (.ref 10) → Wp (Ex d) 63 Q 26 ls [] (rI h 32 (filI (hI h 32) 0 C)) bc bs) : ∀ (m i : Nat), i + m = C → ∀ ls : List (Nat × Value), ls.lookup 4 = some (.int (nI i)) → ls.lookup 0 = some (.ref 30) → ls.lookup 1 = some (.ref 21) → ls.lookup 2 = some (.ref 3) → ls.lookup 3 = some (.ref 10) → Wp (Ex d) 63 Q 3 ls [] (rI h 32 (filI (hI h 32) 0 i)) bc bs := by
  intro m
  induction m with
  | zero =>
    intro i hm ls l4 l0 l1 l2 l3
    have e : i = C := by omega
    subst e
    refine r_iload (q63 (i := 2) rfl) l4 ?_
    refine r_aload_n (q63 (i := 3) rfl) l1 ?_
    refine r_getI (x := nI i) (q63 (i := 4) rfl) rfl (by decide) (k_21 S) (fun _ _ _ => rfl) e9 ?_
    refine r_icmp 26 (q63 (i := 5) rfl) (by decide) (fun _ => ?_) (fun zz => absurd (show nI i ≤ nI i from Int32.le_refl _) zz)
    exact hk ls l0 l1 l2 l3
  | succ m ih =>
    intro i hm ls l4 l0 l1 l2 l3
    refine r_iload (q63 (i := 2) rfl) l4 ?_
    refine r_aload_n (q63 (i := 3) rfl) l1 ?_
    refine r_getI (x := nI C) (q63 (i := 4) rfl) rfl (by decide) (k_21 S) (fun _ _ _ => rfl) e9 ?_
    refine r_icmp 26 (q63 (i := 5) rfl) (by decide) (fun zz => absurd zz (show ¬ (nI C ≤ nI i) from nI_ge (by omega) (by omega))) (fun _ => ?_)
    refine r_aload_n (q63 (i := 6) rfl) l0 ?_
    refine r_getR (b := 32) (q63 (i := 7) rfl) rfl (by decide) (k_30 S) (fun _ _ _ => rfl) (r_30_1 S) ?_
    refine r_iload (q63 (i := 8) rfl) l4 ?_
    refine r_iconst (v := 0) (q63 (i := 9) rfl) (by decide) ?_
    refine r_zasN (y := 0) (q63 (i := 10) rfl) (k_32 S) (by omega) (by decide) (by decide) ?_
    refine r_iinc (y := nI (i + 1)) (q63 (i := 11) rfl) (Nat.le_of_ble_eq_true rfl) l4 (nI_1 i) rfl ?_
    have l0 := lk1 (k := 4) (v := .int (nI (i + 1))) l0 (by decide) (Or.inr (by decide))
    have l1 := lk1 (k := 4) (v := .int (nI (i + 1))) l1 (by decide) (Or.inr (by decide))
    have l2 := lk1 (k := 4) (v := .int (nI (i + 1))) l2 (by decide) (Or.inr (by decide))
    have l3 := lk1 (k := 4) (v := .int (nI (i + 1))) l3 (by decide) (Or.inl rfl)
    have l4 := lk0 ls 4 (.int (nI (i + 1)))
    generalize lset1 ls 4 (.int (nI (i + 1))) = ls at l4 l0 l1 l2 l3 ⊢
    refine r_goto 3 (q63 (i := 12) rfl) (by decide) ?_
    rw [sI_rI, filI_s]
    exact ih (i + 1) (by omega) ls l4 l0 l1 l2 l3
theorem nI_dec (a b : Nat) (h : a = b + 1) : nI a + (-1) = nI b := by
  subst h
  rw [← nI_1 b, Int32.add_assoc]
  show nI b + 0 = nI b
  exact Int32.add_zero _
theorem nI_decS (a b : Nat) (h : a = b + 1) : nI a - 1 = nI b := by
  rw [Int32.sub_eq_add_neg]
  exact nI_dec a b h
set_option maxHeartbeats 2000000 in
set_option maxRecDepth 10000 in
theorem lp_ndDown {d : Nat} {ρ n rw : Nat} {γ : gs} (W : gwf n γ) {rep : Nat → Nat} (hre : ∀ x, x < gC γ → rep x ≤ 2 * x) : ∀ (m : Nat) (s : (Nat → Bool) × Nat) (h : hp), n + m < gC γ → Sh h → GC h ρ n rw γ → (hI h 31 = fun k => nI (rep k)) → ND h (gC γ) s.1 → hI h 30 5 = nI s.2 → ∃ h', hI h' 30 5 = nI (ndL γ rep n m s).2 ∧ FrM h h' ∧ ∀ (Q : resP), Q none h' → ∀ (bc bs : Nat) (ls : List (Nat × Value)), ls.lookup 4 = some (.int (nI (n + m))) → ls.lookup 0 = some (.ref 30) → ls.lookup 1 = some (.ref 21) → ls.lookup 2 = some (.ref 3) → ls.lookup 3 = some (.ref 10) → Wp (Ex (d + 1)) 63 Q 49 ls [] h bc bs := by
  intro m
  induction m with
  | zero =>
    intro s h hm S G H D N
    refine ⟨h, N, FrM.rf h, ?_⟩
    intro Q hQ bc bs ls l4 l0 l1 l2 l3
    have e8 := G.2.1.2.1
    refine r_iload (q63 (i := 27) rfl) l4 ?_
    refine r_aload_n (q63 (i := 28) rfl) l1 ?_
    refine r_getI (x := nI n) (q63 (i := 29) rfl) rfl (by decide) (k_21 S) (fun _ _ _ => rfl) e8 ?_
    refine r_icmp 106 (q63 (i := 30) rfl) (by decide) (fun _ => ?_) (fun zz => absurd (show nI (n + 0) ≤ nI n from Int32.le_refl _) zz)
    exact r_vret (q63 (i := 56) rfl) rfl hQ
  | succ m ih =>
    intro s h hm S G H D N
    have e8 := G.2.1.2.1
    have hc9 := G.2.1.2.2.2
    have hn12 := G.1.2.2.2
    obtain ⟨g1, g2⟩ := G.2.2.1 (n + 1 + m) (by omega)
    obtain ⟨x1, x2⟩ := W.2.1 (n + 1 + m) (by omega) (by omega)
    have r1 := hre (gL γ (n + 1 + m) / 2) (by omega)
    have r2 := hre (gR γ (n + 1 + m) / 2) (by omega)
    have ex : n + (m + 1) = n + 1 + m := by omega
    rw [ex]
    by_cases q : s.1 (n + 1 + m) = true
    · have e : ndL γ rep n (m + 1) s = ndL γ rep n m (mkN rep (mkN rep s.1 (gL γ (n + 1 + m))) (gR γ (n + 1 + m)), s.2 + 1) := by
        show ndL γ rep n m (if _ then _ else _) = _
        rw [if_pos q]
      rw [e]
      have F0 := FrM.w30 (h := h) (nI (s.2 + 1))
      have R1 := sp_mark (d := d) (F0.S S) (rep := rep) H (p := gL γ (n + 1 + m)) (by omega) (by omega) (by omega)
      have F1 := F0.tr (FrM.w32 (h := sI h 30 5 (nI (s.2 + 1))) (rep (gL γ (n + 1 + m) / 2) / 2) 1)
      have R2 := sp_mark (d := d) (F1.S S) (rep := rep) H (p := gR γ (n + 1 + m)) (by omega) (by omega) (by omega)
      have F2 := F1.tr (FrM.w32 (h := sI (sI h 30 5 (nI (s.2 + 1))) 32 (rep (gL γ (n + 1 + m) / 2) / 2) 1) (rep (gR γ (n + 1 + m) / 2) / 2) 1)
      obtain ⟨h', N', F', hk⟩ := ih (mkN rep (mkN rep s.1 (gL γ (n + 1 + m))) (gR γ (n + 1 + m)), s.2 + 1) _ (by omega) (F2.S S) (F2.G G) H (ND_mk (ND_mk D rep _) rep _) rfl
      refine ⟨h', N', F2.tr F', ?_⟩
      intro Q hQ bc bs ls l4 l0 l1 l2 l3
      have en : hI h 32 (n + 1 + m) = 1 := by rw [D _ (by omega), q]; rfl
      refine r_iload (q63 (i := 27) rfl) l4 ?_
      refine r_aload_n (q63 (i := 28) rfl) l1 ?_
      refine r_getI (x := nI n) (q63 (i := 29) rfl) rfl (by decide) (k_21 S) (fun _ _ _ => rfl) e8 ?_
      refine r_icmp 106 (q63 (i := 30) rfl) (by decide) (fun zz => absurd zz (show ¬ (nI (n + 1 + m) ≤ nI n) from nI_ge (by omega) (by omega))) (fun _ => ?_)
      refine r_aload_n (q63 (i := 31) rfl) l0 ?_
      refine r_getR (b := 32) (q63 (i := 32) rfl) rfl (by decide) (k_30 S) (fun _ _ _ => rfl) (r_30_1 S) ?_
      refine r_iload (q63 (i := 33) rfl) l4 ?_
      refine r_zaN (x := 1) (q63 (i := 34) rfl) (k_32 S) (by omega) (by decide) en ?_
      refine r_if 100 (q63 (i := 35) rfl) (by decide) (fun zz => absurd zz (show ¬ ((1 : Int32) = 0) from by decide)) (fun _ => ?_)
      refine r_aload_n (q63 (i := 36) rfl) l0 ?_
      refine r_dup (q63 (i := 37) rfl) rfl ?_
      refine r_getI (x := nI s.2) (q63 (i := 38) rfl) rfl (by decide) (k_30 S) (fun _ _ _ => rfl) N ?_
      refine r_iconst (v := 1) (q63 (i := 39) rfl) (by decide) ?_
      refine r_iadd (q63 (i := 40) rfl) ?_
      rw [show ((nI s.2) + 1 : Int32) = nI (s.2 + 1) from nI_1 _]
      refine r_putI (q63 (i := 41) rfl) rfl (by decide) (k_30 S) rfl rfl ?_
      refine r_aload_n (q63 (i := 42) rfl) l0 ?_
      refine r_aload_n (q63 (i := 43) rfl) l1 ?_
      refine r_getR (b := 22) (q63 (i := 44) rfl) rfl (by decide) (k_21 S) (fun _ _ _ => rfl) (r_21_2 S) ?_
      refine r_iload (q63 (i := 45) rfl) l4 ?_
      refine r_iaN (x := nI (gL γ (n + 1 + m))) (q63 (i := 46) rfl) (k_22 S) (by omega) (by decide) g1 ?_
      refine r_cV (d := _) (q63 (i := 47) rfl) rfl rfl rfl (k_30 S) (Nat.le_of_ble_eq_true rfl) (Nat.zero_le _) (Nat.zero_le _) R1 ?_
      show Wp _ _ _ 89 ls [] (sI (sI h 30 5 (nI (s.2 + 1))) 32 (rep (gL γ (n + 1 + m) / 2) / 2) 1) _ _
      refine r_aload_n (q63 (i := 48) rfl) l0 ?_
      refine r_aload_n (q63 (i := 49) rfl) l1 ?_
      refine r_getR (b := 23) (q63 (i := 50) rfl) rfl (by decide) (k_21 (F1.S S)) (fun _ _ _ => rfl) (r_21_3 (F1.S S)) ?_
      refine r_iload (q63 (i := 51) rfl) l4 ?_
      refine r_iaN (x := nI (gR γ (n + 1 + m))) (q63 (i := 52) rfl) (k_23 (F1.S S)) (by omega) (by decide) g2 ?_
      refine r_cV (d := _) (q63 (i := 53) rfl) rfl rfl rfl (k_30 (F1.S S)) (Nat.le_of_ble_eq_true rfl) (Nat.zero_le _) (Nat.zero_le _) R2 ?_
      show Wp _ _ _ 100 ls [] (sI (sI (sI h 30 5 (nI (s.2 + 1))) 32 (rep (gL γ (n + 1 + m) / 2) / 2) 1) 32 (rep (gR γ (n + 1 + m) / 2) / 2) 1) _ _
      refine r_iinc (y := nI (n + m)) (q63 (i := 54) rfl) (Nat.le_of_ble_eq_true rfl) l4 (nI_dec (n + 1 + m) (n + m) (by omega)) rfl ?_
      have l0 := lk1 (k := 4) (v := .int (nI (n + m))) l0 (by decide) (Or.inr (by decide))
      have l1 := lk1 (k := 4) (v := .int (nI (n + m))) l1 (by decide) (Or.inr (by decide))
      have l2 := lk1 (k := 4) (v := .int (nI (n + m))) l2 (by decide) (Or.inr (by decide))
      have l3 := lk1 (k := 4) (v := .int (nI (n + m))) l3 (by decide) (Or.inl rfl)
      have l4 := lk0 ls 4 (.int (nI (n + m)))
      generalize lset1 ls 4 (.int (nI (n + m))) = ls at l4 l0 l1 l2 l3 ⊢
      refine r_goto 49 (q63 (i := 55) rfl) (by decide) ?_
      exact hk Q hQ bc bs ls l4 l0 l1 l2 l3
    · have e : ndL γ rep n (m + 1) s = ndL γ rep n m s := by
        show ndL γ rep n m (if _ then _ else _) = _
        rw [if_neg q]
      rw [e]
      obtain ⟨h', N', F', hk⟩ := ih s h (by omega) S G H D N
      refine ⟨h', N', F', ?_⟩
      intro Q hQ bc bs ls l4 l0 l1 l2 l3
      have en : hI h 32 (n + 1 + m) = 0 := by rw [D _ (by omega), Bool.eq_false_iff.mpr q]; rfl
      refine r_iload (q63 (i := 27) rfl) l4 ?_
      refine r_aload_n (q63 (i := 28) rfl) l1 ?_
      refine r_getI (x := nI n) (q63 (i := 29) rfl) rfl (by decide) (k_21 S) (fun _ _ _ => rfl) e8 ?_
      refine r_icmp 106 (q63 (i := 30) rfl) (by decide) (fun zz => absurd zz (show ¬ (nI (n + 1 + m) ≤ nI n) from nI_ge (by omega) (by omega))) (fun _ => ?_)
      refine r_aload_n (q63 (i := 31) rfl) l0 ?_
      refine r_getR (b := 32) (q63 (i := 32) rfl) rfl (by decide) (k_30 S) (fun _ _ _ => rfl) (r_30_1 S) ?_
      refine r_iload (q63 (i := 33) rfl) l4 ?_
      refine r_zaN (x := 0) (q63 (i := 34) rfl) (k_32 S) (by omega) (by decide) en ?_
      refine r_if 100 (q63 (i := 35) rfl) (by decide) (fun _ => ?_) (fun zz => absurd (show (0 : Int32) = 0 from by decide) zz)
      refine r_iinc (y := nI (n + m)) (q63 (i := 54) rfl) (Nat.le_of_ble_eq_true rfl) l4 (nI_dec (n + 1 + m) (n + m) (by omega)) rfl ?_
      have l0 := lk1 (k := 4) (v := .int (nI (n + m))) l0 (by decide) (Or.inr (by decide))
      have l1 := lk1 (k := 4) (v := .int (nI (n + m))) l1 (by decide) (Or.inr (by decide))
      have l2 := lk1 (k := 4) (v := .int (nI (n + m))) l2 (by decide) (Or.inr (by decide))
      have l3 := lk1 (k := 4) (v := .int (nI (n + m))) l3 (by decide) (Or.inl rfl)
      have l4 := lk0 ls 4 (.int (nI (n + m)))
      generalize lset1 ls 4 (.int (nI (n + m))) = ls at l4 l0 l1 l2 l3 ⊢
      refine r_goto 49 (q63 (i := 55) rfl) (by decide) ?_
      exact hk Q hQ bc bs ls l4 l0 l1 l2 l3
/-- how many ANDs are needed -/
def needT (γ : gs) (rep : Nat → Nat) (n : Nat) (f0 f1 : Nat → Nat) (k0 k1 : Nat) : Nat := (ndL γ rep n (gC γ - 1 - n) (mkO rep f1 (mkO rep f0 (fun _ => false) k0) k1, 0)).2
set_option maxHeartbeats 2000000 in
set_option maxRecDepth 10000 in
theorem sp_findNeeded {d n g0 g1 k0 k1 ρ rw : Nat} {γ : gs} (W : gwf n γ) {rep l0 l1 f0 f1 : Nat → Nat} (hn0 : n + g0 ≤ 132) (hn1 : n + g1 ≤ 132) (hk0 : k0 ≤ 10) (hk1 : k1 ≤ 10) (hre : ∀ x, x < gC γ → rep x ≤ 2 * x) {h : hp} (S : Sh h) (G : GC h ρ n rw γ) (H : hI h 31 = fun k => nI (rep k)) (c6 : hI h 3 6 = nI n) (c7 : hI h 3 7 = nI g0) (c8 : hI h 3 8 = nI k0) (hl : ∀ v, v < n + g0 → hI h 9 v = nI (sl n l0 v)) (ho : ∀ j, j < k0 → pl (hI h 8 j) < nI (n + g0) ∧ sd n l0 (hI h 8 j) = f0 j ∧ f0 j < 2 * gC γ) (b6 : hI h 10 6 = nI n) (b7 : hI h 10 7 = nI g1) (b8 : hI h 10 8 = nI k1) (bl : ∀ v, v < n + g1 → hI h 16 v = nI (sl n l1 v)) (bo : ∀ j, j < k1 → pl (hI h 15 j) < nI (n + g1) ∧ sd n l1 (hI h 15 j) = f1 j ∧ f1 j < 2 * gC γ) : ∃ h', Run (d + 4 + 1) 63 [.ref 30, .ref 21, .ref 3, .ref 10] h 0 0 none h' ∧ hI h' 30 5 = nI (needT γ rep n f0 f1 k0 k1) ∧ FrM h h' := by
  have e9 := G.2.1.2.2.1
  have e8 := G.2.1.2.1
  have hc9 := G.2.1.2.2.2
  have hcn := W.1
  have F0 : FrM h (rI h 32 (filI (hI h 32) 0 (gC γ))) := ⟨rfl, fun k x _ => by show u1 h.1 32 _ k = _; rw [u1_n x], fun _ _ => rfl⟩
  obtain ⟨h1, R1, D1, F1⟩ := sp_markOuts_3 (d := d) (C := gC γ) (f := f0) hn0 hc9 hk0 hre (nd := fun _ => false) (F0.S S) H c6 c7 c8 hl ho (fun k hk => by show (if k < gC γ then (0 : Int32) else hI h 32 k) = _; rw [if_pos hk]; rfl)
  have F01 := F0.tr F1
  obtain ⟨h2, R2, D2, F2⟩ := sp_markOuts_10 (d := d) (C := gC γ) (lit := l1) (f := f1) hn1 hc9 hk1 hre (F01.S S) ((F01.2.1 31 (by decide) (by decide)).trans H) (by rw [F01.2.1 10 (by decide) (by decide)]; exact b6) (by rw [F01.2.1 10 (by decide) (by decide)]; exact b7) (by rw [F01.2.1 10 (by decide) (by decide)]; exact b8) (by rw [F01.2.1 16 (by decide) (by decide)]; exact bl) (by rw [F01.2.1 15 (by decide) (by decide)]; exact bo) D1
  have F02 := F01.tr F2
  have F03 := F02.tr (FrM.w30 (h := h2) 0)
  obtain ⟨h', N', F', hk⟩ := lp_ndDown (d := d + 3) (ρ := ρ) (rw := rw) W hre (gC γ - 1 - n) (mkO rep f1 (mkO rep f0 (fun _ => false) k0) k1, 0) (sI h2 30 5 0) (by omega) (F03.S S) (F03.G G) ((F02.2.1 31 (by decide) (by decide)).trans H) D2 rfl
  refine ⟨h', ?_, N', F03.tr F'⟩
  have S1 := F01.S S
  have S2 := F02.S S
  have q9 : hI h2 21 9 = nI (gC γ) := by rw [F02.2.1 21 (by decide) (by decide)]; exact e9
  refine Run.of (Nat.le_of_ble_eq_true rfl) (fun Q hQ => ?_)
  show Wp (Ex (d + 4)) 63 Q 0 [(0, .ref 30), (1, .ref 21), (2, .ref 3), (3, .ref 10)] [] h 0 0
  refine r_iconst (v := 0) (q63 (i := 0) rfl) (by decide) ?_
  refine r_istore (ls' := [(4, .int 0), (0, .ref 30), (1, .ref 21), (2, .ref 3), (3, .ref 10)]) (q63 (i := 1) rfl) (Nat.le_of_ble_eq_true rfl) rfl ?_
  have K26 : ∀ ls : List (Nat × Value), ls.lookup 0 = some (.ref 30) → ls.lookup 1 = some (.ref 21) → ls.lookup 2 = some (.ref 3) → ls.lookup 3 = some (.ref 10) → Wp (Ex (d + 4)) 63 Q 26 ls [] (rI h 32 (filI (hI h 32) 0 (gC γ))) 0 0 := by
    intro ls l0 l1 l2 l3
    refine r_aload_n (q63 (i := 13) rfl) l0 ?_
    refine r_aload_n (q63 (i := 14) rfl) l2 ?_
    refine r_cV (d := _) (q63 (i := 15) rfl) rfl rfl rfl (k_30 (F0.S S)) (Nat.le_of_ble_eq_true rfl) (Nat.zero_le _) (Nat.zero_le _) R1 ?_
    show Wp _ _ _ 31 ls [] h1 _ _
    refine r_aload_n (q63 (i := 16) rfl) l0 ?_
    refine r_aload_n (q63 (i := 17) rfl) l3 ?_
    refine r_cV (d := _) (q63 (i := 18) rfl) rfl rfl rfl (k_30 S1) (Nat.le_of_ble_eq_true rfl) (Nat.zero_le _) (Nat.zero_le _) R2 ?_
    show Wp _ _ _ 36 ls [] h2 _ _
    refine r_aload_n (q63 (i := 19) rfl) l0 ?_
    refine r_iconst (v := 0) (q63 (i := 20) rfl) (by decide) ?_
    refine r_putI (q63 (i := 21) rfl) rfl (by decide) (k_30 S2) rfl rfl ?_
    refine r_aload_n (q63 (i := 22) rfl) l1 ?_
    refine r_getI (x := nI (gC γ)) (q63 (i := 23) rfl) rfl (by decide) (k_21 S2) (fun _ _ _ => rfl) q9 ?_
    refine r_iconst (v := 1) (q63 (i := 24) rfl) (by decide) ?_
    refine r_isub (q63 (i := 25) rfl) ?_
    rw [show ((nI (gC γ)) - 1 : Int32) = nI (n + (gC γ - 1 - n)) from nI_decS _ _ (by omega)]
    refine r_istore (q63 (i := 26) rfl) (Nat.le_of_ble_eq_true rfl) rfl ?_
    have l0 := lk1 (k := 4) (v := .int (nI (n + (gC γ - 1 - n)))) l0 (by decide) (Or.inr (by decide))
    have l1 := lk1 (k := 4) (v := .int (nI (n + (gC γ - 1 - n)))) l1 (by decide) (Or.inr (by decide))
    have l2 := lk1 (k := 4) (v := .int (nI (n + (gC γ - 1 - n)))) l2 (by decide) (Or.inr (by decide))
    have l3 := lk1 (k := 4) (v := .int (nI (n + (gC γ - 1 - n)))) l3 (by decide) (Or.inl rfl)
    have l4 := lk0 ls 4 (.int (nI (n + (gC γ - 1 - n))))
    generalize lset1 ls 4 (.int (nI (n + (gC γ - 1 - n)))) = ls at l4 l0 l1 l2 l3 ⊢
    exact hk Q hQ _ _ ls l4 l0 l1 l2 l3
  have K3 := lp_ndClear S e9 hc9 K26 (gC γ) 0 (Nat.zero_add _)
  rw [filI_0, rI_self] at K3
  exact K3 _ rfl rfl rfl rfl rfl
end
section
/-! ===== the text, pure ===== -/
def cb (B : Nat → Int32) (z a : Nat) : Nat := if a < z then (B a &&& 255).toNatClampNeg else 256
def dg (B : Nat → Int32) (z a : Nat) : Bool := decide (48 ≤ cb B z a ∧ cb B z a ≤ 57)
abbrev pst : Type := Nat × (Nat → Nat) × ((Nat → Nat) × (Nat → Nat) × Nat) × Bool × (Nat → Nat) × Nat
abbrev pres : Type := Except (Nat × Nat) pst
def numL (B : Nat → Int32) (z : Nat) : Nat → Nat → Nat → Nat × Nat
  | 0, a, v => (v, a)
  | m + 1, a, v => if dg B z a then numL B z m (a + 1) (10 * v + (cb B z a - 48)) else (v, a)
def numP (B : Nat → Int32) (z a : Nat) : Nat × Nat := if cb B z a = 48 then numL B z 1 a 0 else numL B z 9 a 0
def Fex (B : Nat → Int32) (z c : Nat) (s : pst) : pres := if cb B z s.1 = c then .ok (s.1 + 1, s.2) else .error (1, s.1)
def Fnum (B : Nat → Int32) (z : Nat) (s : pst) : pres := if dg B z s.1 then .ok ((numP B z s.1).2, s.2) else .error (1, s.1)
def numV (B : Nat → Int32) (z : Nat) : pres → Nat
  | .ok s => if dg B z s.1 then (numP B z s.1).1 else 0
  | .error _ => 0
theorem and255 (x : Int32) : ∃ k, k < 256 ∧ x &&& 255 = nI k := by
  obtain ⟨n, hn, rfl⟩ := wb_of32 x
  exact ⟨n % 256, Nat.mod_lt _ (by decide), pk_andN hn 8 (by decide)⟩
theorem cb_in {B : Nat → Int32} {z a : Nat} (h : a < z) (hz : z ≤ 3000) : byAt B z (nI a) = nI (cb B z a) ∧ cb B z a < 256 := by
  obtain ⟨k, hk, e⟩ := and255 (B a)
  have e1 : cb B z a = k := by
    unfold cb
    rw [if_pos h, e, nI_clamp (by omega)]
  refine ⟨?_, by omega⟩
  unfold byAt
  rw [if_neg (nI_pos (by omega)), if_neg (nI_ge h (by omega)), nI_clamp (by omega), e, e1]
theorem cb_out {B : Nat → Int32} {z a : Nat} (h : z ≤ a) (ha : a < 2 ^ 31) : byAt B z (nI a) = -1 ∧ cb B z a = 256 := by
  refine ⟨?_, if_neg (by omega)⟩
  unfold byAt
  rw [if_neg (nI_pos (by omega)), if_pos (nI_le h ha)]
theorem cb_is {B : Nat → Int32} {z a c : Nat} (hz : z ≤ 3000) (ha : a ≤ z) (hc : c < 256) : byAt B z (nI a) = nI c ↔ cb B z a = c := by
  rcases Nat.lt_or_ge a z with h | h
  · obtain ⟨e1, e2⟩ := cb_in (B := B) h hz
    rw [e1]
    exact nI_eq (by omega) (by omega)
  · obtain ⟨e1, e2⟩ := cb_out (B := B) (z := z) h (by omega)
    rw [e1, e2]
    exact ⟨fun q => absurd q.symm (nI_ne1 (by omega)), fun q => absurd q (by omega)⟩
theorem dg_is {B : Nat → Int32} {z a : Nat} (hz : z ≤ 3000) (ha : a ≤ z) : isDig (byAt B z (nI a)) = if dg B z a then 1 else 0 := by
  unfold isDig dg
  rcases Nat.lt_or_ge a z with h | h
  · obtain ⟨e1, e2⟩ := cb_in (B := B) h hz
    rw [e1]
    have q1 : (nI (cb B z a) < 48) ↔ cb B z a < 48 := nI_ltI (b := 48) (by omega) (by omega)
    have q2 : (57 < nI (cb B z a)) ↔ 57 < cb B z a := nI_ltI (a := 57) (by omega) (by omega)
    by_cases p1 : cb B z a < 48
    · rw [if_pos (q1.mpr p1), decide_eq_false (by omega)]; rfl
    · rw [if_neg (fun q => p1 (q1.mp q))]
      by_cases p2 : 57 < cb B z a
      · rw [if_pos (q2.mpr p2), decide_eq_false (by omega)]; rfl
      · rw [if_neg (fun q => p2 (q2.mp q)), decide_eq_true (by omega)]; rfl
  · obtain ⟨e1, e2⟩ := cb_out (B := B) (z := z) h (by omega)
    rw [e1, e2]
    decide
theorem dg_lt {B : Nat → Int32} {z a : Nat} (h : dg B z a = true) : a < z ∧ 48 ≤ cb B z a ∧ cb B z a ≤ 57 := by
  unfold dg at h
  have h := of_decide_eq_true h
  refine ⟨?_, h⟩
  rcases Nat.lt_or_ge a z with q | q
  · exact q
  · unfold cb at h
    rw [if_neg (by omega)] at h
    omega
theorem numL_le (B : Nat → Int32) (z : Nat) : ∀ m a v, a ≤ z → a ≤ (numL B z m a v).2 ∧ (numL B z m a v).2 ≤ z ∧ (numL B z m a v).1 + 1 ≤ (v + 1) * 10 ^ m
  | 0, a, v, h => ⟨Nat.le_refl _, h, by show v + 1 ≤ (v + 1) * 1; omega⟩
  | m + 1, a, v, h => by
    unfold numL
    split
    · rename_i q
      obtain ⟨q1, q2, q3⟩ := dg_lt q
      obtain ⟨a1, a2, a3⟩ := numL_le B z m (a + 1) (10 * v + (cb B z a - 48)) (by omega)
      refine ⟨by omega, a2, Nat.le_trans a3 ?_⟩
      rw [Nat.pow_succ, Nat.mul_comm (10 ^ m), ← Nat.mul_assoc]
      exact Nat.mul_le_mul_right _ (by omega)
    · refine ⟨Nat.le_refl _, h, ?_⟩
      show v + 1 ≤ (v + 1) * 10 ^ (m + 1)
      exact Nat.le_mul_of_pos_right _ (Nat.pow_pos (by decide))
theorem numP_le (B : Nat → Int32) (z : Nat) {a : Nat} (h : a ≤ z) : a ≤ (numP B z a).2 ∧ (numP B z a).2 ≤ z ∧ (numP B z a).1 < 1000000000 := by
  unfold numP
  split
  · obtain ⟨a1, a2, a3⟩ := numL_le B z 1 a 0 h
    exact ⟨a1, a2, by omega⟩
  · obtain ⟨a1, a2, a3⟩ := numL_le B z 9 a 0 h
    exact ⟨a1, a2, by omega⟩
/-- the class's text holds a state or a FAULT -/
def PS (h : hp) (z : Nat) : pres → Prop
  | .ok s => (hI h 35 14 = 0 ∧ hI h 35 16 = nI s.1 ∧ s.1 ≤ z) ∧ (∀ k, k < 1001 → hI h 38 k = nI (s.2.1 k) ∧ s.2.1 k ≤ 1000) ∧ ((∀ i, i < s.2.2.1.2.2 → hI h 39 i = nI (s.2.2.1.1 i) ∧ hI h 40 i = nI (s.2.2.1.2.1 i) ∧ s.2.2.1.1 i ≤ 2001) ∧ hI h 35 11 = nI s.2.2.1.2.2 ∧ s.2.2.1.2.2 ≤ 248) ∧ hI h 35 13 = (if s.2.2.2.1 then 1 else 0) ∧ (∀ i, i < s.2.2.2.2.2 → hI h 41 i = nI (s.2.2.2.2.1 i)) ∧ s.2.2.2.2.2 ≤ 119
  | .error e => hI h 35 14 = nI e.1 ∧ hI h 35 15 = nI e.2 ∧ 0 < e.1 ∧ e.1 < 7
def FrE (h h' : hp) : Prop := h'.2 = h.2 ∧ (∀ k, k ≠ 35 → hI h' k = hI h k) ∧ ∀ j, (j < 14 ∨ 17 < j) → hI h' 35 j = hI h 35 j
theorem FrE.rf (h : hp) : FrE h h := ⟨rfl, fun _ _ => rfl, fun _ _ => rfl⟩
theorem FrE.tr {h h' h'' : hp} (a : FrE h h') (b : FrE h' h'') : FrE h h'' := ⟨b.1.trans a.1, fun k x => (b.2.1 k x).trans (a.2.1 k x), fun k x => (b.2.2 k x).trans (a.2.2 k x)⟩
theorem FrE.S {h h' : hp} (F : FrE h h') (S : Sh h) : Sh h' := S.to (by rw [F.1])
theorem FrE.w {h : hp} {j : Nat} (hj : 14 ≤ j ∧ j ≤ 17) (v : Int32) : FrE h (sI h 35 j v) := ⟨rfl, fun k x => by
  show u2 h.1 35 _ _ k = _
  rw [u2_n x], fun k x => by
  show u2 h.1 35 j _ 35 k = _
  rw [u2_s, u1_n (by omega)]⟩
/-- the tape as the text sees it -/
def TC (h : hp) (B : Nat → Int32) (z : Nat) : Prop := hI h 34 = B ∧ hI h 33 1 = nI z ∧ z ≤ 3000
theorem FrE.T {h h' : hp} (F : FrE h h') {B : Nat → Int32} {z : Nat} (T : TC h B z) : TC h' B z := ⟨(F.2.1 34 (by decide)).trans T.1, by rw [F.2.1 33 (by decide)]; exact T.2.1, T.2.2⟩
theorem PS_at {h : hp} {z : Nat} {s : pst} (P : PS h z (.ok s)) {a : Nat} (ha : a ≤ z) : PS (sI h 35 16 (nI a)) z (.ok (a, s.2)) := ⟨⟨P.1.1, rfl, ha⟩, P.2⟩
theorem PS_na {h : hp} {z : Nat} {r : pres} (P : PS h z r) (v : Int32) : PS (sI h 35 17 v) z r := by
  cases r with
  | ok s => exact P
  | error e => exact P
theorem PS_err {h : hp} {z : Nat} {s : pst} (P : PS h z (.ok s)) {f : Nat} (hf : 0 < f ∧ f < 7) (p : Nat) : PS (sI (sI h 35 14 (nI f)) 35 15 (nI p)) z (.error (f, p)) := ⟨rfl, rfl, hf⟩
def failH (h : hp) (k p : Int32) : hp := if hI h 35 14 = 0 then sI (sI h 35 14 k) 35 15 p else h
theorem fail_ok {h : hp} {z : Nat} {s : pst} (P : PS h z (.ok s)) (k p : Int32) : failH h k p = sI (sI h 35 14 k) 35 15 p := if_pos P.1.1
theorem err_ne {h : hp} {z : Nat} {e : Nat × Nat} (P : PS h z (.error e)) : ¬ hI h 35 14 = 0 := by
  rw [P.1]
  exact neN (b := 0) (by have := P.2.2.2; omega) (by decide) (by have := P.2.2.1; omega)
theorem fail_err {h : hp} {z : Nat} {e : Nat × Nat} (P : PS h z (.error e)) (k p : Int32) : failH h k p = h := if_neg (err_ne P)
set_option maxHeartbeats 2000000 in
set_option maxRecDepth 10000 in
theorem sp_fail {d : Nat} {h : hp} (S : Sh h) (k p : Int32) : Run (d + 1) 3 [.ref 35, .int k, .int p] h 0 0 none (failH h k p) := by
  refine Run.of (Nat.le_of_ble_eq_true rfl) (fun Q hQ => ?_)
  show Wp (Ex d) 3 Q 0 [(0, .ref 35), (1, .int k), (2, .int p)] [] h 0 0
  unfold failH at hQ
  by_cases q : hI h 35 14 = 0
  · rw [if_pos q] at hQ
    refine r_aload_n (q3 (i := 0) rfl) rfl ?_
    refine r_getI (x := hI h 35 14) (q3 (i := 1) rfl) rfl (by decide) (k_35 S) (fun _ _ _ => rfl) rfl ?_
    refine r_if 17 (q3 (i := 2) rfl) (by decide) (fun zz => absurd zz (show ¬ (¬ hI h 35 14 = 0) from fun z => z q)) (fun _ => ?_)
    refine r_aload_n (q3 (i := 3) rfl) rfl ?_
    refine r_iload_n (q3 (i := 4) rfl) rfl ?_
    refine r_putI (q3 (i := 5) rfl) rfl (by decide) (k_35 S) rfl rfl ?_
    refine r_aload_n (q3 (i := 6) rfl) rfl ?_
    refine r_iload_n (q3 (i := 7) rfl) rfl ?_
    refine r_putI (q3 (i := 8) rfl) rfl (by decide) (k_35 S) rfl rfl ?_
    exact r_vret (q3 (i := 9) rfl) rfl hQ
  · rw [if_neg q] at hQ
    refine r_aload_n (q3 (i := 0) rfl) rfl ?_
    refine r_getI (x := hI h 35 14) (q3 (i := 1) rfl) rfl (by decide) (k_35 S) (fun _ _ _ => rfl) rfl ?_
    refine r_if 17 (q3 (i := 2) rfl) (by decide) (fun _ => ?_) (fun zz => absurd (show ¬ hI h 35 14 = 0 from q) zz)
    exact r_vret (q3 (i := 9) rfl) rfl hQ
set_option maxHeartbeats 2000000 in
set_option maxRecDepth 10000 in
theorem sp_failIf0 {d : Nat} {h : hp} (k p : Int32) : Run (d + 1) 19 [.ref 35, .int 0, .int k, .int p] h 0 0 none h := by
  refine Run.of (Nat.le_of_ble_eq_true rfl) (fun Q hQ => ?_)
  show Wp (Ex (d)) 19 Q 0 [(0, .ref 35), (1, .int 0), (2, .int k), (3, .int p)] [] h 0 0
  refine r_iload_n (q19 (i := 0) rfl) rfl ?_
  refine r_if 10 (q19 (i := 1) rfl) (by decide) (fun _ => ?_) (fun zz => absurd (show (0 : Int32) = 0 from by decide) zz)
  exact r_vret (q19 (i := 6) rfl) rfl hQ
set_option maxHeartbeats 2000000 in
set_option maxRecDepth 10000 in
theorem sp_failIf1 {d : Nat} {h : hp} (S : Sh h) (k p : Int32) : Run (d + 1 + 1) 19 [.ref 35, .int 1, .int k, .int p] h 0 0 none (failH h k p) := by
  refine Run.of (Nat.le_of_ble_eq_true rfl) (fun Q hQ => ?_)
  show Wp (Ex (d + 1)) 19 Q 0 [(0, .ref 35), (1, .int 1), (2, .int k), (3, .int p)] [] h 0 0
  refine r_iload_n (q19 (i := 0) rfl) rfl ?_
  refine r_if 10 (q19 (i := 1) rfl) (by decide) (fun zz => absurd zz (show ¬ ((1 : Int32) = 0) from by decide)) (fun _ => ?_)
  refine r_aload_n (q19 (i := 2) rfl) rfl ?_
  refine r_iload_n (q19 (i := 3) rfl) rfl ?_
  refine r_iload_n (q19 (i := 4) rfl) rfl ?_
  refine r_cV (d := _) (q19 (i := 5) rfl) rfl rfl rfl (k_35 S) (Nat.le_of_ble_eq_true rfl) (Nat.zero_le _) (Nat.zero_le _) (sp_fail S k p) ?_
  show Wp _ _ _ 10 [(0, .ref 35), (1, .int 1), (2, .int k), (3, .int p)] [] (failH h k p) _ _
  exact r_vret (q19 (i := 6) rfl) rfl hQ
set_option maxHeartbeats 2000000 in
set_option maxRecDepth 10000 in
theorem sp_expect {d : Nat} {h : hp} (S : Sh h) {B : Nat → Int32} {z : Nat} (T : TC h B z) {r : pres} (P : PS h z r) {c : Nat} (hc : c < 256) : ∃ h', Run (d + 2 + 1) 18 [.ref 35, .int (nI c)] h 0 0 none h' ∧ PS h' z (r.bind (Fex B z c)) ∧ FrE h h' := by
  obtain ⟨t1, t2, t3⟩ := T
  cases r with
  | ok s =>
    obtain ⟨⟨p1, p2, p3⟩, p4⟩ := id P
    have R0 := sp_byteAt (d := d + 1) S t2 t3 (nI s.1)
    rw [t1] at R0
    have ec := cb_is (B := B) t3 p3 hc
    by_cases q : cb B z s.1 = c
    · have e : (Except.ok s : pres).bind (Fex B z c) = .ok (s.1 + 1, s.2) := if_pos q
      have hlt : s.1 + 1 ≤ z := by
        rcases Nat.lt_or_ge s.1 z with g | g
        · exact g
        · have := (cb_out (B := B) g (by omega)).2; omega
      rw [e]
      refine ⟨sI h 35 16 (nI (s.1 + 1)), ?_, PS_at P hlt, FrE.w (by decide) _⟩
      refine Run.of (Nat.le_of_ble_eq_true rfl) (fun Q hQ => ?_)
      show Wp (Ex (d + 2)) 18 Q 0 [(0, .ref 35), (1, .int (nI c))] [] h 0 0
      rw [ec.mpr q] at R0
      refine r_aload_n (q18 (i := 0) rfl) rfl ?_
      refine r_aload_n (q18 (i := 1) rfl) rfl ?_
      refine r_getR (b := 33) (q18 (i := 2) rfl) rfl (by decide) (k_35 S) (fun _ _ _ => rfl) (r_35_0 S) ?_
      refine r_aload_n (q18 (i := 3) rfl) rfl ?_
      refine r_getI (x := nI s.1) (q18 (i := 4) rfl) rfl (by decide) (k_35 S) (fun _ _ _ => rfl) p2 ?_
      refine r_cV (d := _) (q18 (i := 5) rfl) rfl rfl rfl (k_33 S) (Nat.le_of_ble_eq_true rfl) (Nat.zero_le _) (Nat.zero_le _) R0 ?_
      show Wp _ _ _ 12 [(0, .ref 35), (1, .int (nI c))] [.int (nI c), .ref 35] h _ _
      refine r_iload_n (q18 (i := 6) rfl) rfl ?_
      refine r_icmp 20 (q18 (i := 7) rfl) (by decide) (fun _ => ?_) (fun zz => absurd (show nI c = nI c from rfl) zz)
      refine r_iconst (v := 0) (q18 (i := 10) rfl) (by decide) ?_
      refine r_iconst (v := 1) (q18 (i := 11) rfl) (by decide) ?_
      refine r_aload_n (q18 (i := 12) rfl) rfl ?_
      refine r_getI (x := nI s.1) (q18 (i := 13) rfl) rfl (by decide) (k_35 S) (fun _ _ _ => rfl) p2 ?_
      refine r_cV (d := _) (q18 (i := 14) rfl) rfl rfl rfl (k_35 S) (Nat.le_of_ble_eq_true rfl) (Nat.zero_le _) (Nat.zero_le _) (sp_failIf0 (d := d + 1) _ _) ?_
      show Wp _ _ _ 29 [(0, .ref 35), (1, .int (nI c))] [] h _ _
      refine r_aload_n (q18 (i := 15) rfl) rfl ?_
      refine r_getI (x := hI h 35 14) (q18 (i := 16) rfl) rfl (by decide) (k_35 S) (fun _ _ _ => rfl) rfl ?_
      refine r_if 46 (q18 (i := 17) rfl) (by decide) (fun zz => absurd zz (show ¬ (¬ hI h 35 14 = 0) from fun z => z p1)) (fun _ => ?_)
      refine r_aload_n (q18 (i := 18) rfl) rfl ?_
      refine r_dup (q18 (i := 19) rfl) rfl ?_
      refine r_getI (x := nI s.1) (q18 (i := 20) rfl) rfl (by decide) (k_35 S) (fun _ _ _ => rfl) p2 ?_
      refine r_iconst (v := 1) (q18 (i := 21) rfl) (by decide) ?_
      refine r_iadd (q18 (i := 22) rfl) ?_
      rw [show ((nI s.1) + 1 : Int32) = nI (s.1 + 1) from nI_1 _]
      refine r_putI (q18 (i := 23) rfl) rfl (by decide) (k_35 S) rfl rfl ?_
      exact r_vret (q18 (i := 24) rfl) rfl hQ
    · have e : (Except.ok s : pres).bind (Fex B z c) = .error (1, s.1) := if_neg q
      rw [e]
      refine ⟨sI (sI h 35 14 1) 35 15 (nI s.1), ?_, PS_err P (by decide) s.1, (FrE.w (by decide) _).tr (FrE.w (by decide) _)⟩
      refine Run.of (Nat.le_of_ble_eq_true rfl) (fun Q hQ => ?_)
      show Wp (Ex (d + 2)) 18 Q 0 [(0, .ref 35), (1, .int (nI c))] [] h 0 0
      have R1 := sp_failIf1 (d := d) S 1 (nI s.1)
      rw [fail_ok P] at R1
      refine r_aload_n (q18 (i := 0) rfl) rfl ?_
      refine r_aload_n (q18 (i := 1) rfl) rfl ?_
      refine r_getR (b := 33) (q18 (i := 2) rfl) rfl (by decide) (k_35 S) (fun _ _ _ => rfl) (r_35_0 S) ?_
      refine r_aload_n (q18 (i := 3) rfl) rfl ?_
      refine r_getI (x := nI s.1) (q18 (i := 4) rfl) rfl (by decide) (k_35 S) (fun _ _ _ => rfl) p2 ?_
      refine r_cV (d := _) (q18 (i := 5) rfl) rfl rfl rfl (k_33 S) (Nat.le_of_ble_eq_true rfl) (Nat.zero_le _) (Nat.zero_le _) R0 ?_
      show Wp _ _ _ 12 [(0, .ref 35), (1, .int (nI c))] [.int (byAt B z (nI s.1)), .ref 35] h _ _
      refine r_iload_n (q18 (i := 6) rfl) rfl ?_
      refine r_icmp 20 (q18 (i := 7) rfl) (by decide) (fun zz => absurd zz (show ¬ (byAt B z (nI s.1) = nI c) from fun g => q (ec.mp g))) (fun _ => ?_)
      refine r_iconst (v := 1) (q18 (i := 8) rfl) (by decide) ?_
      refine r_goto 21 (q18 (i := 9) rfl) (by decide) ?_
      refine r_iconst (v := 1) (q18 (i := 11) rfl) (by decide) ?_
      refine r_aload_n (q18 (i := 12) rfl) rfl ?_
      refine r_getI (x := nI s.1) (q18 (i := 13) rfl) rfl (by decide) (k_35 S) (fun _ _ _ => rfl) p2 ?_
      refine r_cV (d := _) (q18 (i := 14) rfl) rfl rfl rfl (k_35 S) (Nat.le_of_ble_eq_true rfl) (Nat.zero_le _) (Nat.zero_le _) R1 ?_
      show Wp _ _ _ 29 [(0, .ref 35), (1, .int (nI c))] [] (sI (sI h 35 14 1) 35 15 (nI s.1)) _ _
      refine r_aload_n (q18 (i := 15) rfl) rfl ?_
      refine r_getI (x := 1) (q18 (i := 16) rfl) rfl (by decide) (k_35 S) (fun _ _ _ => rfl) rfl ?_
      refine r_if 46 (q18 (i := 17) rfl) (by decide) (fun _ => ?_) (fun zz => absurd (show ¬ (1 : Int32) = 0 from by decide) zz)
      exact r_vret (q18 (i := 24) rfl) rfl hQ
  | error e =>
    have R0 := sp_byteAt (d := d + 1) S t2 t3 (hI h 35 16)
    refine ⟨h, ?_, P, FrE.rf h⟩
    refine Run.of (Nat.le_of_ble_eq_true rfl) (fun Q hQ => ?_)
    show Wp (Ex (d + 2)) 18 Q 0 [(0, .ref 35), (1, .int (nI c))] [] h 0 0
    have R1 := sp_failIf1 (d := d) S 1 (hI h 35 16)
    rw [fail_err P] at R1
    have R2 := sp_failIf0 (d := d + 1) (h := h) 1 (hI h 35 16)
    refine r_aload_n (q18 (i := 0) rfl) rfl ?_
    refine r_aload_n (q18 (i := 1) rfl) rfl ?_
    refine r_getR (b := 33) (q18 (i := 2) rfl) rfl (by decide) (k_35 S) (fun _ _ _ => rfl) (r_35_0 S) ?_
    refine r_aload_n (q18 (i := 3) rfl) rfl ?_
    refine r_getI (x := hI h 35 16) (q18 (i := 4) rfl) rfl (by decide) (k_35 S) (fun _ _ _ => rfl) rfl ?_
    refine r_cV (d := _) (q18 (i := 5) rfl) rfl rfl rfl (k_33 S) (Nat.le_of_ble_eq_true rfl) (Nat.zero_le _) (Nat.zero_le _) R0 ?_
    show Wp _ _ _ 12 [(0, .ref 35), (1, .int (nI c))] [.int (byAt (hI h 34) z (hI h 35 16)), .ref 35] h _ _
    refine r_iload_n (q18 (i := 6) rfl) rfl ?_
    refine r_icmp 20 (q18 (i := 7) rfl) (by decide) (fun c13 => ?_) (fun c13 => ?_)
    · have c13 : byAt (hI h 34) z (hI h 35 16) = nI c := c13
      refine r_iconst (v := 0) (q18 (i := 10) rfl) (by decide) ?_
      refine r_iconst (v := 1) (q18 (i := 11) rfl) (by decide) ?_
      refine r_aload_n (q18 (i := 12) rfl) rfl ?_
      refine r_getI (x := hI h 35 16) (q18 (i := 13) rfl) rfl (by decide) (k_35 S) (fun _ _ _ => rfl) rfl ?_
      refine r_cV (d := _) (q18 (i := 14) rfl) rfl rfl rfl (k_35 S) (Nat.le_of_ble_eq_true rfl) (Nat.zero_le _) (Nat.zero_le _) R2 ?_
      show Wp _ _ _ 29 [(0, .ref 35), (1, .int (nI c))] [] h _ _
      refine r_aload_n (q18 (i := 15) rfl) rfl ?_
      refine r_getI (x := hI h 35 14) (q18 (i := 16) rfl) rfl (by decide) (k_35 S) (fun _ _ _ => rfl) rfl ?_
      refine r_if 46 (q18 (i := 17) rfl) (by decide) (fun _ => ?_) (fun zz => absurd (show ¬ hI h 35 14 = 0 from err_ne P) zz)
      exact r_vret (q18 (i := 24) rfl) rfl hQ
    · have c13 : ¬ (byAt (hI h 34) z (hI h 35 16) = nI c) := c13
      refine r_iconst (v := 1) (q18 (i := 8) rfl) (by decide) ?_
      refine r_goto 21 (q18 (i := 9) rfl) (by decide) ?_
      refine r_iconst (v := 1) (q18 (i := 11) rfl) (by decide) ?_
      refine r_aload_n (q18 (i := 12) rfl) rfl ?_
      refine r_getI (x := hI h 35 16) (q18 (i := 13) rfl) rfl (by decide) (k_35 S) (fun _ _ _ => rfl) rfl ?_
      refine r_cV (d := _) (q18 (i := 14) rfl) rfl rfl rfl (k_35 S) (Nat.le_of_ble_eq_true rfl) (Nat.zero_le _) (Nat.zero_le _) R1 ?_
      show Wp _ _ _ 29 [(0, .ref 35), (1, .int (nI c))] [] h _ _
      refine r_aload_n (q18 (i := 15) rfl) rfl ?_
      refine r_getI (x := hI h 35 14) (q18 (i := 16) rfl) rfl (by decide) (k_35 S) (fun _ _ _ => rfl) rfl ?_
      refine r_if 46 (q18 (i := 17) rfl) (by decide) (fun _ => ?_) (fun zz => absurd (show ¬ hI h 35 14 = 0 from err_ne P) zz)
      exact r_vret (q18 (i := 24) rfl) rfl hQ
end
