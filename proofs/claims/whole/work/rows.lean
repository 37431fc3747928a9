section
-- ===== PART A: goes FIRST, ahead of the names: the tables' words, and 'selects' of the private methods out of them =====
/-- a private method of a class that the tables say can be made, by its rows of tables_1 -/
def lw_okq (q : MethodName × Nat) : Prop := (q.1.cls ≠ "java/lang/invoke/MethodHandle" ∧ q.1.cls ≠ "java/lang/invoke/VarHandle") ∧ Cond.instantiable q.1.cls q.2 ∈ tables_1 ∧ Cond.privateMethod q.1 ∈ tables_1 ∧ Cond.instanceMethod q.1 ∈ tables_1
theorem lw_p0 : lw_okq (⟨"TraceProver$Points", "rowPoint", "(I)I"⟩, 5) := ⟨⟨by decide +kernel, by decide +kernel⟩, List.mem_of_getElem? (i := 21) (by decide +kernel), List.mem_of_getElem? (i := 41) (by decide +kernel), List.mem_of_getElem? (i := 42) (by decide +kernel)⟩
theorem lw_p1 : lw_okq (⟨"TraceProver$Rules", "isStepBroken", "(LTraceProver$Table;I)Z"⟩, 6) := ⟨⟨by decide +kernel, by decide +kernel⟩, List.mem_of_getElem? (i := 62) (by decide +kernel), List.mem_of_getElem? (i := 320) (by decide +kernel), List.mem_of_getElem? (i := 321) (by decide +kernel)⟩
theorem lw_p2 : lw_okq (⟨"TraceProver$Rules", "termSum", "(I)I"⟩, 6) := ⟨⟨by decide +kernel, by decide +kernel⟩, List.mem_of_getElem? (i := 62) (by decide +kernel), List.mem_of_getElem? (i := 329) (by decide +kernel), List.mem_of_getElem? (i := 330) (by decide +kernel)⟩
theorem lw_p3 : lw_okq (⟨"TraceProver$Rules", "isBoundBroken", "(LTraceProver$Table;I)Z"⟩, 6) := ⟨⟨by decide +kernel, by decide +kernel⟩, List.mem_of_getElem? (i := 62) (by decide +kernel), List.mem_of_getElem? (i := 335) (by decide +kernel), List.mem_of_getElem? (i := 336) (by decide +kernel)⟩
theorem lw_p4 : lw_okq (⟨"TraceProver$Rules", "boundRow", "(I)I"⟩, 6) := ⟨⟨by decide +kernel, by decide +kernel⟩, List.mem_of_getElem? (i := 62) (by decide +kernel), List.mem_of_getElem? (i := 339) (by decide +kernel), List.mem_of_getElem? (i := 340) (by decide +kernel)⟩
theorem lw_p5 : lw_okq (⟨"TraceProver$Rules", "boundColumn", "(I)I"⟩, 6) := ⟨⟨by decide +kernel, by decide +kernel⟩, List.mem_of_getElem? (i := 62) (by decide +kernel), List.mem_of_getElem? (i := 343) (by decide +kernel), List.mem_of_getElem? (i := 344) (by decide +kernel)⟩
theorem lw_p6 : lw_okq (⟨"TraceProver$Rules", "boundValue", "(I)I"⟩, 6) := ⟨⟨by decide +kernel, by decide +kernel⟩, List.mem_of_getElem? (i := 62) (by decide +kernel), List.mem_of_getElem? (i := 347) (by decide +kernel), List.mem_of_getElem? (i := 348) (by decide +kernel)⟩
theorem lw_p7 : lw_okq (⟨"TraceProver$Rules", "constraintCount", "()I"⟩, 6) := ⟨⟨by decide +kernel, by decide +kernel⟩, List.mem_of_getElem? (i := 62) (by decide +kernel), List.mem_of_getElem? (i := 359) (by decide +kernel), List.mem_of_getElem? (i := 360) (by decide +kernel)⟩
theorem lw_p8 : lw_okq (⟨"TraceProver$Prover", "commitColumns", "()I"⟩, 8) := ⟨⟨by decide +kernel, by decide +kernel⟩, List.mem_of_getElem? (i := 116) (by decide +kernel), List.mem_of_getElem? (i := 368) (by decide +kernel), List.mem_of_getElem? (i := 369) (by decide +kernel)⟩
theorem lw_p9 : lw_okq (⟨"TraceProver$Talk", "challenge", "()I"⟩, 4) := ⟨⟨by decide +kernel, by decide +kernel⟩, List.mem_of_getElem? (i := 122) (by decide +kernel), List.mem_of_getElem? (i := 410) (by decide +kernel), List.mem_of_getElem? (i := 411) (by decide +kernel)⟩
theorem lw_p10 : lw_okq (⟨"TraceProver$Talk", "draw", "(II)I"⟩, 4) := ⟨⟨by decide +kernel, by decide +kernel⟩, List.mem_of_getElem? (i := 122) (by decide +kernel), List.mem_of_getElem? (i := 414) (by decide +kernel), List.mem_of_getElem? (i := 415) (by decide +kernel)⟩
theorem lw_p11 : lw_okq (⟨"TraceProver$Prover", "compose", "()V"⟩, 8) := ⟨⟨by decide +kernel, by decide +kernel⟩, List.mem_of_getElem? (i := 116) (by decide +kernel), List.mem_of_getElem? (i := 419) (by decide +kernel), List.mem_of_getElem? (i := 420) (by decide +kernel)⟩
theorem lw_p12 : lw_okq (⟨"TraceProver$Prover", "foldInto", "(I)V"⟩, 8) := ⟨⟨by decide +kernel, by decide +kernel⟩, List.mem_of_getElem? (i := 116) (by decide +kernel), List.mem_of_getElem? (i := 440) (by decide +kernel), List.mem_of_getElem? (i := 441) (by decide +kernel)⟩
theorem lw_p13 : lw_okq (⟨"TraceProver$Prover", "folded", "(II)I"⟩, 8) := ⟨⟨by decide +kernel, by decide +kernel⟩, List.mem_of_getElem? (i := 116) (by decide +kernel), List.mem_of_getElem? (i := 444) (by decide +kernel), List.mem_of_getElem? (i := 445) (by decide +kernel)⟩
theorem lw_p14 : lw_okq (⟨"TraceProver$Prover", "commitLayer", "(I)I"⟩, 8) := ⟨⟨by decide +kernel, by decide +kernel⟩, List.mem_of_getElem? (i := 116) (by decide +kernel), List.mem_of_getElem? (i := 452) (by decide +kernel), List.mem_of_getElem? (i := 453) (by decide +kernel)⟩
theorem lw_p15 : lw_okq (⟨"TraceProver$Prover", "openColumns", "([II)V"⟩, 8) := ⟨⟨by decide +kernel, by decide +kernel⟩, List.mem_of_getElem? (i := 116) (by decide +kernel), List.mem_of_getElem? (i := 467) (by decide +kernel), List.mem_of_getElem? (i := 468) (by decide +kernel)⟩
def lw_privs_1 : List (MethodName × Nat) := [(⟨"TraceProver$Points", "rowPoint", "(I)I"⟩, 5), (⟨"TraceProver$Rules", "isStepBroken", "(LTraceProver$Table;I)Z"⟩, 6), (⟨"TraceProver$Rules", "termSum", "(I)I"⟩, 6), (⟨"TraceProver$Rules", "isBoundBroken", "(LTraceProver$Table;I)Z"⟩, 6), (⟨"TraceProver$Rules", "boundRow", "(I)I"⟩, 6), (⟨"TraceProver$Rules", "boundColumn", "(I)I"⟩, 6), (⟨"TraceProver$Rules", "boundValue", "(I)I"⟩, 6), (⟨"TraceProver$Rules", "constraintCount", "()I"⟩, 6), (⟨"TraceProver$Prover", "commitColumns", "()I"⟩, 8), (⟨"TraceProver$Talk", "challenge", "()I"⟩, 4), (⟨"TraceProver$Talk", "draw", "(II)I"⟩, 4), (⟨"TraceProver$Prover", "compose", "()V"⟩, 8), (⟨"TraceProver$Prover", "foldInto", "(I)V"⟩, 8), (⟨"TraceProver$Prover", "folded", "(II)I"⟩, 8), (⟨"TraceProver$Prover", "commitLayer", "(I)I"⟩, 8), (⟨"TraceProver$Prover", "openColumns", "([II)V"⟩, 8)]
theorem lw_r1 : ∀ q ∈ lw_privs_1, lw_okq q := List.forall_mem_cons.mpr ⟨lw_p0, List.forall_mem_cons.mpr ⟨lw_p1, List.forall_mem_cons.mpr ⟨lw_p2, List.forall_mem_cons.mpr ⟨lw_p3, List.forall_mem_cons.mpr ⟨lw_p4, List.forall_mem_cons.mpr ⟨lw_p5, List.forall_mem_cons.mpr ⟨lw_p6, List.forall_mem_cons.mpr ⟨lw_p7, List.forall_mem_cons.mpr ⟨lw_p8, List.forall_mem_cons.mpr ⟨lw_p9, List.forall_mem_cons.mpr ⟨lw_p10, List.forall_mem_cons.mpr ⟨lw_p11, List.forall_mem_cons.mpr ⟨lw_p12, List.forall_mem_cons.mpr ⟨lw_p13, List.forall_mem_cons.mpr ⟨lw_p14, List.forall_mem_cons.mpr ⟨lw_p15, fun _ h => absurd h List.not_mem_nil⟩⟩⟩⟩⟩⟩⟩⟩⟩⟩⟩⟩⟩⟩⟩⟩
theorem lw_p16 : lw_okq (⟨"TraceProver$Prover", "openLayers", "([II)V"⟩, 8) := ⟨⟨by decide +kernel, by decide +kernel⟩, List.mem_of_getElem? (i := 116) (by decide +kernel), List.mem_of_getElem? (i := 483) (by decide +kernel), List.mem_of_getElem? (i := 484) (by decide +kernel)⟩
theorem lw_p17 : lw_okq (⟨"TraceProver", "isInProof", "(I)Z"⟩, 8) := ⟨⟨by decide +kernel, by decide +kernel⟩, List.mem_of_getElem? (i := 13) (by decide +kernel), List.mem_of_getElem? (i := 500) (by decide +kernel), List.mem_of_getElem? (i := 501) (by decide +kernel)⟩
theorem lw_p18 : lw_okq (⟨"TraceProver$Proof", "areColumnsInField", "(I)Z"⟩, 1) := ⟨⟨by decide +kernel, by decide +kernel⟩, List.mem_of_getElem? (i := 103) (by decide +kernel), List.mem_of_getElem? (i := 521) (by decide +kernel), List.mem_of_getElem? (i := 522) (by decide +kernel)⟩
theorem lw_p19 : lw_okq (⟨"TraceProver$Proof", "areLayersInField", "(I)Z"⟩, 1) := ⟨⟨by decide +kernel, by decide +kernel⟩, List.mem_of_getElem? (i := 103) (by decide +kernel), List.mem_of_getElem? (i := 526) (by decide +kernel), List.mem_of_getElem? (i := 527) (by decide +kernel)⟩
theorem lw_p20 : lw_okq (⟨"TraceProver$Verifier", "listen", "()V"⟩, 5) := ⟨⟨by decide +kernel, by decide +kernel⟩, List.mem_of_getElem? (i := 190) (by decide +kernel), List.mem_of_getElem? (i := 531) (by decide +kernel), List.mem_of_getElem? (i := 532) (by decide +kernel)⟩
theorem lw_p21 : lw_okq (⟨"TraceProver$Verifier", "codeOf", "(I)I"⟩, 5) := ⟨⟨by decide +kernel, by decide +kernel⟩, List.mem_of_getElem? (i := 190) (by decide +kernel), List.mem_of_getElem? (i := 538) (by decide +kernel), List.mem_of_getElem? (i := 539) (by decide +kernel)⟩
theorem lw_p22 : lw_okq (⟨"TraceProver$Verifier", "doColumnPathsLead", "(I)Z"⟩, 5) := ⟨⟨by decide +kernel, by decide +kernel⟩, List.mem_of_getElem? (i := 190) (by decide +kernel), List.mem_of_getElem? (i := 542) (by decide +kernel), List.mem_of_getElem? (i := 543) (by decide +kernel)⟩
theorem lw_p23 : lw_okq (⟨"TraceProver$Verifier", "doLayerPathsLead", "(II)Z"⟩, 5) := ⟨⟨by decide +kernel, by decide +kernel⟩, List.mem_of_getElem? (i := 190) (by decide +kernel), List.mem_of_getElem? (i := 556) (by decide +kernel), List.mem_of_getElem? (i := 557) (by decide +kernel)⟩
theorem lw_p24 : lw_okq (⟨"TraceProver$Verifier", "isComposed", "(II)Z"⟩, 5) := ⟨⟨by decide +kernel, by decide +kernel⟩, List.mem_of_getElem? (i := 190) (by decide +kernel), List.mem_of_getElem? (i := 564) (by decide +kernel), List.mem_of_getElem? (i := 565) (by decide +kernel)⟩
theorem lw_p25 : lw_okq (⟨"TraceProver$Verifier", "folded", "(II)I"⟩, 5) := ⟨⟨by decide +kernel, by decide +kernel⟩, List.mem_of_getElem? (i := 190) (by decide +kernel), List.mem_of_getElem? (i := 570) (by decide +kernel), List.mem_of_getElem? (i := 571) (by decide +kernel)⟩
theorem lw_p26 : lw_okq (⟨"TraceProver$Verifier", "valueBehind", "(II)I"⟩, 5) := ⟨⟨by decide +kernel, by decide +kernel⟩, List.mem_of_getElem? (i := 190) (by decide +kernel), List.mem_of_getElem? (i := 575) (by decide +kernel), List.mem_of_getElem? (i := 576) (by decide +kernel)⟩
theorem lw_p27 : lw_okq (⟨"TraceProverModel", "x", "(I)I"⟩, 24) := ⟨⟨by decide +kernel, by decide +kernel⟩, List.mem_of_getElem? (i := 584) (by decide +kernel), List.mem_of_getElem? (i := 701) (by decide +kernel), List.mem_of_getElem? (i := 702) (by decide +kernel)⟩
theorem lw_p28 : lw_okq (⟨"TraceProverModel", "w", "(I)I"⟩, 24) := ⟨⟨by decide +kernel, by decide +kernel⟩, List.mem_of_getElem? (i := 584) (by decide +kernel), List.mem_of_getElem? (i := 705) (by decide +kernel), List.mem_of_getElem? (i := 706) (by decide +kernel)⟩
theorem lw_p29 : lw_okq (⟨"TraceProverModel", "valueAt", "(II)I"⟩, 24) := ⟨⟨by decide +kernel, by decide +kernel⟩, List.mem_of_getElem? (i := 584) (by decide +kernel), List.mem_of_getElem? (i := 709) (by decide +kernel), List.mem_of_getElem? (i := 710) (by decide +kernel)⟩
theorem lw_p30 : lw_okq (⟨"TraceProverModel", "h", "(I)I"⟩, 24) := ⟨⟨by decide +kernel, by decide +kernel⟩, List.mem_of_getElem? (i := 584) (by decide +kernel), List.mem_of_getElem? (i := 713) (by decide +kernel), List.mem_of_getElem? (i := 714) (by decide +kernel)⟩
theorem lw_p31 : lw_okq (⟨"TraceProverModel", "isWrong", "(I)Z"⟩, 24) := ⟨⟨by decide +kernel, by decide +kernel⟩, List.mem_of_getElem? (i := 584) (by decide +kernel), List.mem_of_getElem? (i := 727) (by decide +kernel), List.mem_of_getElem? (i := 728) (by decide +kernel)⟩
def lw_privs_2 : List (MethodName × Nat) := [(⟨"TraceProver$Prover", "openLayers", "([II)V"⟩, 8), (⟨"TraceProver", "isInProof", "(I)Z"⟩, 8), (⟨"TraceProver$Proof", "areColumnsInField", "(I)Z"⟩, 1), (⟨"TraceProver$Proof", "areLayersInField", "(I)Z"⟩, 1), (⟨"TraceProver$Verifier", "listen", "()V"⟩, 5), (⟨"TraceProver$Verifier", "codeOf", "(I)I"⟩, 5), (⟨"TraceProver$Verifier", "doColumnPathsLead", "(I)Z"⟩, 5), (⟨"TraceProver$Verifier", "doLayerPathsLead", "(II)Z"⟩, 5), (⟨"TraceProver$Verifier", "isComposed", "(II)Z"⟩, 5), (⟨"TraceProver$Verifier", "folded", "(II)I"⟩, 5), (⟨"TraceProver$Verifier", "valueBehind", "(II)I"⟩, 5), (⟨"TraceProverModel", "x", "(I)I"⟩, 24), (⟨"TraceProverModel", "w", "(I)I"⟩, 24), (⟨"TraceProverModel", "valueAt", "(II)I"⟩, 24), (⟨"TraceProverModel", "h", "(I)I"⟩, 24), (⟨"TraceProverModel", "isWrong", "(I)Z"⟩, 24)]
theorem lw_r2 : ∀ q ∈ lw_privs_2, lw_okq q := List.forall_mem_cons.mpr ⟨lw_p16, List.forall_mem_cons.mpr ⟨lw_p17, List.forall_mem_cons.mpr ⟨lw_p18, List.forall_mem_cons.mpr ⟨lw_p19, List.forall_mem_cons.mpr ⟨lw_p20, List.forall_mem_cons.mpr ⟨lw_p21, List.forall_mem_cons.mpr ⟨lw_p22, List.forall_mem_cons.mpr ⟨lw_p23, List.forall_mem_cons.mpr ⟨lw_p24, List.forall_mem_cons.mpr ⟨lw_p25, List.forall_mem_cons.mpr ⟨lw_p26, List.forall_mem_cons.mpr ⟨lw_p27, List.forall_mem_cons.mpr ⟨lw_p28, List.forall_mem_cons.mpr ⟨lw_p29, List.forall_mem_cons.mpr ⟨lw_p30, List.forall_mem_cons.mpr ⟨lw_p31, fun _ h => absurd h List.not_mem_nil⟩⟩⟩⟩⟩⟩⟩⟩⟩⟩⟩⟩⟩⟩⟩⟩
theorem lw_p32 : lw_okq (⟨"TraceProverModel", "letters", "(IIII)V"⟩, 24) := ⟨⟨by decide +kernel, by decide +kernel⟩, List.mem_of_getElem? (i := 584) (by decide +kernel), List.mem_of_getElem? (i := 731) (by decide +kernel), List.mem_of_getElem? (i := 732) (by decide +kernel)⟩
theorem lw_p33 : lw_okq (⟨"TraceProverModel", "summed", "(I)I"⟩, 24) := ⟨⟨by decide +kernel, by decide +kernel⟩, List.mem_of_getElem? (i := 584) (by decide +kernel), List.mem_of_getElem? (i := 735) (by decide +kernel), List.mem_of_getElem? (i := 736) (by decide +kernel)⟩
theorem lw_p34 : lw_okq (⟨"TraceProverModel", "constraints", "()I"⟩, 24) := ⟨⟨by decide +kernel, by decide +kernel⟩, List.mem_of_getElem? (i := 584) (by decide +kernel), List.mem_of_getElem? (i := 743) (by decide +kernel), List.mem_of_getElem? (i := 744) (by decide +kernel)⟩
theorem lw_p35 : lw_okq (⟨"TraceProverModel", "tellRules", "()V"⟩, 24) := ⟨⟨by decide +kernel, by decide +kernel⟩, List.mem_of_getElem? (i := 584) (by decide +kernel), List.mem_of_getElem? (i := 748) (by decide +kernel), List.mem_of_getElem? (i := 749) (by decide +kernel)⟩
theorem lw_p36 : lw_okq (⟨"TraceProverModel", "tell", "(I)V"⟩, 24) := ⟨⟨by decide +kernel, by decide +kernel⟩, List.mem_of_getElem? (i := 584) (by decide +kernel), List.mem_of_getElem? (i := 752) (by decide +kernel), List.mem_of_getElem? (i := 753) (by decide +kernel)⟩
theorem lw_p37 : lw_okq (⟨"TraceProverModel", "grow", "(I)I"⟩, 24) := ⟨⟨by decide +kernel, by decide +kernel⟩, List.mem_of_getElem? (i := 584) (by decide +kernel), List.mem_of_getElem? (i := 761) (by decide +kernel), List.mem_of_getElem? (i := 762) (by decide +kernel)⟩
theorem lw_p38 : lw_okq (⟨"TraceProverModel", "challenge", "()I"⟩, 24) := ⟨⟨by decide +kernel, by decide +kernel⟩, List.mem_of_getElem? (i := 584) (by decide +kernel), List.mem_of_getElem? (i := 774) (by decide +kernel), List.mem_of_getElem? (i := 775) (by decide +kernel)⟩
theorem lw_p39 : lw_okq (⟨"TraceProverModel", "composition", "(I)I"⟩, 24) := ⟨⟨by decide +kernel, by decide +kernel⟩, List.mem_of_getElem? (i := 584) (by decide +kernel), List.mem_of_getElem? (i := 779) (by decide +kernel), List.mem_of_getElem? (i := 780) (by decide +kernel)⟩
theorem lw_p40 : lw_okq (⟨"TraceProverModel", "nextLayer", "(I)V"⟩, 24) := ⟨⟨by decide +kernel, by decide +kernel⟩, List.mem_of_getElem? (i := 584) (by decide +kernel), List.mem_of_getElem? (i := 783) (by decide +kernel), List.mem_of_getElem? (i := 784) (by decide +kernel)⟩
theorem lw_p41 : lw_okq (⟨"TraceProverModel", "folded", "(IIII)I"⟩, 24) := ⟨⟨by decide +kernel, by decide +kernel⟩, List.mem_of_getElem? (i := 584) (by decide +kernel), List.mem_of_getElem? (i := 787) (by decide +kernel), List.mem_of_getElem? (i := 788) (by decide +kernel)⟩
theorem lw_p42 : lw_okq (⟨"TraceProverModel", "tellRest", "(I)V"⟩, 24) := ⟨⟨by decide +kernel, by decide +kernel⟩, List.mem_of_getElem? (i := 584) (by decide +kernel), List.mem_of_getElem? (i := 791) (by decide +kernel), List.mem_of_getElem? (i := 792) (by decide +kernel)⟩
theorem lw_p43 : lw_okq (⟨"TraceProverModel", "writeOpening", "(I)V"⟩, 24) := ⟨⟨by decide +kernel, by decide +kernel⟩, List.mem_of_getElem? (i := 584) (by decide +kernel), List.mem_of_getElem? (i := 795) (by decide +kernel), List.mem_of_getElem? (i := 796) (by decide +kernel)⟩
theorem lw_p44 : lw_okq (⟨"TraceProverModel", "write", "(I)V"⟩, 24) := ⟨⟨by decide +kernel, by decide +kernel⟩, List.mem_of_getElem? (i := 584) (by decide +kernel), List.mem_of_getElem? (i := 799) (by decide +kernel), List.mem_of_getElem? (i := 800) (by decide +kernel)⟩
theorem lw_p45 : lw_okq (⟨"TraceProverModel", "writePath", "(II)V"⟩, 24) := ⟨⟨by decide +kernel, by decide +kernel⟩, List.mem_of_getElem? (i := 584) (by decide +kernel), List.mem_of_getElem? (i := 803) (by decide +kernel), List.mem_of_getElem? (i := 804) (by decide +kernel)⟩
theorem lw_p46 : lw_okq (⟨"TraceProverModel", "allNumbers", "()Z"⟩, 24) := ⟨⟨by decide +kernel, by decide +kernel⟩, List.mem_of_getElem? (i := 584) (by decide +kernel), List.mem_of_getElem? (i := 819) (by decide +kernel), List.mem_of_getElem? (i := 820) (by decide +kernel)⟩
theorem lw_p47 : lw_okq (⟨"TraceProverModel", "code", "(I)I"⟩, 24) := ⟨⟨by decide +kernel, by decide +kernel⟩, List.mem_of_getElem? (i := 584) (by decide +kernel), List.mem_of_getElem? (i := 826) (by decide +kernel), List.mem_of_getElem? (i := 827) (by decide +kernel)⟩
def lw_privs_3 : List (MethodName × Nat) := [(⟨"TraceProverModel", "letters", "(IIII)V"⟩, 24), (⟨"TraceProverModel", "summed", "(I)I"⟩, 24), (⟨"TraceProverModel", "constraints", "()I"⟩, 24), (⟨"TraceProverModel", "tellRules", "()V"⟩, 24), (⟨"TraceProverModel", "tell", "(I)V"⟩, 24), (⟨"TraceProverModel", "grow", "(I)I"⟩, 24), (⟨"TraceProverModel", "challenge", "()I"⟩, 24), (⟨"TraceProverModel", "composition", "(I)I"⟩, 24), (⟨"TraceProverModel", "nextLayer", "(I)V"⟩, 24), (⟨"TraceProverModel", "folded", "(IIII)I"⟩, 24), (⟨"TraceProverModel", "tellRest", "(I)V"⟩, 24), (⟨"TraceProverModel", "writeOpening", "(I)V"⟩, 24), (⟨"TraceProverModel", "write", "(I)V"⟩, 24), (⟨"TraceProverModel", "writePath", "(II)V"⟩, 24), (⟨"TraceProverModel", "allNumbers", "()Z"⟩, 24), (⟨"TraceProverModel", "code", "(I)I"⟩, 24)]
theorem lw_r3 : ∀ q ∈ lw_privs_3, lw_okq q := List.forall_mem_cons.mpr ⟨lw_p32, List.forall_mem_cons.mpr ⟨lw_p33, List.forall_mem_cons.mpr ⟨lw_p34, List.forall_mem_cons.mpr ⟨lw_p35, List.forall_mem_cons.mpr ⟨lw_p36, List.forall_mem_cons.mpr ⟨lw_p37, List.forall_mem_cons.mpr ⟨lw_p38, List.forall_mem_cons.mpr ⟨lw_p39, List.forall_mem_cons.mpr ⟨lw_p40, List.forall_mem_cons.mpr ⟨lw_p41, List.forall_mem_cons.mpr ⟨lw_p42, List.forall_mem_cons.mpr ⟨lw_p43, List.forall_mem_cons.mpr ⟨lw_p44, List.forall_mem_cons.mpr ⟨lw_p45, List.forall_mem_cons.mpr ⟨lw_p46, List.forall_mem_cons.mpr ⟨lw_p47, fun _ h => absurd h List.not_mem_nil⟩⟩⟩⟩⟩⟩⟩⟩⟩⟩⟩⟩⟩⟩⟩⟩
theorem lw_p48 : lw_okq (⟨"TraceProverModel", "opens", "(II)Z"⟩, 24) := ⟨⟨by decide +kernel, by decide +kernel⟩, List.mem_of_getElem? (i := 584) (by decide +kernel), List.mem_of_getElem? (i := 830) (by decide +kernel), List.mem_of_getElem? (i := 831) (by decide +kernel)⟩
theorem lw_p49 : lw_okq (⟨"TraceProverModel", "leads", "(IIII)Z"⟩, 24) := ⟨⟨by decide +kernel, by decide +kernel⟩, List.mem_of_getElem? (i := 584) (by decide +kernel), List.mem_of_getElem? (i := 834) (by decide +kernel), List.mem_of_getElem? (i := 835) (by decide +kernel)⟩
theorem lw_p50 : lw_okq (⟨"TraceProverModel", "opensLayer", "(III)Z"⟩, 24) := ⟨⟨by decide +kernel, by decide +kernel⟩, List.mem_of_getElem? (i := 584) (by decide +kernel), List.mem_of_getElem? (i := 838) (by decide +kernel), List.mem_of_getElem? (i := 839) (by decide +kernel)⟩
theorem lw_p51 : lw_okq (⟨"TraceProverModel", "composes", "(II)Z"⟩, 24) := ⟨⟨by decide +kernel, by decide +kernel⟩, List.mem_of_getElem? (i := 584) (by decide +kernel), List.mem_of_getElem? (i := 842) (by decide +kernel), List.mem_of_getElem? (i := 843) (by decide +kernel)⟩
theorem lw_p52 : lw_okq (⟨"TraceProverModel", "folds", "(III)Z"⟩, 24) := ⟨⟨by decide +kernel, by decide +kernel⟩, List.mem_of_getElem? (i := 584) (by decide +kernel), List.mem_of_getElem? (i := 846) (by decide +kernel), List.mem_of_getElem? (i := 847) (by decide +kernel)⟩
def lw_privs_4 : List (MethodName × Nat) := [(⟨"TraceProverModel", "opens", "(II)Z"⟩, 24), (⟨"TraceProverModel", "leads", "(IIII)Z"⟩, 24), (⟨"TraceProverModel", "opensLayer", "(III)Z"⟩, 24), (⟨"TraceProverModel", "composes", "(II)Z"⟩, 24), (⟨"TraceProverModel", "folds", "(III)Z"⟩, 24)]
theorem lw_r4 : ∀ q ∈ lw_privs_4, lw_okq q := List.forall_mem_cons.mpr ⟨lw_p48, List.forall_mem_cons.mpr ⟨lw_p49, List.forall_mem_cons.mpr ⟨lw_p50, List.forall_mem_cons.mpr ⟨lw_p51, List.forall_mem_cons.mpr ⟨lw_p52, fun _ h => absurd h List.not_mem_nil⟩⟩⟩⟩⟩
def lw_privs : List (MethodName × Nat) := lw_privs_1 ++ (lw_privs_2 ++ (lw_privs_3 ++ (lw_privs_4)))
def lw_tbl : List Cond := k2_sels lw_privs ++ tables_1
theorem lw_privs_ok : ∀ q ∈ lw_privs, lw_okq q := by
  show ∀ q ∈ lw_privs_1 ++ (lw_privs_2 ++ (lw_privs_3 ++ (lw_privs_4))), lw_okq q
  exact List.forall_mem_append.mpr ⟨lw_r1, List.forall_mem_append.mpr ⟨lw_r2, List.forall_mem_append.mpr ⟨lw_r3, lw_r4⟩⟩⟩
end
section
def ew_T0 : u_T := fun k => match k with
  | 0 => ("TraceProver", "points", "LTraceProver$Points;", true)
  | 1 => ("TraceProver", "rules", "LTraceProver$Rules;", true)
  | 2 => ("TraceProver", "table", "LTraceProver$Table;", true)
  | 3 => ("TraceProver", "kept", "LTraceProver$Proof;", true)
  | 4 => ("TraceProver", "prover", "LTraceProver$Prover;", true)
  | 5 => ("TraceProver", "verifier", "LTraceProver$Verifier;", true)
  | 6 => ("TraceProver", "proved", "Z", false)
  | _ => ("TraceProver", "positionsKnown", "Z", false)
def ew_Y0 : Nat → FieldType := fun k => match k with
  | 0 => (.object "TraceProver$Points")
  | 1 => (.object "TraceProver$Rules")
  | 2 => (.object "TraceProver$Table")
  | 3 => (.object "TraceProver$Proof")
  | 4 => (.object "TraceProver$Prover")
  | 5 => (.object "TraceProver$Verifier")
  | 6 => .boolean
  | _ => .boolean
def ew_T1 : u_T := fun k => match k with
  | 0 => ("TraceProver$Points", "rootPowers", "[I", true)
  | 1 => ("TraceProver$Points", "overPoint", "[I", true)
  | 2 => ("TraceProver$Points", "overPointLessOne", "[I", true)
  | 3 => ("TraceProver$Points", "constraintFactors", "[I", true)
  | _ => ("TraceProver$Points", "columnFactors", "[I", true)
def ew_Y1 : Nat → FieldType := fun k => match k with
  | 0 => (.array .int)
  | 1 => (.array .int)
  | 2 => (.array .int)
  | 3 => (.array .int)
  | _ => (.array .int)
def ew_T2 : u_T := fun k => match k with
  | 0 => ("TraceProver$Rules", "points", "LTraceProver$Points;", true)
  | 1 => ("TraceProver$Rules", "termCounts", "[I", true)
  | 2 => ("TraceProver$Rules", "terms", "[[I", true)
  | 3 => ("TraceProver$Rules", "bounds", "[I", true)
  | 4 => ("TraceProver$Rules", "boundCount", "I", false)
  | _ => ("TraceProver$Rules", "letters", "[I", true)
def ew_Y2 : Nat → FieldType := fun k => match k with
  | 0 => (.object "TraceProver$Points")
  | 1 => (.array .int)
  | 2 => (.array (.array .int))
  | 3 => (.array .int)
  | 4 => .int
  | _ => (.array .int)
def ew_T3 : u_T := fun k => match k with
  | 0 => ("TraceProver$Table", "points", "LTraceProver$Points;", true)
  | _ => ("TraceProver$Table", "cells", "[[I", true)
def ew_Y3 : Nat → FieldType := fun k => match k with
  | 0 => (.object "TraceProver$Points")
  | _ => (.array (.array .int))
def ew_T4 : u_T := fun k => match k with
  | _ => ("TraceProver$Proof", "ints", "[I", true)
def ew_Y4 : Nat → FieldType := fun k => match k with
  | _ => (.array .int)
def ew_T5 : u_T := fun k => match k with
  | 0 => ("TraceProver$Prover", "points", "LTraceProver$Points;", true)
  | 1 => ("TraceProver$Prover", "rules", "LTraceProver$Rules;", true)
  | 2 => ("TraceProver$Prover", "table", "LTraceProver$Table;", true)
  | 3 => ("TraceProver$Prover", "talk", "LTraceProver$Talk;", true)
  | 4 => ("TraceProver$Prover", "columns", "[[I", true)
  | 5 => ("TraceProver$Prover", "layers", "[[I", true)
  | 6 => ("TraceProver$Prover", "columnTree", "LTraceProver$Tree;", true)
  | _ => ("TraceProver$Prover", "layerTrees", "[LTraceProver$Tree;", true)
def ew_Y5 : Nat → FieldType := fun k => match k with
  | 0 => (.object "TraceProver$Points")
  | 1 => (.object "TraceProver$Rules")
  | 2 => (.object "TraceProver$Table")
  | 3 => (.object "TraceProver$Talk")
  | 4 => (.array (.array .int))
  | 5 => (.array (.array .int))
  | 6 => (.object "TraceProver$Tree")
  | _ => (.array (.object "TraceProver$Tree"))
def ew_T6 : u_T := fun k => match k with
  | 0 => ("TraceProver$Verifier", "points", "LTraceProver$Points;", true)
  | 1 => ("TraceProver$Verifier", "rules", "LTraceProver$Rules;", true)
  | 2 => ("TraceProver$Verifier", "subject", "LTraceProver$Proof;", true)
  | 3 => ("TraceProver$Verifier", "ints", "[I", true)
  | _ => ("TraceProver$Verifier", "talk", "LTraceProver$Talk;", true)
def ew_Y6 : Nat → FieldType := fun k => match k with
  | 0 => (.object "TraceProver$Points")
  | 1 => (.object "TraceProver$Rules")
  | 2 => (.object "TraceProver$Proof")
  | 3 => (.array .int)
  | _ => (.object "TraceProver$Talk")
def ew_T7 : u_T := fun k => match k with
  | 0 => ("TraceProver$Talk", "transcript", "I", false)
  | 1 => ("TraceProver$Talk", "composing", "I", false)
  | 2 => ("TraceProver$Talk", "folding", "[I", true)
  | _ => ("TraceProver$Talk", "places", "[I", true)
def ew_Y7 : Nat → FieldType := fun k => match k with
  | 0 => .int
  | 1 => .int
  | 2 => (.array .int)
  | _ => (.array .int)
def ew_T8 : u_T := fun k => match k with
  | 0 => ("TraceProver$Tree", "leafCount", "I", true)
  | _ => ("TraceProver$Tree", "nodes", "[I", true)
def ew_Y8 : Nat → FieldType := fun k => match k with
  | 0 => .int
  | _ => (.array .int)
def ew_T9 : u_T := fun k => match k with
  | 0 => ("TraceProverModel", "cells", "[I", true)
  | 1 => ("TraceProverModel", "many", "[I", true)
  | 2 => ("TraceProverModel", "ks", "[I", true)
  | 3 => ("TraceProverModel", "us", "[I", true)
  | 4 => ("TraceProverModel", "vs", "[I", true)
  | 5 => ("TraceProverModel", "bounds", "I", false)
  | 6 => ("TraceProverModel", "boundC", "[I", true)
  | 7 => ("TraceProverModel", "boundR", "[I", true)
  | 8 => ("TraceProverModel", "boundV", "[I", true)
  | 9 => ("TraceProverModel", "made", "Z", false)
  | 10 => ("TraceProverModel", "row", "[I", true)
  | 11 => ("TraceProverModel", "written", "I", false)
  | 12 => ("TraceProverModel", "transcript", "I", false)
  | 13 => ("TraceProverModel", "rules", "I", false)
  | 14 => ("TraceProverModel", "mixing", "I", false)
  | 15 => ("TraceProverModel", "folding", "[I", true)
  | 16 => ("TraceProverModel", "positions", "[I", true)
  | 17 => ("TraceProverModel", "latest", "[I", true)
  | 18 => ("TraceProverModel", "seen", "Z", false)
  | 19 => ("TraceProverModel", "roots", "[I", true)
  | 20 => ("TraceProverModel", "poly", "[I", true)
  | 21 => ("TraceProverModel", "layer", "[I", true)
  | 22 => ("TraceProverModel", "node", "[I", true)
  | _ => ("TraceProverModel", "letter", "[I", true)
def ew_Y9 : Nat → FieldType := fun k => match k with
  | 0 => (.array .int)
  | 1 => (.array .int)
  | 2 => (.array .int)
  | 3 => (.array .int)
  | 4 => (.array .int)
  | 5 => .int
  | 6 => (.array .int)
  | 7 => (.array .int)
  | 8 => (.array .int)
  | 9 => .boolean
  | 10 => (.array .int)
  | 11 => .int
  | 12 => .int
  | 13 => .int
  | 14 => .int
  | 15 => (.array .int)
  | 16 => (.array .int)
  | 17 => (.array .int)
  | 18 => .boolean
  | 19 => (.array .int)
  | 20 => (.array .int)
  | 21 => (.array .int)
  | 22 => (.array .int)
  | _ => (.array .int)
def ew_cl : List vw_C := [("TraceProver", ew_T0, 8), ("TraceProver$Points", ew_T1, 5), ("TraceProver$Rules", ew_T2, 6), ("TraceProver$Table", ew_T3, 2), ("TraceProver$Proof", ew_T4, 1), ("TraceProver$Prover", ew_T5, 8), ("TraceProver$Verifier", ew_T6, 5), ("TraceProver$Talk", ew_T7, 4), ("TraceProver$Tree", ew_T8, 2), ("TraceProverModel", ew_T9, 24)]
def ew_ys : List (Nat → FieldType) := [ew_Y0, ew_Y1, ew_Y2, ew_Y3, ew_Y4, ew_Y5, ew_Y6, ew_Y7, ew_Y8, ew_Y9]
theorem ew_in0 : ∀ w ∈ u_ws "TraceProver" ew_T0 8, w ∈ lw_tbl := by decide +kernel
theorem ew_nm0 : ∀ a, a < 8 → ∀ b, b < 8 → a ≠ b → (ew_T0 a).2.1 ≠ (ew_T0 b).2.1 := by decide +kernel
theorem ew_ty0 : ∀ k, k < 8 → parseFieldDescriptor (ew_T0 k).2.2.1 = some (ew_Y0 k) := by decide +kernel
theorem ew_in1 : ∀ w ∈ u_ws "TraceProver$Points" ew_T1 5, w ∈ lw_tbl := by decide +kernel
theorem ew_nm1 : ∀ a, a < 5 → ∀ b, b < 5 → a ≠ b → (ew_T1 a).2.1 ≠ (ew_T1 b).2.1 := by decide +kernel
theorem ew_ty1 : ∀ k, k < 5 → parseFieldDescriptor (ew_T1 k).2.2.1 = some (ew_Y1 k) := by decide +kernel
theorem ew_in2 : ∀ w ∈ u_ws "TraceProver$Rules" ew_T2 6, w ∈ lw_tbl := by decide +kernel
theorem ew_nm2 : ∀ a, a < 6 → ∀ b, b < 6 → a ≠ b → (ew_T2 a).2.1 ≠ (ew_T2 b).2.1 := by decide +kernel
theorem ew_ty2 : ∀ k, k < 6 → parseFieldDescriptor (ew_T2 k).2.2.1 = some (ew_Y2 k) := by decide +kernel
theorem ew_in3 : ∀ w ∈ u_ws "TraceProver$Table" ew_T3 2, w ∈ lw_tbl := by decide +kernel
theorem ew_nm3 : ∀ a, a < 2 → ∀ b, b < 2 → a ≠ b → (ew_T3 a).2.1 ≠ (ew_T3 b).2.1 := by decide +kernel
theorem ew_ty3 : ∀ k, k < 2 → parseFieldDescriptor (ew_T3 k).2.2.1 = some (ew_Y3 k) := by decide +kernel
theorem ew_in4 : ∀ w ∈ u_ws "TraceProver$Proof" ew_T4 1, w ∈ lw_tbl := by decide +kernel
theorem ew_nm4 : ∀ a, a < 1 → ∀ b, b < 1 → a ≠ b → (ew_T4 a).2.1 ≠ (ew_T4 b).2.1 := by decide +kernel
theorem ew_ty4 : ∀ k, k < 1 → parseFieldDescriptor (ew_T4 k).2.2.1 = some (ew_Y4 k) := by decide +kernel
theorem ew_in5 : ∀ w ∈ u_ws "TraceProver$Prover" ew_T5 8, w ∈ lw_tbl := by decide +kernel
theorem ew_nm5 : ∀ a, a < 8 → ∀ b, b < 8 → a ≠ b → (ew_T5 a).2.1 ≠ (ew_T5 b).2.1 := by decide +kernel
theorem ew_ty5 : ∀ k, k < 8 → parseFieldDescriptor (ew_T5 k).2.2.1 = some (ew_Y5 k) := by decide +kernel
theorem ew_in6 : ∀ w ∈ u_ws "TraceProver$Verifier" ew_T6 5, w ∈ lw_tbl := by decide +kernel
theorem ew_nm6 : ∀ a, a < 5 → ∀ b, b < 5 → a ≠ b → (ew_T6 a).2.1 ≠ (ew_T6 b).2.1 := by decide +kernel
theorem ew_ty6 : ∀ k, k < 5 → parseFieldDescriptor (ew_T6 k).2.2.1 = some (ew_Y6 k) := by decide +kernel
theorem ew_in7 : ∀ w ∈ u_ws "TraceProver$Talk" ew_T7 4, w ∈ lw_tbl := by decide +kernel
theorem ew_nm7 : ∀ a, a < 4 → ∀ b, b < 4 → a ≠ b → (ew_T7 a).2.1 ≠ (ew_T7 b).2.1 := by decide +kernel
theorem ew_ty7 : ∀ k, k < 4 → parseFieldDescriptor (ew_T7 k).2.2.1 = some (ew_Y7 k) := by decide +kernel
theorem ew_in8 : ∀ w ∈ u_ws "TraceProver$Tree" ew_T8 2, w ∈ lw_tbl := by decide +kernel
theorem ew_nm8 : ∀ a, a < 2 → ∀ b, b < 2 → a ≠ b → (ew_T8 a).2.1 ≠ (ew_T8 b).2.1 := by decide +kernel
theorem ew_ty8 : ∀ k, k < 2 → parseFieldDescriptor (ew_T8 k).2.2.1 = some (ew_Y8 k) := by decide +kernel
theorem ew_in9 : ∀ w ∈ u_ws "TraceProverModel" ew_T9 24, w ∈ lw_tbl := by decide +kernel
theorem ew_nm9 : ∀ a, a < 24 → ∀ b, b < 24 → a ≠ b → (ew_T9 a).2.1 ≠ (ew_T9 b).2.1 := by decide +kernel
theorem ew_ty9 : ∀ k, k < 24 → parseFieldDescriptor (ew_T9 k).2.2.1 = some (ew_Y9 k) := by decide +kernel
theorem ew_in : ∀ (c : Nat) (q : vw_C), ew_cl[c]? = some q → ∀ w ∈ u_ws q.1 q.2.1 q.2.2, w ∈ lw_tbl := by
  intro c q h
  match c, h with
  | 0, h => cases h; exact ew_in0
  | 1, h => cases h; exact ew_in1
  | 2, h => cases h; exact ew_in2
  | 3, h => cases h; exact ew_in3
  | 4, h => cases h; exact ew_in4
  | 5, h => cases h; exact ew_in5
  | 6, h => cases h; exact ew_in6
  | 7, h => cases h; exact ew_in7
  | 8, h => cases h; exact ew_in8
  | 9, h => cases h; exact ew_in9
  | c + 10, h => simp [ew_cl] at h
theorem ew_ty : ∀ (c : Nat) (q : vw_C), ew_cl[c]? = some q → ∃ y, ew_ys[c]? = some y ∧ (∀ k, k < q.2.2 → parseFieldDescriptor (q.2.1 k).2.2.1 = some (y k)) ∧ ∀ a, a < q.2.2 → ∀ b, b < q.2.2 → a ≠ b → (q.2.1 a).2.1 ≠ (q.2.1 b).2.1 := by
  intro c q h
  match c, h with
  | 0, h => cases h; exact ⟨ew_Y0, rfl, ew_ty0, ew_nm0⟩
  | 1, h => cases h; exact ⟨ew_Y1, rfl, ew_ty1, ew_nm1⟩
  | 2, h => cases h; exact ⟨ew_Y2, rfl, ew_ty2, ew_nm2⟩
  | 3, h => cases h; exact ⟨ew_Y3, rfl, ew_ty3, ew_nm3⟩
  | 4, h => cases h; exact ⟨ew_Y4, rfl, ew_ty4, ew_nm4⟩
  | 5, h => cases h; exact ⟨ew_Y5, rfl, ew_ty5, ew_nm5⟩
  | 6, h => cases h; exact ⟨ew_Y6, rfl, ew_ty6, ew_nm6⟩
  | 7, h => cases h; exact ⟨ew_Y7, rfl, ew_ty7, ew_nm7⟩
  | 8, h => cases h; exact ⟨ew_Y8, rfl, ew_ty8, ew_nm8⟩
  | 9, h => cases h; exact ⟨ew_Y9, rfl, ew_ty9, ew_nm9⟩
  | c + 10, h => simp [ew_cl] at h
end
section
/-! THE SMALL MACHINE: shapes of cells, a memory of ints, a judgement over them that stands for the kit's W -/
abbrev ew_S : Type := Nat ⊕ ((Nat × List (Option Nat)) ⊕ (Nat × List (Option (Option Nat))))
abbrev ew_M : Type := Nat → Nat → Int32
abbrev ew_G : Type := Nat × (Nat → Nat) × Heap × (Nat → ClassId) × (Nat → ClassId) × (Nat → Nat → Nat)
abbrev ew_D : Type := String × MethodName × ByteArray × Nat × Option FieldType
def ew_isN : Cond → Bool
  | .fieldLinkNest .. => true
  | .methodLinkNest .. => true
  | _ => false
def ew_tb : List Cond := lw_tbl.filter goodWord
def ew_nt : List Cond := lw_tbl.filter ew_isN
theorem ew_mt {w : Cond} (h : w ∈ lw_tbl) (hg : goodWord w = true) : w ∈ ew_tb := List.mem_filter.mpr ⟨h, hg⟩
theorem ew_mn {w : Cond} (h : w ∈ lw_tbl) (hg : ew_isN w = true) : w ∈ ew_nt := List.mem_filter.mpr ⟨h, hg⟩
theorem ew_gd : ∀ w ∈ ew_tb, (w.onTables && w.keeps) = true ∨ ∃ ty, w = .arrayClass ty := fun w h => good_of_word (List.mem_filter.mp h).2
theorem ew_goodIn {c : Cond} (h : c ∈ ew_tb) (big : List Cond) (hb : ∀ w ∈ ew_tb, w ∈ big) : GoodIn big (c :: ew_tb) := fun w hw => (List.mem_cons.mp hw).elim (fun e => e ▸ ⟨hb _ h, ew_gd _ h⟩) (fun h => ⟨hb _ h, ew_gd _ h⟩)
def ew_ad (g : ew_G) (i : Nat) : Nat := if i < 3 then g.2.1 i else g.1 + (i - 3)
def ew_v (g : ew_G) : Value → Value
  | .ref i => .ref (ew_ad g i)
  | v => v
def ew_o (g : ew_G) : Option Nat → Value
  | none => .null
  | some i => .ref (ew_ad g i)
def ew_f (g : ew_G) (M : ew_M) (i : Nat) (fs : List (Option (Option Nat))) (k : Nat) : Value := match fs[k]? with
  | some none => .int (M i k)
  | some (some r) => ew_o g r
  | none => .null
def ew_at (g : ew_G) (s : State) (H : Heap) (M : ew_M) (i : Nat) : ew_S → Prop
  | .inl n => ∃ cell : Cell, H[ew_ad g i]? = some cell ∧ s.isArrayOf cell .int ∧ cell.vm ≠ .unknown ∧ cell.slots.size = n ∧ ∀ j : Nat, j < n → cell.slots[j]? = some (.int (M i j))
  | .inr (.inl (k, rs)) => H[ew_ad g i]? = some (arrV (g.2.2.2.1 k) rs.length (fun j => ew_o g (rs.getD j none)))
  | .inr (.inr (ci, fs)) => ∃ r : vw_C, ew_cl[ci]? = some r ∧ fs.length = r.2.2 ∧ t_OB (ew_ad g i) (g.2.2.2.2.1 ci) r.2.2 (g.2.2.2.2.2 ci) H (ew_f g M i fs)
def ew_h (g : ew_G) (s : State) (sh : List ew_S) (M : ew_M) (H : Heap) : Prop := 3 ≤ sh.length ∧ H.size = g.1 + (sh.length - 3) ∧ (∀ (i : Nat) (c : ew_S), sh[i]? = some c → ew_at g s H M i c) ∧ ∀ q : Nat, q < g.1 → H[q]? = g.2.2.1[q]?
def ew_k (g : ew_G) (s : State) : Prop :=
  (∀ (c : Nat) (q : vw_C), ew_cl[c]? = some q → u_Kn s q.1 q.2.1 q.2.2 (g.2.2.2.2.1 c) (g.2.2.2.2.2 c)) ∧ (∀ w ∈ ew_nt, va_Nw w s) ∧
  (∃ (kA kC : Class) (comp cc : ClassId), s.vm.classes[g.2.2.2.1 0]? = some kA ∧ kA.kind = .array comp (.array .int) ∧ s.vm.findClass ("[" ++ (FieldType.array .int).toString) = some (g.2.2.2.1 0) ∧ s.vm.classes[comp]? = some kC ∧ kC.kind = .array cc .int ∧ s.vm.findClass (FieldType.array .int).toString = some comp) ∧
  va_AO "TraceProver$Tree" s ∧ va_RA s (g.2.2.2.1 1) (.object "TraceProver$Tree") ∧
  va_Z "TraceProver$Proof" "COLUMN_STEPS" "[I" (.ref (g.2.1 1)) (fun q => g.1 ≤ q) s g.2.2.1 ∧ va_Z "TraceProver$Proof" "LAYER_STARTS" "[I" (.ref (g.2.1 2)) (fun q => g.1 ≤ q) s g.2.2.1 ∧
  ∀ i : Nat, i < 3 → g.2.1 i < g.1
theorem ew_k.moved {g : ew_G} {s U : State} (hW : s.WarmedH U.vm) (h : ew_k g s) : ew_k g U := by
  obtain ⟨h1, h2, ⟨kA, kC, comp, cc, a1, a2, a3, a4, a5, a6⟩, h4, h5, h6, h7, h8⟩ := h
  have hvm := hW.alike
  obtain ⟨kA', hkA', heA⟩ := hvm.2.2 _ _ a1
  obtain ⟨kC', hkC', heC⟩ := hvm.2.2 _ _ a4
  refine ⟨fun c q hq => u_Kn_moved hvm (h1 c q hq), fun w hw => ?_, ⟨kA', kC', comp, cc, hkA', by rw [heA]; exact a2, by rw [hvm.findClass]; exact a3, hkC', by rw [heC]; exact a5, by rw [hvm.findClass]; exact a6⟩, va_AO.moved hvm h4, h5.moved hvm, h6.moved hvm, h7.moved hvm, h8⟩
  have hn := (List.mem_filter.mp hw).2
  have hz := h2 w hw
  cases w <;> first | exact va_Nw.warmF hW hz | exact va_Nw.warmM hW hz | (simp [ew_isN] at hn; done)
theorem ew_at.moved {g : ew_G} {s U : State} {H : Heap} {M : ew_M} {i : Nat} {c : ew_S} (hvm : s.vm.Alike U.vm) (h : ew_at g s H M i c) : ew_at g U H M i c := by
  match c, h with
  | .inl n, ⟨ce, h1, h2, h3⟩ => exact ⟨ce, h1, State.isArrayOf_alike hvm h2, h3⟩
  | .inr (.inl _), h => exact h
  | .inr (.inr _), h => exact h
theorem ew_h.moved {g : ew_G} {s U : State} {sh : List ew_S} {M : ew_M} {H : Heap} (hvm : s.vm.Alike U.vm) (h : ew_h g s sh M H) : ew_h g U sh M H := ⟨h.1, h.2.1, fun i c hc => (h.2.2.1 i c hc).moved hvm, h.2.2.2⟩
def ew_x (g : ew_G) (m : ew_D) (p : Program) (s : State) (mid : MethodId) (args : Array Value) (meth : Method) (c : Code) : Prop :=
  p.tables.exec = Jvm.exec ∧ c.code = m.2.2.1 ∧ c.maxLocals = m.2.2.2.1 ∧ meth.sig.returnType = m.2.2.2.2 ∧ s.vm.findClass m.1 = some mid.cls ∧ (∀ w ∈ ew_tb, w.before args s = true) ∧ meth.locks = false ∧ meth.name = m.2.1.name ∧ ew_k g s
def ew_ir : Value → Bool
  | .int _ => true
  | .ref _ => true
  | _ => false
def ew_l (g : ew_G) (lr : Array Slot) (n : Nat) (ls : List Value) : Prop := lr.size = n ∧ ls.length = n ∧ lv_wf lr ∧ ∀ (i : Nat) (v : Value), ls[i]? = some v → ew_ir v = true → lr[i]? = some (.val (ew_v g v))
def ew_r (m : ew_D) (pc : Nat) : Option Value → Prop
  | none => m.2.2.2.2 = none ∧ decode m.2.2.1 pc = .ok (.return_, 1)
  | some (.int x) => decode m.2.2.1 pc = .ok (.ireturn, 1) ∧ (m.2.2.2.2 = some .int ∨ (m.2.2.2.2 = some .boolean ∧ (x = 0 ∨ x = 1)))
  | _ => False
/-- THE JUDGEMENT: from here the method comes to its end, with Q of its answer, the shapes and the memory; d calls deep at most, at most a cells of b slots new -/
def Ew (l : Launch) (g : ew_G) (d a b : Nat) (m : ew_D) (pc : Nat) (ls st : List Value) (sh : List ew_S) (M : ew_M) (Q : Option Value → List ew_S → ew_M → Prop) : Prop :=
  ∀ (p : Program) (e : Env) (R : Room) (s : State) (mid : MethodId) (args : Array Value) (below : List Frame) (meth : Method) (c : Code) (H : Heap) (locs : List Loc) (cells slots : Nat) (Z : State → Prop) (lr : Array Slot),
    ew_x g m p s mid args meth c → d ≤ R.frames → 28 * d ≤ R.locals → cells + a ≤ R.cells → slots + b ≤ R.slots → ew_h g s sh M H → (∀ q ∈ locs, g.1 ≤ q.base) → ew_l g lr m.2.2.2.1 ls →
    (∀ (v : Option Value) (sh' : List ew_S) (M' : ew_M) (H' : Heap) (locs' : List Loc) (pc' : Nat) (lr' : Array Slot), Q v sh' M' → ew_h g s sh' M' H' → (∀ q ∈ locs', g.1 ≤ q.base) → ew_r m pc' v →
      W p l e R s mid args below meth c H' locs' (cells + a) (slots + b) Z (F0 mid pc' lr' (v.toList.map (ew_v g)))) →
    W p l e R s mid args below meth c H locs cells slots Z (F0 mid pc lr (st.map (ew_v g)))
def ew_ls (g : ew_G) (ls : List Value) : List (Nat × Value) := (List.range ls.length).filterMap (fun i => match ls[i]? with
  | some v => if ew_ir v = true then some (i, ew_v g v) else none
  | none => none)
theorem ew_ls_mem {g : ew_G} {ls : List Value} {q : Nat × Value} : q ∈ ew_ls g ls ↔ ∃ v, ls[q.1]? = some v ∧ ew_ir v = true ∧ q.2 = ew_v g v := by
  unfold ew_ls
  rw [List.mem_filterMap]
  constructor
  · rintro ⟨i, hi, h⟩
    cases hv : ls[i]? with
    | none => rw [hv] at h; cases h
    | some v =>
      rw [hv] at h
      dsimp only at h
      by_cases hr : ew_ir v = true
      · rw [if_pos hr] at h
        cases h
        exact ⟨v, hv, hr, rfl⟩
      · rw [if_neg hr] at h
        cases h
  · rintro ⟨v, hv, hr, e⟩
    refine ⟨q.1, List.mem_range.mpr (List.getElem?_eq_some_iff.mp hv).1, ?_⟩
    rw [hv]
    dsimp only
    rw [if_pos hr, ← e]
theorem ew_l.has {g : ew_G} {lr : Array Slot} {n : Nat} {ls : List Value} (h : ew_l g lr n ls) : lv_has lr n (ew_ls g ls) := ⟨h.1, h.2.2.1, fun q hq => by
  obtain ⟨v, h1, h2, h3⟩ := ew_ls_mem.mp hq
  rw [h3]
  exact h.2.2.2 q.1 v h1 h2⟩
theorem ew_cat {g : ew_G} {v : Value} (h : ew_ir v = true) : (ew_v g v).category = 1 := by
  cases v <;> first | rfl | (simp [ew_ir] at h; done)
theorem ew_l.put {g : ew_G} {lr lr' : Array Slot} {n i : Nat} {ls : List Value} {w : Value} (h : ew_l g lr n ls) (h' : lv_has lr' n ((i, ew_v g w) :: (ew_ls g ls).filter (fun q => !(q.1 == i) && !(q.1 + 1 == i && q.2.category == 2)))) : ew_l g lr' n (ls.set i w) := by
  refine ⟨h'.1, by rw [List.length_set]; exact h.2.1, h'.2.1, fun j v hv hr => ?_⟩
  by_cases e : j = i
  · subst e
    have hj : j < ls.length := by
      have := (List.getElem?_eq_some_iff.mp hv).1
      rw [List.length_set] at this
      exact this
    rw [List.getElem?_set_self hj] at hv
    cases hv
    exact h'.2.2 (j, ew_v g w) List.mem_cons_self
  · rw [List.getElem?_set_ne (fun q => e q.symm)] at hv
    refine h'.2.2 (j, ew_v g v) (List.mem_cons_of_mem _ (List.mem_filter.mpr ⟨ew_ls_mem.mpr ⟨v, hv, hr, rfl⟩, ?_⟩))
    have hc : (ew_v g v).category = 1 := ew_cat hr
    simp [e, hc]
theorem ew_l.at {g : ew_G} {lr : Array Slot} {n i : Nat} {ls : List Value} {v : Value} (h : ew_l g lr n ls) (hv : ls[i]? = some v) (hr : ew_ir v = true) : lr[i]? = some (.val (ew_v g v)) := h.2.2.2 i v hv hr
end
section
section EWR
variable {l : Launch} {g : ew_G} {d a b : Nat} {m : ew_D} {pc : Nat} {ls st : List Value} {sh : List ew_S} {M : ew_M} {Q : Option Value → List ew_S → ew_M → Prop}
theorem ew_iconst {n : Int} {v : Int32} (hd : decode m.2.2.1 pc = .ok (.iconst n, 1)) (hv : Int32.ofInt n = v) (k : Ew l g d a b m (pc + 1) ls (.int v :: st) sh M Q) : Ew l g d a b m pc ls (st) sh M Q := by
  intro p e R s mid args below meth c H locs cells slots Z lr X h1 h2 h3 h4 hH hlo hL hr
  exact lv_iconst X.1 X.2.1 hd hv (k p e R s mid args below meth c H locs cells slots Z lr X h1 h2 h3 h4 hH hlo hL hr)
theorem ew_bipush {n : Int} {v : Int32} (hd : decode m.2.2.1 pc = .ok (.bipush n, 2)) (hv : (Int8.ofInt n).toInt32 = v) (k : Ew l g d a b m (pc + 2) ls (.int v :: st) sh M Q) : Ew l g d a b m pc ls (st) sh M Q := by
  intro p e R s mid args below meth c H locs cells slots Z lr X h1 h2 h3 h4 hH hlo hL hr
  exact lv_bipush X.1 X.2.1 hd hv (k p e R s mid args below meth c H locs cells slots Z lr X h1 h2 h3 h4 hH hlo hL hr)
theorem ew_sipush {n : Int} {v : Int32} (hd : decode m.2.2.1 pc = .ok (.sipush n, 3)) (hv : (Int16.ofInt n).toInt32 = v) (k : Ew l g d a b m (pc + 3) ls (.int v :: st) sh M Q) : Ew l g d a b m pc ls (st) sh M Q := by
  intro p e R s mid args below meth c H locs cells slots Z lr X h1 h2 h3 h4 hH hlo hL hr
  exact lv_sipush X.1 X.2.1 hd hv (k p e R s mid args below meth c H locs cells slots Z lr X h1 h2 h3 h4 hH hlo hL hr)
theorem ew_ldc {i : Nat} {v : Int32} (hd : decode m.2.2.1 pc = .ok (.ldc i, 2)) (hc : Jvm.Cond.constant m.1 i v ∈ ew_tb) (k : Ew l g d a b m (pc + 2) ls (.int v :: st) sh M Q) : Ew l g d a b m pc ls (st) sh M Q := by
  intro p e R s mid args below meth c H locs cells slots Z lr X h1 h2 h3 h4 hH hlo hL hr
  exact lv_ldc X.1 X.2.1 X.2.2.2.2.1 (X.2.2.2.2.2.1 _ hc) hd (k p e R s mid args below meth c H locs cells slots Z lr X h1 h2 h3 h4 hH hlo hL hr)
theorem ew_iload_n {i : Fin 4} {x : Int32} (hd : decode m.2.2.1 pc = .ok (.iload_n i, 1)) (hl : ls[i.val]? = some (.int x)) (k : Ew l g d a b m (pc + 1) ls (.int x :: st) sh M Q) : Ew l g d a b m pc ls (st) sh M Q := by
  intro p e R s mid args below meth c H locs cells slots Z lr X h1 h2 h3 h4 hH hlo hL hr
  exact lv_iload_n X.1 X.2.1 hd rfl (hL.at hl rfl) (k p e R s mid args below meth c H locs cells slots Z lr X h1 h2 h3 h4 hH hlo hL hr)
theorem ew_iload {i : Nat} {x : Int32} (hd : decode m.2.2.1 pc = .ok (.iload i, 2)) (hl : ls[i]? = some (.int x)) (k : Ew l g d a b m (pc + 2) ls (.int x :: st) sh M Q) : Ew l g d a b m pc ls (st) sh M Q := by
  intro p e R s mid args below meth c H locs cells slots Z lr X h1 h2 h3 h4 hH hlo hL hr
  exact lv_iload X.1 X.2.1 hd (hL.at hl rfl) (k p e R s mid args below meth c H locs cells slots Z lr X h1 h2 h3 h4 hH hlo hL hr)
theorem ew_aload_n {i : Fin 4} {x : Nat} (hd : decode m.2.2.1 pc = .ok (.aload_n i, 1)) (hl : ls[i.val]? = some (.ref x)) (k : Ew l g d a b m (pc + 1) ls (.ref x :: st) sh M Q) : Ew l g d a b m pc ls (st) sh M Q := by
  intro p e R s mid args below meth c H locs cells slots Z lr X h1 h2 h3 h4 hH hlo hL hr
  exact lv_aload_n X.1 X.2.1 hd rfl (hL.at hl rfl) (k p e R s mid args below meth c H locs cells slots Z lr X h1 h2 h3 h4 hH hlo hL hr)
theorem ew_aload {i : Nat} {x : Nat} (hd : decode m.2.2.1 pc = .ok (.aload i, 2)) (hl : ls[i]? = some (.ref x)) (k : Ew l g d a b m (pc + 2) ls (.ref x :: st) sh M Q) : Ew l g d a b m pc ls (st) sh M Q := by
  intro p e R s mid args below meth c H locs cells slots Z lr X h1 h2 h3 h4 hH hlo hL hr
  exact lv_aload X.1 X.2.1 hd (hL.at hl rfl) (k p e R s mid args below meth c H locs cells slots Z lr X h1 h2 h3 h4 hH hlo hL hr)
theorem ew_iadd {x y : Int32} (hd : decode m.2.2.1 pc = .ok (.iadd, 1)) (k : Ew l g d a b m (pc + 1) ls (.int (x + y) :: st) sh M Q) : Ew l g d a b m pc ls (.int y :: .int x :: st) sh M Q := by
  intro p e R s mid args below meth c H locs cells slots Z lr X h1 h2 h3 h4 hH hlo hL hr
  exact lv_iadd X.1 X.2.1 hd (k p e R s mid args below meth c H locs cells slots Z lr X h1 h2 h3 h4 hH hlo hL hr)
theorem ew_isub {x y : Int32} (hd : decode m.2.2.1 pc = .ok (.isub, 1)) (k : Ew l g d a b m (pc + 1) ls (.int (x - y) :: st) sh M Q) : Ew l g d a b m pc ls (.int y :: .int x :: st) sh M Q := by
  intro p e R s mid args below meth c H locs cells slots Z lr X h1 h2 h3 h4 hH hlo hL hr
  exact lv_isub X.1 X.2.1 hd (k p e R s mid args below meth c H locs cells slots Z lr X h1 h2 h3 h4 hH hlo hL hr)
theorem ew_imul {x y : Int32} (hd : decode m.2.2.1 pc = .ok (.imul, 1)) (k : Ew l g d a b m (pc + 1) ls (.int (x * y) :: st) sh M Q) : Ew l g d a b m pc ls (.int y :: .int x :: st) sh M Q := by
  intro p e R s mid args below meth c H locs cells slots Z lr X h1 h2 h3 h4 hH hlo hL hr
  exact lv_imul X.1 X.2.1 hd (k p e R s mid args below meth c H locs cells slots Z lr X h1 h2 h3 h4 hH hlo hL hr)
theorem ew_iand {x y : Int32} (hd : decode m.2.2.1 pc = .ok (.iand, 1)) (k : Ew l g d a b m (pc + 1) ls (.int (x &&& y) :: st) sh M Q) : Ew l g d a b m pc ls (.int y :: .int x :: st) sh M Q := by
  intro p e R s mid args below meth c H locs cells slots Z lr X h1 h2 h3 h4 hH hlo hL hr
  exact lv_iand X.1 X.2.1 hd (k p e R s mid args below meth c H locs cells slots Z lr X h1 h2 h3 h4 hH hlo hL hr)
theorem ew_ior {x y : Int32} (hd : decode m.2.2.1 pc = .ok (.ior, 1)) (k : Ew l g d a b m (pc + 1) ls (.int (x ||| y) :: st) sh M Q) : Ew l g d a b m pc ls (.int y :: .int x :: st) sh M Q := by
  intro p e R s mid args below meth c H locs cells slots Z lr X h1 h2 h3 h4 hH hlo hL hr
  exact lv_ior X.1 X.2.1 hd (k p e R s mid args below meth c H locs cells slots Z lr X h1 h2 h3 h4 hH hlo hL hr)
theorem ew_ixor {x y : Int32} (hd : decode m.2.2.1 pc = .ok (.ixor, 1)) (k : Ew l g d a b m (pc + 1) ls (.int (x ^^^ y) :: st) sh M Q) : Ew l g d a b m pc ls (.int y :: .int x :: st) sh M Q := by
  intro p e R s mid args below meth c H locs cells slots Z lr X h1 h2 h3 h4 hH hlo hL hr
  exact lv_ixor X.1 X.2.1 hd (k p e R s mid args below meth c H locs cells slots Z lr X h1 h2 h3 h4 hH hlo hL hr)
theorem ew_ishl {x y : Int32} (hd : decode m.2.2.1 pc = .ok (.ishl, 1)) (k : Ew l g d a b m (pc + 1) ls (.int (x <<< (y &&& 31)) :: st) sh M Q) : Ew l g d a b m pc ls (.int y :: .int x :: st) sh M Q := by
  intro p e R s mid args below meth c H locs cells slots Z lr X h1 h2 h3 h4 hH hlo hL hr
  exact lv_ishl X.1 X.2.1 hd (k p e R s mid args below meth c H locs cells slots Z lr X h1 h2 h3 h4 hH hlo hL hr)
theorem ew_ishr {x y : Int32} (hd : decode m.2.2.1 pc = .ok (.ishr, 1)) (k : Ew l g d a b m (pc + 1) ls (.int (x >>> (y &&& 31)) :: st) sh M Q) : Ew l g d a b m pc ls (.int y :: .int x :: st) sh M Q := by
  intro p e R s mid args below meth c H locs cells slots Z lr X h1 h2 h3 h4 hH hlo hL hr
  exact lv_ishr X.1 X.2.1 hd (k p e R s mid args below meth c H locs cells slots Z lr X h1 h2 h3 h4 hH hlo hL hr)
theorem ew_iushr {x y : Int32} (hd : decode m.2.2.1 pc = .ok (.iushr, 1)) (k : Ew l g d a b m (pc + 1) ls (.int (x.toUInt32 >>> (y.toUInt32 &&& Int32.toUInt32 31)).toInt32 :: st) sh M Q) : Ew l g d a b m pc ls (.int y :: .int x :: st) sh M Q := by
  intro p e R s mid args below meth c H locs cells slots Z lr X h1 h2 h3 h4 hH hlo hL hr
  exact lv_iushr X.1 X.2.1 hd rfl (k p e R s mid args below meth c H locs cells slots Z lr X h1 h2 h3 h4 hH hlo hL hr)
theorem ew_idiv {x y : Int32} (hd : decode m.2.2.1 pc = .ok (.idiv, 1)) (hne : ¬ y = 0) (k : Ew l g d a b m (pc + 1) ls (.int (x / y) :: st) sh M Q) : Ew l g d a b m pc ls (.int y :: .int x :: st) sh M Q := by
  intro p e R s mid args below meth c H locs cells slots Z lr X h1 h2 h3 h4 hH hlo hL hr
  exact lv_idiv X.1 X.2.1 hd hne (k p e R s mid args below meth c H locs cells slots Z lr X h1 h2 h3 h4 hH hlo hL hr)
theorem ew_irem {x y : Int32} (hd : decode m.2.2.1 pc = .ok (.irem, 1)) (hne : ¬ y = 0) (k : Ew l g d a b m (pc + 1) ls (.int (x - x / y * y) :: st) sh M Q) : Ew l g d a b m pc ls (.int y :: .int x :: st) sh M Q := by
  intro p e R s mid args below meth c H locs cells slots Z lr X h1 h2 h3 h4 hH hlo hL hr
  exact lv_irem X.1 X.2.1 hd hne (k p e R s mid args below meth c H locs cells slots Z lr X h1 h2 h3 h4 hH hlo hL hr)
theorem ew_ineg {x : Int32} (hd : decode m.2.2.1 pc = .ok (.ineg, 1)) (k : Ew l g d a b m (pc + 1) ls (.int (-x) :: st) sh M Q) : Ew l g d a b m pc ls (.int x :: st) sh M Q := by
  intro p e R s mid args below meth c H locs cells slots Z lr X h1 h2 h3 h4 hH hlo hL hr
  exact lv_ineg X.1 X.2.1 hd (k p e R s mid args below meth c H locs cells slots Z lr X h1 h2 h3 h4 hH hlo hL hr)
theorem ew_dupi {x : Int32} (hd : decode m.2.2.1 pc = .ok (.dup, 1)) (k : Ew l g d a b m (pc + 1) ls (.int x :: .int x :: st) sh M Q) : Ew l g d a b m pc ls (.int x :: st) sh M Q := by
  intro p e R s mid args below meth c H locs cells slots Z lr X h1 h2 h3 h4 hH hlo hL hr
  exact lv_dup X.1 X.2.1 hd rfl (k p e R s mid args below meth c H locs cells slots Z lr X h1 h2 h3 h4 hH hlo hL hr)
theorem ew_dupr {x : Nat} (hd : decode m.2.2.1 pc = .ok (.dup, 1)) (k : Ew l g d a b m (pc + 1) ls (.ref x :: .ref x :: st) sh M Q) : Ew l g d a b m pc ls (.ref x :: st) sh M Q := by
  intro p e R s mid args below meth c H locs cells slots Z lr X h1 h2 h3 h4 hH hlo hL hr
  exact lv_dup X.1 X.2.1 hd rfl (k p e R s mid args below meth c H locs cells slots Z lr X h1 h2 h3 h4 hH hlo hL hr)
theorem ew_dup2 {x : Int32} {r : Nat} (hd : decode m.2.2.1 pc = .ok (.dup2, 1)) (k : Ew l g d a b m (pc + 1) ls (.int x :: .ref r :: .int x :: .ref r :: st) sh M Q) : Ew l g d a b m pc ls (.int x :: .ref r :: st) sh M Q := by
  intro p e R s mid args below meth c H locs cells slots Z lr X h1 h2 h3 h4 hH hlo hL hr
  exact lv_dup2_11 X.1 X.2.1 hd rfl rfl (k p e R s mid args below meth c H locs cells slots Z lr X h1 h2 h3 h4 hH hlo hL hr)
theorem ew_popi {x : Int32} (hd : decode m.2.2.1 pc = .ok (.pop, 1)) (k : Ew l g d a b m (pc + 1) ls (st) sh M Q) : Ew l g d a b m pc ls (.int x :: st) sh M Q := by
  intro p e R s mid args below meth c H locs cells slots Z lr X h1 h2 h3 h4 hH hlo hL hr
  exact lv_pop X.1 X.2.1 hd rfl (k p e R s mid args below meth c H locs cells slots Z lr X h1 h2 h3 h4 hH hlo hL hr)
theorem ew_goto {off : Int} {tgt : Nat} (hd : decode m.2.2.1 pc = .ok (.goto off, 3)) (ht : (pc : Int) + off = (tgt : Int)) (k : Ew l g d a b m tgt ls st sh M Q) : Ew l g d a b m pc ls st sh M Q := by
  intro p e R s mid args below meth c H locs cells slots Z lr X h1 h2 h3 h4 hH hlo hL hr
  exact lv_goto X.1 X.2.1 hd ht (k p e R s mid args below meth c H locs cells slots Z lr X h1 h2 h3 h4 hH hlo hL hr)
theorem ew_istore_n {i : Fin 4} {x : Int32} (hd : decode m.2.2.1 pc = .ok (.istore_n i, 1)) (hi : i.val < ls.length) (k : Ew l g d a b m (pc + 1) (ls.set i.val (.int x)) st sh M Q) : Ew l g d a b m pc ls (.int x :: st) sh M Q := by
  intro p e R s mid args below meth c H locs cells slots Z lr X h1 h2 h3 h4 hH hlo hL hr
  exact lv_istore_n X.1 X.2.1 hd rfl hL.has (by rw [← hL.2.1]; exact hi) rfl (fun lr' hL' => k p e R s mid args below meth c H locs cells slots Z lr' X h1 h2 h3 h4 hH hlo (hL.put (w := .int x) hL') hr)
theorem ew_istore {i : Nat} {x : Int32} (hd : decode m.2.2.1 pc = .ok (.istore i, 2)) (hi : i < ls.length) (k : Ew l g d a b m (pc + 2) (ls.set i (.int x)) st sh M Q) : Ew l g d a b m pc ls (.int x :: st) sh M Q := by
  intro p e R s mid args below meth c H locs cells slots Z lr X h1 h2 h3 h4 hH hlo hL hr
  exact lv_istore X.1 X.2.1 hd hL.has (by rw [← hL.2.1]; exact hi) rfl (fun lr' hL' => k p e R s mid args below meth c H locs cells slots Z lr' X h1 h2 h3 h4 hH hlo (hL.put (w := .int x) hL') hr)
theorem ew_astore_n {i : Fin 4} {x : Nat} (hd : decode m.2.2.1 pc = .ok (.astore_n i, 1)) (hi : i.val < ls.length) (k : Ew l g d a b m (pc + 1) (ls.set i.val (.ref x)) st sh M Q) : Ew l g d a b m pc ls (.ref x :: st) sh M Q := by
  intro p e R s mid args below meth c H locs cells slots Z lr X h1 h2 h3 h4 hH hlo hL hr
  exact lv_astore_n X.1 X.2.1 hd rfl hL.has (by rw [← hL.2.1]; exact hi) rfl (fun lr' hL' => k p e R s mid args below meth c H locs cells slots Z lr' X h1 h2 h3 h4 hH hlo (hL.put (w := .ref x) hL') hr)
theorem ew_astore {i : Nat} {x : Nat} (hd : decode m.2.2.1 pc = .ok (.astore i, 2)) (hi : i < ls.length) (k : Ew l g d a b m (pc + 2) (ls.set i (.ref x)) st sh M Q) : Ew l g d a b m pc ls (.ref x :: st) sh M Q := by
  intro p e R s mid args below meth c H locs cells slots Z lr X h1 h2 h3 h4 hH hlo hL hr
  exact lv_astore X.1 X.2.1 hd hL.has (by rw [← hL.2.1]; exact hi) rfl (fun lr' hL' => k p e R s mid args below meth c H locs cells slots Z lr' X h1 h2 h3 h4 hH hlo (hL.put (w := .ref x) hL') hr)
theorem ew_iinc {i : Nat} {n : Int} {x v : Int32} (hd : decode m.2.2.1 pc = .ok (.iinc i n, 3)) (hl : ls[i]? = some (.int x)) (hv : x + Int32.ofInt n = v) (k : Ew l g d a b m (pc + 3) (ls.set i (.int v)) st sh M Q) : Ew l g d a b m pc ls st sh M Q := by
  intro p e R s mid args below meth c H locs cells slots Z lr X h1 h2 h3 h4 hH hlo hL hr
  have hi : i < ls.length := (List.getElem?_eq_some_iff.mp hl).1
  obtain ⟨j, hj⟩ := List.getElem?_of_mem (ew_ls_mem.mpr ⟨Value.int x, hl, rfl, rfl⟩ : (i, ew_v g (.int x)) ∈ ew_ls g ls)
  exact lv_iinc X.1 X.2.1 hd hL.has hj hv (by rw [← hL.2.1]; exact hi) rfl (fun lr' hL' => k p e R s mid args below meth c H locs cells slots Z lr' X h1 h2 h3 h4 hH hlo (hL.put (w := .int v) hL') hr)
theorem ew_if_eq {x : Int32} {off : Int} {tgt : Nat} (hd : decode m.2.2.1 pc = .ok (.ifCond .eq off, 3)) (ht : (pc : Int) + off = (tgt : Int)) (kt : x = 0 → Ew l g d a b m tgt ls st sh M Q) (kf : ¬ x = 0 → Ew l g d a b m (pc + 3) ls st sh M Q) : Ew l g d a b m pc ls (.int x :: st) sh M Q := by
  intro p e R s mid args below meth c H locs cells slots Z lr X h1 h2 h3 h4 hH hlo hL hr
  exact lv_if_eq X.1 X.2.1 hd ht (fun q => kt q p e R s mid args below meth c H locs cells slots Z lr X h1 h2 h3 h4 hH hlo hL hr) (fun q => kf q p e R s mid args below meth c H locs cells slots Z lr X h1 h2 h3 h4 hH hlo hL hr)
theorem ew_icmp_eq {x y : Int32} {off : Int} {tgt : Nat} (hd : decode m.2.2.1 pc = .ok (.if_icmp .eq off, 3)) (ht : (pc : Int) + off = (tgt : Int)) (kt : x = y → Ew l g d a b m tgt ls st sh M Q) (kf : ¬ x = y → Ew l g d a b m (pc + 3) ls st sh M Q) : Ew l g d a b m pc ls (.int y :: .int x :: st) sh M Q := by
  intro p e R s mid args below meth c H locs cells slots Z lr X h1 h2 h3 h4 hH hlo hL hr
  exact lv_icmp_eq X.1 X.2.1 hd ht (fun q => kt q p e R s mid args below meth c H locs cells slots Z lr X h1 h2 h3 h4 hH hlo hL hr) (fun q => kf q p e R s mid args below meth c H locs cells slots Z lr X h1 h2 h3 h4 hH hlo hL hr)
theorem ew_if_ne {x : Int32} {off : Int} {tgt : Nat} (hd : decode m.2.2.1 pc = .ok (.ifCond .ne off, 3)) (ht : (pc : Int) + off = (tgt : Int)) (kt : ¬ x = 0 → Ew l g d a b m tgt ls st sh M Q) (kf : x = 0 → Ew l g d a b m (pc + 3) ls st sh M Q) : Ew l g d a b m pc ls (.int x :: st) sh M Q := by
  intro p e R s mid args below meth c H locs cells slots Z lr X h1 h2 h3 h4 hH hlo hL hr
  exact lv_if_ne X.1 X.2.1 hd ht (fun q => kt q p e R s mid args below meth c H locs cells slots Z lr X h1 h2 h3 h4 hH hlo hL hr) (fun q => kf q p e R s mid args below meth c H locs cells slots Z lr X h1 h2 h3 h4 hH hlo hL hr)
theorem ew_icmp_ne {x y : Int32} {off : Int} {tgt : Nat} (hd : decode m.2.2.1 pc = .ok (.if_icmp .ne off, 3)) (ht : (pc : Int) + off = (tgt : Int)) (kt : ¬ x = y → Ew l g d a b m tgt ls st sh M Q) (kf : x = y → Ew l g d a b m (pc + 3) ls st sh M Q) : Ew l g d a b m pc ls (.int y :: .int x :: st) sh M Q := by
  intro p e R s mid args below meth c H locs cells slots Z lr X h1 h2 h3 h4 hH hlo hL hr
  exact lv_icmp_ne X.1 X.2.1 hd ht (fun q => kt q p e R s mid args below meth c H locs cells slots Z lr X h1 h2 h3 h4 hH hlo hL hr) (fun q => kf q p e R s mid args below meth c H locs cells slots Z lr X h1 h2 h3 h4 hH hlo hL hr)
theorem ew_if_lt {x : Int32} {off : Int} {tgt : Nat} (hd : decode m.2.2.1 pc = .ok (.ifCond .lt off, 3)) (ht : (pc : Int) + off = (tgt : Int)) (kt : x < 0 → Ew l g d a b m tgt ls st sh M Q) (kf : ¬ x < 0 → Ew l g d a b m (pc + 3) ls st sh M Q) : Ew l g d a b m pc ls (.int x :: st) sh M Q := by
  intro p e R s mid args below meth c H locs cells slots Z lr X h1 h2 h3 h4 hH hlo hL hr
  exact lv_if_lt X.1 X.2.1 hd ht (fun q => kt q p e R s mid args below meth c H locs cells slots Z lr X h1 h2 h3 h4 hH hlo hL hr) (fun q => kf q p e R s mid args below meth c H locs cells slots Z lr X h1 h2 h3 h4 hH hlo hL hr)
theorem ew_icmp_lt {x y : Int32} {off : Int} {tgt : Nat} (hd : decode m.2.2.1 pc = .ok (.if_icmp .lt off, 3)) (ht : (pc : Int) + off = (tgt : Int)) (kt : x < y → Ew l g d a b m tgt ls st sh M Q) (kf : ¬ x < y → Ew l g d a b m (pc + 3) ls st sh M Q) : Ew l g d a b m pc ls (.int y :: .int x :: st) sh M Q := by
  intro p e R s mid args below meth c H locs cells slots Z lr X h1 h2 h3 h4 hH hlo hL hr
  exact lv_icmp_lt X.1 X.2.1 hd ht (fun q => kt q p e R s mid args below meth c H locs cells slots Z lr X h1 h2 h3 h4 hH hlo hL hr) (fun q => kf q p e R s mid args below meth c H locs cells slots Z lr X h1 h2 h3 h4 hH hlo hL hr)
theorem ew_if_ge {x : Int32} {off : Int} {tgt : Nat} (hd : decode m.2.2.1 pc = .ok (.ifCond .ge off, 3)) (ht : (pc : Int) + off = (tgt : Int)) (kt : 0 ≤ x → Ew l g d a b m tgt ls st sh M Q) (kf : ¬ 0 ≤ x → Ew l g d a b m (pc + 3) ls st sh M Q) : Ew l g d a b m pc ls (.int x :: st) sh M Q := by
  intro p e R s mid args below meth c H locs cells slots Z lr X h1 h2 h3 h4 hH hlo hL hr
  exact lv_if_ge X.1 X.2.1 hd ht (fun q => kt q p e R s mid args below meth c H locs cells slots Z lr X h1 h2 h3 h4 hH hlo hL hr) (fun q => kf q p e R s mid args below meth c H locs cells slots Z lr X h1 h2 h3 h4 hH hlo hL hr)
theorem ew_icmp_ge {x y : Int32} {off : Int} {tgt : Nat} (hd : decode m.2.2.1 pc = .ok (.if_icmp .ge off, 3)) (ht : (pc : Int) + off = (tgt : Int)) (kt : y ≤ x → Ew l g d a b m tgt ls st sh M Q) (kf : ¬ y ≤ x → Ew l g d a b m (pc + 3) ls st sh M Q) : Ew l g d a b m pc ls (.int y :: .int x :: st) sh M Q := by
  intro p e R s mid args below meth c H locs cells slots Z lr X h1 h2 h3 h4 hH hlo hL hr
  exact lv_icmp_ge X.1 X.2.1 hd ht (fun q => kt q p e R s mid args below meth c H locs cells slots Z lr X h1 h2 h3 h4 hH hlo hL hr) (fun q => kf q p e R s mid args below meth c H locs cells slots Z lr X h1 h2 h3 h4 hH hlo hL hr)
theorem ew_if_gt {x : Int32} {off : Int} {tgt : Nat} (hd : decode m.2.2.1 pc = .ok (.ifCond .gt off, 3)) (ht : (pc : Int) + off = (tgt : Int)) (kt : 0 < x → Ew l g d a b m tgt ls st sh M Q) (kf : ¬ 0 < x → Ew l g d a b m (pc + 3) ls st sh M Q) : Ew l g d a b m pc ls (.int x :: st) sh M Q := by
  intro p e R s mid args below meth c H locs cells slots Z lr X h1 h2 h3 h4 hH hlo hL hr
  exact lv_if_gt X.1 X.2.1 hd ht (fun q => kt q p e R s mid args below meth c H locs cells slots Z lr X h1 h2 h3 h4 hH hlo hL hr) (fun q => kf q p e R s mid args below meth c H locs cells slots Z lr X h1 h2 h3 h4 hH hlo hL hr)
theorem ew_icmp_gt {x y : Int32} {off : Int} {tgt : Nat} (hd : decode m.2.2.1 pc = .ok (.if_icmp .gt off, 3)) (ht : (pc : Int) + off = (tgt : Int)) (kt : y < x → Ew l g d a b m tgt ls st sh M Q) (kf : ¬ y < x → Ew l g d a b m (pc + 3) ls st sh M Q) : Ew l g d a b m pc ls (.int y :: .int x :: st) sh M Q := by
  intro p e R s mid args below meth c H locs cells slots Z lr X h1 h2 h3 h4 hH hlo hL hr
  exact lv_icmp_gt X.1 X.2.1 hd ht (fun q => kt q p e R s mid args below meth c H locs cells slots Z lr X h1 h2 h3 h4 hH hlo hL hr) (fun q => kf q p e R s mid args below meth c H locs cells slots Z lr X h1 h2 h3 h4 hH hlo hL hr)
theorem ew_if_le {x : Int32} {off : Int} {tgt : Nat} (hd : decode m.2.2.1 pc = .ok (.ifCond .le off, 3)) (ht : (pc : Int) + off = (tgt : Int)) (kt : x ≤ 0 → Ew l g d a b m tgt ls st sh M Q) (kf : ¬ x ≤ 0 → Ew l g d a b m (pc + 3) ls st sh M Q) : Ew l g d a b m pc ls (.int x :: st) sh M Q := by
  intro p e R s mid args below meth c H locs cells slots Z lr X h1 h2 h3 h4 hH hlo hL hr
  exact lv_if_le X.1 X.2.1 hd ht (fun q => kt q p e R s mid args below meth c H locs cells slots Z lr X h1 h2 h3 h4 hH hlo hL hr) (fun q => kf q p e R s mid args below meth c H locs cells slots Z lr X h1 h2 h3 h4 hH hlo hL hr)
theorem ew_icmp_le {x y : Int32} {off : Int} {tgt : Nat} (hd : decode m.2.2.1 pc = .ok (.if_icmp .le off, 3)) (ht : (pc : Int) + off = (tgt : Int)) (kt : x ≤ y → Ew l g d a b m tgt ls st sh M Q) (kf : ¬ x ≤ y → Ew l g d a b m (pc + 3) ls st sh M Q) : Ew l g d a b m pc ls (.int y :: .int x :: st) sh M Q := by
  intro p e R s mid args below meth c H locs cells slots Z lr X h1 h2 h3 h4 hH hlo hL hr
  exact lv_icmp_le X.1 X.2.1 hd ht (fun q => kt q p e R s mid args below meth c H locs cells slots Z lr X h1 h2 h3 h4 hH hlo hL hr) (fun q => kf q p e R s mid args below meth c H locs cells slots Z lr X h1 h2 h3 h4 hH hlo hL hr)
theorem ew_swOut {x : Int32} {df lo hi : Int} {offs : Array Int} {len tgt : Nat} (hd : decode m.2.2.1 pc = .ok (.tableswitch df lo hi offs, len)) (h : x.toInt < lo ∨ hi < x.toInt) (ht : (pc : Int) + df = (tgt : Int)) (k : Ew l g d a b m tgt ls st sh M Q) : Ew l g d a b m pc ls (.int x :: st) sh M Q := by
  intro p e R s mid args below meth c H locs cells slots Z lr X h1 h2 h3 h4 hH hlo hL hr
  exact lv_tableOut X.1 X.2.1 hd h ht (k p e R s mid args below meth c H locs cells slots Z lr X h1 h2 h3 h4 hH hlo hL hr)
theorem ew_swIn {x : Int32} {df lo hi off : Int} {offs : Array Int} {len tgt : Nat} (hd : decode m.2.2.1 pc = .ok (.tableswitch df lo hi offs, len)) (hA : ¬ x.toInt < lo) (hB : ¬ hi < x.toInt) (ho : offs[(x.toInt - lo).toNat]? = some off) (ht : (pc : Int) + off = (tgt : Int)) (k : Ew l g d a b m tgt ls st sh M Q) : Ew l g d a b m pc ls (.int x :: st) sh M Q := by
  intro p e R s mid args below meth c H locs cells slots Z lr X h1 h2 h3 h4 hH hlo hL hr
  exact lv_tableIn X.1 X.2.1 hd hA hB ho ht (k p e R s mid args below meth c H locs cells slots Z lr X h1 h2 h3 h4 hH hlo hL hr)
theorem ew_ret (hd : decode m.2.2.1 pc = .ok (.return_, 1)) (hm : m.2.2.2.2 = none) (hq : Q none sh M) : Ew l g d a b m pc ls [] sh M Q := by
  intro p e R s mid args below meth c H locs cells slots Z lr X h1 h2 h3 h4 hH hlo hL hr
  refine W.widen (Nat.le_add_right cells a) (Nat.le_add_right slots b) ?_
  exact hr none sh M H locs pc lr hq hH hlo ⟨hm, hd⟩
theorem ew_iret {x : Int32} (hd : decode m.2.2.1 pc = .ok (.ireturn, 1)) (hm : m.2.2.2.2 = some .int) (hq : Q (some (.int x)) sh M) : Ew l g d a b m pc ls [.int x] sh M Q := by
  intro p e R s mid args below meth c H locs cells slots Z lr X h1 h2 h3 h4 hH hlo hL hr
  refine W.widen (Nat.le_add_right cells a) (Nat.le_add_right slots b) ?_
  exact hr (some (.int x)) sh M H locs pc lr hq hH hlo ⟨hd, Or.inl hm⟩
theorem ew_zret {x : Int32} (hd : decode m.2.2.1 pc = .ok (.ireturn, 1)) (hm : m.2.2.2.2 = some .boolean) (hx : x = 0 ∨ x = 1) (hq : Q (some (.int x)) sh M) : Ew l g d a b m pc ls [.int x] sh M Q := by
  intro p e R s mid args below meth c H locs cells slots Z lr X h1 h2 h3 h4 hH hlo hL hr
  refine W.widen (Nat.le_add_right cells a) (Nat.le_add_right slots b) ?_
  exact hr (some (.int x)) sh M H locs pc lr hq hH hlo ⟨hd, Or.inr ⟨hm, hx⟩⟩
theorem ew_mono {Q' : Option Value → List ew_S → ew_M → Prop} (h : Ew l g d a b m pc ls st sh M Q') (hq : ∀ v sh' M', Q' v sh' M' → Q v sh' M') : Ew l g d a b m pc ls st sh M Q := by
  intro p e R s mid args below meth c H locs cells slots Z lr X h1 h2 h3 h4 hH hlo hL hr
  exact h p e R s mid args below meth c H locs cells slots Z lr X h1 h2 h3 h4 hH hlo hL (fun v sh' M' H' locs' pc' lr' q => hr v sh' M' H' locs' pc' lr' (hq v sh' M' q))
theorem ew_room {a' b' : Nat} (ha : a ≤ a') (hb : b ≤ b') (h : Ew l g d a b m pc ls st sh M Q) : Ew l g d a' b' m pc ls st sh M Q := by
  intro p e R s mid args below meth c H locs cells slots Z lr X h1 h2 h3 h4 hH hlo hL hr
  refine h p e R s mid args below meth c H locs cells slots Z lr X h1 h2 (by omega) (by omega) hH hlo hL (fun v sh' M' H' locs' pc' lr' q r w z => ?_)
  exact W.widen (by omega) (by omega) (hr v sh' M' H' locs' pc' lr' q r w z)
theorem ew_depth {d' : Nat} (hd : d ≤ d') (h : Ew l g d a b m pc ls st sh M Q) : Ew l g d' a b m pc ls st sh M Q := by
  intro p e R s mid args below meth c H locs cells slots Z lr X h1 h2 h3 h4 hH hlo hL hr
  exact h p e R s mid args below meth c H locs cells slots Z lr X (by omega) (by omega) h3 h4 hH hlo hL hr
end EWR
end
section
/-! rows that touch the heap -/
theorem ew_ad_ge {g : ew_G} {i : Nat} (h : 3 ≤ i) : g.1 ≤ ew_ad g i := by
  unfold ew_ad
  rw [if_neg (by omega)]
  omega
theorem ew_ad_inj {g : ew_G} {i j : Nat} (hs : ∀ i : Nat, i < 3 → g.2.1 i < g.1) (hi : 3 ≤ i) (h : ew_ad g i = ew_ad g j) : i = j := by
  unfold ew_ad at h
  rw [if_neg (by omega)] at h
  by_cases hj : j < 3
  · rw [if_pos hj] at h
    have := hs j hj
    omega
  · rw [if_neg hj] at h
    omega
def ew_up (M : ew_M) (i : Nat) (f : Nat → Int32) : ew_M := fun q => if q = i then f else M q
theorem ew_up_self {M : ew_M} {i : Nat} {f : Nat → Int32} : ew_up M i f i = f := if_pos rfl
theorem ew_up_ne {M : ew_M} {i q : Nat} {f : Nat → Int32} (h : q ≠ i) : ew_up M i f q = M q := if_neg h
/-- M with one int written -/
def ew_w (M : ew_M) (i j : Nat) (x : Int32) : ew_M := ew_up M i (upd (M i) j x)
theorem ew_w_ne {M : ew_M} {i j q : Nat} {x : Int32} (h : q ≠ i) : ew_w M i j x q = M q := ew_up_ne h
theorem ew_w_self {M : ew_M} {i j : Nat} {x : Int32} : ew_w M i j x i = upd (M i) j x := ew_up_self
theorem ew_at.kept {g : ew_G} {s : State} {H H' : Heap} {M M' : ew_M} {i : Nat} {c : ew_S} (h : ew_at g s H M i c) (hq : H'[ew_ad g i]? = H[ew_ad g i]?) (hm : M' i = M i) : ew_at g s H' M' i c := by
  match c, h with
  | .inl n, ⟨ce, h1, h2, h3, h4, h5⟩ => exact ⟨ce, hq.trans h1, h2, h3, h4, fun j hj => by rw [hm]; exact h5 j hj⟩
  | .inr (.inl _), h => exact hq.trans h
  | .inr (.inr (ci, fs)), ⟨r, h1, h2, h3⟩ =>
    refine ⟨r, h1, h2, (h3.kept hq).to (fun k _ => ?_)⟩
    unfold ew_f
    rw [hm]
/-- one cell has changed -/
theorem ew_h.set {g : ew_G} {s : State} {sh : List ew_S} {M M' : ew_M} {H H' : Heap} {i : Nat} {c : ew_S} (h : ew_h g s sh M H) (hs : ∀ i : Nat, i < 3 → g.2.1 i < g.1) (hi : 3 ≤ i) (hm : ∀ q, q ≠ i → M' q = M q) (hz : H'.size = H.size) (ho : ∀ q, q ≠ ew_ad g i → H'[q]? = H[q]?) (hc : ew_at g s H' M' i c) : ew_h g s (sh.set i c) M' H' := by
  obtain ⟨a1, a2, a3, a4⟩ := h
  refine ⟨by rw [List.length_set]; exact a1, by rw [List.length_set, hz]; exact a2, fun j x hx => ?_, fun q hq => ?_⟩
  · by_cases e : j = i
    · subst e
      have hl : j < sh.length := by
        have := (List.getElem?_eq_some_iff.mp hx).1
        rw [List.length_set] at this
        exact this
      rw [List.getElem?_set_self hl] at hx
      cases hx
      exact hc
    · rw [List.getElem?_set_ne (fun q => e q.symm)] at hx
      exact (a3 j x hx).kept (ho _ (fun q => e (ew_ad_inj hs hi q.symm).symm)) (hm j e)
  · rw [ho q (fun e => by have := ew_ad_ge (g := g) hi; omega)]
    exact a4 q hq
theorem ew_set_same {sh : List ew_S} {i : Nat} {c : ew_S} (h : sh[i]? = some c) : sh.set i c = sh := by
  apply List.ext_getElem?
  intro j
  by_cases e : j = i
  · subst e
    rw [List.getElem?_set_self (List.getElem?_eq_some_iff.mp h).1, h]
  · rw [List.getElem?_set_ne (fun q => e q.symm)]
section EWH
variable {l : Launch} {g : ew_G} {d a b : Nat} {m : ew_D} {pc : Nat} {ls st : List Value} {sh : List ew_S} {M : ew_M} {Q : Option Value → List ew_S → ew_M → Prop}
theorem ew_len {i n : Nat} (hd : decode m.2.2.1 pc = .ok (.arraylength, 1)) (hs : sh[i]? = some (.inl n)) (k : Ew l g d a b m (pc + 1) ls (.int (nI n) :: st) sh M Q) : Ew l g d a b m pc ls (.ref i :: st) sh M Q := by
  intro p e R s mid args below meth c H locs cells slots Z lr X h1 h2 h3 h4 hH hlo hL hr
  obtain ⟨ce, c1, c2, c3, c4, c5⟩ := hH.2.2.1 i _ hs
  exact W.alen X.1 X.2.1 c1 c2 (n := nI n) (by rw [c4]; rfl) rfl rfl hd (k p e R s mid args below meth c H locs cells slots Z lr X h1 h2 h3 h4 hH hlo hL hr)
/-- an int of an array; its place as a Nat -/
theorem ew_iald {i n j : Nat} {x : Int32} (hd : decode m.2.2.1 pc = .ok (.iaload, 1)) (hs : sh[i]? = some (.inl n)) (hx : x = nI j) (hj : j < n) (hn : n < 2 ^ 31) (k : Ew l g d a b m (pc + 1) ls (.int (M i j) :: st) sh M Q) : Ew l g d a b m pc ls (.int x :: .ref i :: st) sh M Q := by
  intro p e R s mid args below meth c H locs cells slots Z lr X h1 h2 h3 h4 hH hlo hL hr
  obtain ⟨ce, c1, c2, c3, c4, c5⟩ := hH.2.2.1 i _ hs
  subst hx
  have hc : (nI j).toNatClampNeg = j := nI_clamp (by omega)
  refine W.iald (v := .int (M i j)) X.1 X.2.1 c1 c2 c3 ?_ (by rw [hc]; exact c5 j hj) rfl rfl hd (k p e R s mid args below meth c H locs cells slots Z lr X h1 h2 h3 h4 hH hlo hL hr)
  rw [c4]
  exact nI_in hj hn
theorem ew_iast {i n j : Nat} {x y : Int32} (hd : decode m.2.2.1 pc = .ok (.iastore, 1)) (hs : sh[i]? = some (.inl n)) (hi : 3 ≤ i) (hx : x = nI j) (hj : j < n) (hn : n < 2 ^ 31) (k : Ew l g d a b m (pc + 1) ls st sh (ew_w M i j y) Q) : Ew l g d a b m pc ls (.int y :: .int x :: .ref i :: st) sh M Q := by
  intro p e R s mid args below meth c H locs cells slots Z lr X h1 h2 h3 h4 hH hlo hL hr
  obtain ⟨ce, c1, c2, c3, c4, c5⟩ := hH.2.2.1 i _ hs
  subst hx
  have hc : (nI j).toNatClampNeg = j := nI_clamp (by omega)
  refine W.iast X.1 X.2.1 c1 c2 c3 (by rw [c4]; exact nI_in hj hn) rfl rfl hd fun H' e1 e2 e3 => ?_
  rw [hc] at e1 ⊢
  have hH' : ew_h g s (sh.set i (.inl n)) (ew_w M i j y) H' := by
    refine hH.set X.2.2.2.2.2.2.2.2.2.2.2.2.2.2.2 hi (fun q hq => ew_w_ne hq) e2 e3 ⟨_, e1, c2, c3, by rw [k2_slotsz]; exact c4, fun q hq => ?_⟩
    rw [ew_w_self]
    show (ce.slots.setIfInBounds j (.int y))[q]? = _
    rw [Array.getElem?_setIfInBounds]
    by_cases e : j = q
    · subst e
      rw [if_pos rfl, if_pos (by rw [c4]; exact hj)]
      simp [upd]
    · rw [if_neg e, c5 q hq]
      simp [upd, Ne.symm e]
  rw [ew_set_same hs] at hH'
  exact k p e R s mid args below meth c H' _ cells slots Z lr X h1 h2 h3 h4 hH' (fun q hq => (List.mem_append.mp hq).elim (hlo q) (fun h => by rw [List.mem_singleton.mp h]; exact ew_ad_ge hi)) hL hr
/-- a row of an array of arrays, an object of an array of objects -/
theorem ew_aald {i j kd r : Nat} {rs : List (Option Nat)} {x : Int32} (hd : decode m.2.2.1 pc = .ok (.aaload, 1)) (hs : sh[i]? = some (.inr (.inl (kd, rs)))) (hkd : kd = 0 ∨ kd = 1) (hx : x = nI j) (hj : rs[j]? = some (some r)) (hn : rs.length < 2 ^ 31) (k : Ew l g d a b m (pc + 1) ls (.ref r :: st) sh M Q) : Ew l g d a b m pc ls (.int x :: .ref i :: st) sh M Q := by
  intro p e R s mid args below meth c H locs cells slots Z lr X h1 h2 h3 h4 hH hlo hL hr
  have c1 := hH.2.2.1 i _ hs
  subst hx
  have hlt : j < rs.length := (List.getElem?_eq_some_iff.mp hj).1
  have hc : (nI j).toNatClampNeg = j := nI_clamp (by omega)
  obtain ⟨-, -, ⟨kA, kC, comp, cc, b1, b2, b3, b4, b5, b6⟩, -, hT, -⟩ := X.2.2.2.2.2.2.2.2
  obtain ⟨ty, hty, hof⟩ : ∃ ty : FieldType, ty.isReference = true ∧ s.isArrayOf (arrV (g.2.2.2.1 kd) rs.length (fun j => ew_o g (rs.getD j none))) ty := by
    rcases hkd with rfl | rfl
    · exact ⟨.array .int, rfl, (fun q h => by cases h), kA, b1, comp, b2⟩
    · obtain ⟨kT, cT, t1, t2, -⟩ := hT
      exact ⟨.object "TraceProver$Tree", rfl, (fun q h => by cases h), kT, t1, cT, t2⟩
  refine W.aald (v := ew_v g (.ref r)) X.1 X.2.1 c1 hof hty (fun q => by cases q) ?_ ?_ rfl rfl hd (k p e R s mid args below meth c H locs cells slots Z lr X h1 h2 h3 h4 hH hlo hL hr)
  · rw [arrV_size]
    exact nI_in hlt hn
  · rw [hc, arrV_read _ _ hlt]
    simp [List.getD, hj, ew_o, ew_v]
/-- an int field -/
theorem ew_geti {i ci f idx : Nat} {fs : List (Option (Option Nat))} {r : vw_C} (hd : decode m.2.2.1 pc = .ok (.getfield idx, 3)) (hs : sh[i]? = some (.inr (.inr (ci, fs)))) (hc : ew_cl[ci]? = some r) (hf : fs[f]? = some none) (hk : Cond.fieldLink m.1 idx (r.2.1 f).1 (r.2.1 f).2.1 (r.2.1 f).2.2.1 ∈ ew_tb) (k : Ew l g d a b m (pc + 3) ls (.int (M i f) :: st) sh M Q) : Ew l g d a b m pc ls (.ref i :: st) sh M Q := by
  intro p e R s mid args below meth c H locs cells slots Z lr X h1 h2 h3 h4 hH hlo hL hr
  obtain ⟨r', hr', hl, ce, q1, q2, q3, q4⟩ := hH.2.2.1 i _ hs
  cases hr'.symm.trans hc
  have hlt : f < r.2.2 := by rw [← hl]; exact (List.getElem?_eq_some_iff.mp hf).1
  obtain ⟨hS, hfc, kC, hkC, hkind⟩ := X.2.2.2.2.2.2.2.2.1 ci _ hc
  obtain ⟨cf, kf, fi, fd, hi, hsl⟩ := hS f hlt
  refine W.getf X.1 X.2.1 X.2.2.2.2.1 (X.2.2.2.2.2.1 _ hk) hi (u_facts hfc hkC (u_lays (X.2.2.2.2.2.1) (fun w hw => ew_mt (ew_in ci _ hc w hw) (by obtain ⟨q, -, rfl⟩ := List.mem_map.mp hw; unfold u_lay; split <;> rfl)) hlt) hi).1 q1 (by rw [q3]; exact fun h => by cases h) (v := .int (M i f)) ?_ rfl rfl hd (k p e R s mid args below meth c H locs cells slots Z lr X h1 h2 h3 h4 hH hlo hL hr)
  rw [hsl, q4 f hlt]
  simp [ew_f, hf]
end EWH
end
section
theorem ew_lay {ci : Nat} {r : vw_C} (hc : ew_cl[ci]? = some r) : ∀ w ∈ u_ws r.1 r.2.1 r.2.2, w ∈ ew_tb := fun w hw => ew_mt (ew_in ci _ hc w hw) (by obtain ⟨q, -, rfl⟩ := List.mem_map.mp hw; unfold u_lay; split <;> rfl)
section EWH2
variable {l : Launch} {g : ew_G} {d a b : Nat} {m : ew_D} {pc : Nat} {ls st : List Value} {sh : List ew_S} {M : ew_M} {Q : Option Value → List ew_S → ew_M → Prop}
theorem ew_getr {i ci f idx q : Nat} {fs : List (Option (Option Nat))} {r : vw_C} (hd : decode m.2.2.1 pc = .ok (.getfield idx, 3)) (hs : sh[i]? = some (.inr (.inr (ci, fs)))) (hc : ew_cl[ci]? = some r) (hf : fs[f]? = some (some (some q))) (hk : Cond.fieldLink m.1 idx (r.2.1 f).1 (r.2.1 f).2.1 (r.2.1 f).2.2.1 ∈ ew_tb) (k : Ew l g d a b m (pc + 3) ls (.ref q :: st) sh M Q) : Ew l g d a b m pc ls (.ref i :: st) sh M Q := by
  intro p e R s mid args below meth c H locs cells slots Z lr X h1 h2 h3 h4 hH hlo hL hr
  obtain ⟨r', hr', hl, ce, q1, q2, q3, q4⟩ := hH.2.2.1 i _ hs
  cases hr'.symm.trans hc
  have hlt : f < r.2.2 := by rw [← hl]; exact (List.getElem?_eq_some_iff.mp hf).1
  obtain ⟨hS, hfc, kC, hkC, hkind⟩ := X.2.2.2.2.2.2.2.2.1 ci _ hc
  obtain ⟨cf, kf, fi, fd, hi, hsl⟩ := hS f hlt
  refine W.getf X.1 X.2.1 X.2.2.2.2.1 (X.2.2.2.2.2.1 _ hk) hi (u_facts hfc hkC (u_lays (X.2.2.2.2.2.1) (ew_lay hc) hlt) hi).1 q1 (by rw [q3]; exact fun h => by cases h) (v := ew_v g (.ref q)) ?_ rfl rfl hd (k p e R s mid args below meth c H locs cells slots Z lr X h1 h2 h3 h4 hH hlo hL hr)
  rw [hsl, q4 f hlt]
  simp [ew_f, hf, ew_o, ew_v]
theorem ew_getiN {i ci f idx : Nat} {host : String} {fs : List (Option (Option Nat))} {r : vw_C} (hd : decode m.2.2.1 pc = .ok (.getfield idx, 3)) (hs : sh[i]? = some (.inr (.inr (ci, fs)))) (hc : ew_cl[ci]? = some r) (hf : fs[f]? = some none) (hk : Cond.fieldLinkNest m.1 idx (r.2.1 f).1 (r.2.1 f).2.1 (r.2.1 f).2.2.1 host ∈ ew_nt) (k : Ew l g d a b m (pc + 3) ls (.int (M i f) :: st) sh M Q) : Ew l g d a b m pc ls (.ref i :: st) sh M Q := by
  intro p e R s mid args below meth c H locs cells slots Z lr X h1 h2 h3 h4 hH hlo hL hr
  obtain ⟨r', hr', hl, ce, q1, q2, q3, q4⟩ := hH.2.2.1 i _ hs
  cases hr'.symm.trans hc
  have hlt : f < r.2.2 := by rw [← hl]; exact (List.getElem?_eq_some_iff.mp hf).1
  obtain ⟨hS, hfc, kC, hkC, hkind⟩ := X.2.2.2.2.2.2.2.2.1 ci _ hc
  obtain ⟨cf, kf, fi, fd, hi, hsl⟩ := hS f hlt
  refine va_Wgetf X.1 X.2.1 X.2.2.2.2.1 (va_Nw.use rfl (X.2.2.2.2.2.2.2.2.2.1 _ hk)) hi (u_facts hfc hkC (u_lays (X.2.2.2.2.2.1) (ew_lay hc) hlt) hi).1 q1 (by rw [q3]; exact fun h => by cases h) (v := .int (M i f)) ?_ rfl rfl hd (k p e R s mid args below meth c H locs cells slots Z lr X h1 h2 h3 h4 hH hlo hL hr)
  rw [hsl, q4 f hlt]
  simp [ew_f, hf]
theorem ew_getrN {i ci f idx q : Nat} {host : String} {fs : List (Option (Option Nat))} {r : vw_C} (hd : decode m.2.2.1 pc = .ok (.getfield idx, 3)) (hs : sh[i]? = some (.inr (.inr (ci, fs)))) (hc : ew_cl[ci]? = some r) (hf : fs[f]? = some (some (some q))) (hk : Cond.fieldLinkNest m.1 idx (r.2.1 f).1 (r.2.1 f).2.1 (r.2.1 f).2.2.1 host ∈ ew_nt) (k : Ew l g d a b m (pc + 3) ls (.ref q :: st) sh M Q) : Ew l g d a b m pc ls (.ref i :: st) sh M Q := by
  intro p e R s mid args below meth c H locs cells slots Z lr X h1 h2 h3 h4 hH hlo hL hr
  obtain ⟨r', hr', hl, ce, q1, q2, q3, q4⟩ := hH.2.2.1 i _ hs
  cases hr'.symm.trans hc
  have hlt : f < r.2.2 := by rw [← hl]; exact (List.getElem?_eq_some_iff.mp hf).1
  obtain ⟨hS, hfc, kC, hkC, hkind⟩ := X.2.2.2.2.2.2.2.2.1 ci _ hc
  obtain ⟨cf, kf, fi, fd, hi, hsl⟩ := hS f hlt
  refine va_Wgetf X.1 X.2.1 X.2.2.2.2.1 (va_Nw.use rfl (X.2.2.2.2.2.2.2.2.2.1 _ hk)) hi (u_facts hfc hkC (u_lays (X.2.2.2.2.2.1) (ew_lay hc) hlt) hi).1 q1 (by rw [q3]; exact fun h => by cases h) (v := ew_v g (.ref q)) ?_ rfl rfl hd (k p e R s mid args below meth c H locs cells slots Z lr X h1 h2 h3 h4 hH hlo hL hr)
  rw [hsl, q4 f hlt]
  simp [ew_f, hf, ew_o, ew_v]
theorem ew_gets {i idx : Nat} {n : String} (hd : decode m.2.2.1 pc = .ok (.getstatic idx, 3)) (hi : (n = "COLUMN_STEPS" ∧ i = 1) ∨ (n = "LAYER_STARTS" ∧ i = 2)) (hk : Cond.fieldLink m.1 idx "TraceProver$Proof" n "[I" ∈ ew_tb) (k : Ew l g d a b m (pc + 3) ls (.ref i :: st) sh M Q) : Ew l g d a b m pc ls st sh M Q := by
  intro p e R s mid args below meth c H locs cells slots Z lr X h1 h2 h3 h4 hH hlo hL hr
  have hz : va_Z "TraceProver$Proof" n "[I" (ew_v g (.ref i)) (fun q => g.1 ≤ q) s g.2.2.1 := by
    rcases hi with ⟨rfl, rfl⟩ | ⟨rfl, rfl⟩
    · exact X.2.2.2.2.2.2.2.2.2.2.2.2.2.1
    · exact X.2.2.2.2.2.2.2.2.2.2.2.2.2.2.1
  obtain ⟨cf, kf, fi, f, q, ce, z1, z2, z3, z4, z5, z6, z7, z8⟩ := hz
  exact W.gets X.1 X.2.1 X.2.2.2.2.1 (X.2.2.2.2.2.1 _ hk) z1 z2 z3 z4 (by rw [hH.2.2.2 q (by omega)]; exact z5) (fun e => by rw [e] at z6; cases z6) z7 rfl hd (k p e R s mid args below meth c H locs cells slots Z lr X h1 h2 h3 h4 hH hlo hL hr)
/-- an int, written to a field; v: what the field's type keeps of it -/
theorem ew_puti {i ci f idx : Nat} {x : Int32} {fs : List (Option (Option Nat))} {r : vw_C} {ty : FieldType} (hd : decode m.2.2.1 pc = .ok (.putfield idx, 3)) (hs : sh[i]? = some (.inr (.inr (ci, fs)))) (hi3 : 3 ≤ i) (hc : ew_cl[ci]? = some r) (hf : fs[f]? = some none) (hfin : (r.2.1 f).2.2.2 = false) (hty : parseFieldDescriptor (r.2.1 f).2.2.1 = some ty) (hn : narrow ty (.int x) = .int x) (hfit : fits ty (.int x) = true) (hk : Cond.fieldLink m.1 idx (r.2.1 f).1 (r.2.1 f).2.1 (r.2.1 f).2.2.1 ∈ ew_tb) (k : Ew l g d a b m (pc + 3) ls st sh (ew_w M i f x) Q) : Ew l g d a b m pc ls (.int x :: .ref i :: st) sh M Q := by
  intro p e R s mid args below meth c H locs cells slots Z lr X h1 h2 h3 h4 hH hlo hL hr
  obtain ⟨r', hr', hl, ce, q1, q2, q3, q4⟩ := hH.2.2.1 i _ hs
  cases hr'.symm.trans hc
  have hlt : f < r.2.2 := by rw [← hl]; exact (List.getElem?_eq_some_iff.mp hf).1
  obtain ⟨y, -, hy1, hy2⟩ := ew_ty ci r hc
  have hap : ∀ x y, x < r.2.2 → y < r.2.2 → x ≠ y → (g.2.2.2.2.2 ci) x ≠ (g.2.2.2.2.2 ci) y := by
    intro x y hx hy hne
    obtain ⟨hS, -⟩ := X.2.2.2.2.2.2.2.2.1 ci _ hc
    obtain ⟨_, _, _, fa, hia, ea⟩ := hS x hx
    obtain ⟨_, _, _, fb, hib, eb⟩ := hS y hy
    rw [← ea, ← eb]
    refine u_apart (u_lays X.2.2.2.2.2.1 (ew_lay hc) hx) (u_lays X.2.2.2.2.2.1 (ew_lay hc) hy) hia hib ?_
    rw [(State.fieldFound?_type hia (hy1 x hx)).1, (State.fieldFound?_type hib (hy1 y hy)).1]
    exact hy2 x hx y hy hne
  obtain ⟨hS, hfc, kC, hkC, hkind⟩ := X.2.2.2.2.2.2.2.2.1 ci _ hc
  obtain ⟨cf, kf, fi, fd, hi, hsl⟩ := hS f hlt
  have hlay := X.2.2.2.2.2.1 _ (ew_lay hc _ (u_in_lay hlt))
  unfold u_lay at hlay
  rw [if_neg (by rw [hfin]; decide)] at hlay
  have hst := (u_facts hfc hkC (u_lays X.2.2.2.2.2.1 (ew_lay hc) hlt) hi).1
  have h6 := u_store hfc hkC hkind hlay hi hty hn hfit
  refine W.putK X.1 X.2.1 (f := fd) ⟨X.2.2.2.2.1, X.2.2.2.2.2.1 _ hk, ⟨_, _, _, hi⟩, hst⟩ (by rw [q2]; exact h6) q1 q3 (by rw [hsl]; exact k2_hasslot (q4 f hlt)) rfl rfl hd fun H' e1 e2 e3 => ?_
  rw [hsl] at e1 ⊢
  have hH' : ew_h g s (sh.set i (.inr (.inr (ci, fs)))) (ew_w M i f x) H' := by
    refine hH.set X.2.2.2.2.2.2.2.2.2.2.2.2.2.2.2 hi3 (fun q hq => ew_w_ne hq) e2 e3 ⟨r, hc, hl, t_OB.to (V := updV (ew_f g M i fs) f (.int x)) ⟨_, e1, q2, q3, t_set q4 hap hlt (.int x)⟩ (fun j hj => ?_)⟩
    unfold updV ew_f
    rw [ew_w_self]
    by_cases e : j = f
    · subst e
      simp [hf, upd]
    · simp [upd, e]
  rw [ew_set_same hs] at hH'
  exact k p e R s mid args below meth c H' _ cells slots Z lr X h1 h2 h3 h4 hH' (fun q hq => (List.mem_append.mp hq).elim (hlo q) (fun h => by rw [List.mem_singleton.mp h]; exact ew_ad_ge hi3)) hL hr
/-- a final field in a constructor: a reference -/
theorem ew_putr {i ci f idx q : Nat} {o : Option Nat} {fs : List (Option (Option Nat))} {r : vw_C} {ty : FieldType} (hd : decode m.2.2.1 pc = .ok (.putfield idx, 3)) (hs : sh[i]? = some (.inr (.inr (ci, fs)))) (hi3 : 3 ≤ i) (hc : ew_cl[ci]? = some r) (hf : fs[f]? = some (some o)) (hfin : (r.2.1 f).2.2.2 = true) (hin : m.2.1.name = "<init>") (hdecl : (r.2.1 f).1 = m.1) (hty : parseFieldDescriptor (r.2.1 f).2.2.1 = some ty) (hn : ∀ w : Nat, narrow ty (.ref w) = .ref w ∧ fits ty (.ref w) = true) (hk : Cond.fieldLink m.1 idx (r.2.1 f).1 (r.2.1 f).2.1 (r.2.1 f).2.2.1 ∈ ew_tb) (k : Ew l g d a b m (pc + 3) ls st (sh.set i (.inr (.inr (ci, fs.set f (some (some q)))))) M Q) : Ew l g d a b m pc ls (.ref q :: .ref i :: st) sh M Q := by
  intro p e R s mid args below meth c H locs cells slots Z lr X h1 h2 h3 h4 hH hlo hL hr
  obtain ⟨r', hr', hl, ce, q1, q2, q3, q4⟩ := hH.2.2.1 i _ hs
  cases hr'.symm.trans hc
  have hlt : f < r.2.2 := by rw [← hl]; exact (List.getElem?_eq_some_iff.mp hf).1
  obtain ⟨y, -, hy1, hy2⟩ := ew_ty ci r hc
  have hap : ∀ x y, x < r.2.2 → y < r.2.2 → x ≠ y → (g.2.2.2.2.2 ci) x ≠ (g.2.2.2.2.2 ci) y := by
    intro x y hx hy hne
    obtain ⟨hS, -⟩ := X.2.2.2.2.2.2.2.2.1 ci _ hc
    obtain ⟨_, _, _, fa, hia, ea⟩ := hS x hx
    obtain ⟨_, _, _, fb, hib, eb⟩ := hS y hy
    rw [← ea, ← eb]
    refine u_apart (u_lays X.2.2.2.2.2.1 (ew_lay hc) hx) (u_lays X.2.2.2.2.2.1 (ew_lay hc) hy) hia hib ?_
    rw [(State.fieldFound?_type hia (hy1 x hx)).1, (State.fieldFound?_type hib (hy1 y hy)).1]
    exact hy2 x hx y hy hne
  obtain ⟨hS, hfc, kC, hkC, hkind⟩ := X.2.2.2.2.2.2.2.2.1 ci _ hc
  obtain ⟨cf, kf, fi, fd, hi, hsl⟩ := hS f hlt
  have hlay := X.2.2.2.2.2.1 _ (ew_lay hc _ (u_in_lay hlt))
  unfold u_lay at hlay
  rw [if_pos hfin] at hlay
  have hst := (u_facts hfc hkC (u_lays X.2.2.2.2.2.1 (ew_lay hc) hlt) hi).1
  have hcf : mid.cls = cf := by
    obtain ⟨_, _, c', _, _, _, -, -, hf', -, -, -, hown2, -⟩ := Cond.laysFinal_spec hlay
    have e1 : c' = cf := by have := hi.symm.trans hf'; simp at this; exact this.1.symm
    rw [hdecl] at hown2
    rw [← e1]; exact Option.some.inj (X.2.2.2.2.1.symm.trans hown2)
  have h6 := u_fits hfc hkC hkind (Or.inr hlay) hi hty (hn (ew_ad g q)).1 (hn (ew_ad g q)).2
  refine W.putFinK X.1 X.2.1 X.2.2.2.2.1 (X.2.2.2.2.2.1 _ hk) hi hst hcf (X.2.2.2.2.2.2.2.1.trans hin) (v := ew_v g (.ref q)) (by rw [q2]; exact h6) q1 q3 (by rw [hsl]; exact k2_hasslot (q4 f hlt)) rfl rfl hd fun H' e1 e2 e3 => ?_
  rw [hsl] at e1 ⊢
  have hH' : ew_h g s (sh.set i (.inr (.inr (ci, fs.set f (some (some q)))))) M H' := by
    refine hH.set X.2.2.2.2.2.2.2.2.2.2.2.2.2.2.2 hi3 (fun q hq => rfl) e2 e3 ⟨r, hc, by rw [List.length_set]; exact hl, t_OB.to (V := updV (ew_f g M i fs) f (ew_v g (.ref q))) ⟨_, e1, q2, q3, t_set q4 hap hlt _⟩ (fun j hj => ?_)⟩
    unfold updV ew_f
    by_cases e : j = f
    · subst e
      rw [if_pos rfl, List.getElem?_set_self (by rw [hl]; exact hj)]
      rfl
    · rw [if_neg e, List.getElem?_set_ne (fun q => e q.symm)]
  exact k p e R s mid args below meth c H' _ cells slots Z lr X h1 h2 h3 h4 hH' (fun q hq => (List.mem_append.mp hq).elim (hlo q) (fun h => by rw [List.mem_singleton.mp h]; exact ew_ad_ge hi3)) hL hr
/-- a final field in a constructor: an int -/
theorem ew_putiF {i ci f idx : Nat} {x : Int32} {fs : List (Option (Option Nat))} {r : vw_C} (hd : decode m.2.2.1 pc = .ok (.putfield idx, 3)) (hs : sh[i]? = some (.inr (.inr (ci, fs)))) (hi3 : 3 ≤ i) (hc : ew_cl[ci]? = some r) (hf : fs[f]? = some none) (hfin : (r.2.1 f).2.2.2 = true) (hin : m.2.1.name = "<init>") (hdecl : (r.2.1 f).1 = m.1) (hty : parseFieldDescriptor (r.2.1 f).2.2.1 = some .int) (hk : Cond.fieldLink m.1 idx (r.2.1 f).1 (r.2.1 f).2.1 (r.2.1 f).2.2.1 ∈ ew_tb) (k : Ew l g d a b m (pc + 3) ls st sh (ew_w M i f x) Q) : Ew l g d a b m pc ls (.int x :: .ref i :: st) sh M Q := by
  intro p e R s mid args below meth c H locs cells slots Z lr X h1 h2 h3 h4 hH hlo hL hr
  obtain ⟨r', hr', hl, ce, q1, q2, q3, q4⟩ := hH.2.2.1 i _ hs
  cases hr'.symm.trans hc
  have hlt : f < r.2.2 := by rw [← hl]; exact (List.getElem?_eq_some_iff.mp hf).1
  obtain ⟨y, -, hy1, hy2⟩ := ew_ty ci r hc
  have hap : ∀ x y, x < r.2.2 → y < r.2.2 → x ≠ y → (g.2.2.2.2.2 ci) x ≠ (g.2.2.2.2.2 ci) y := by
    intro x y hx hy hne
    obtain ⟨hS, -⟩ := X.2.2.2.2.2.2.2.2.1 ci _ hc
    obtain ⟨_, _, _, fa, hia, ea⟩ := hS x hx
    obtain ⟨_, _, _, fb, hib, eb⟩ := hS y hy
    rw [← ea, ← eb]
    refine u_apart (u_lays X.2.2.2.2.2.1 (ew_lay hc) hx) (u_lays X.2.2.2.2.2.1 (ew_lay hc) hy) hia hib ?_
    rw [(State.fieldFound?_type hia (hy1 x hx)).1, (State.fieldFound?_type hib (hy1 y hy)).1]
    exact hy2 x hx y hy hne
  obtain ⟨hS, hfc, kC, hkC, hkind⟩ := X.2.2.2.2.2.2.2.2.1 ci _ hc
  obtain ⟨cf, kf, fi, fd, hi, hsl⟩ := hS f hlt
  have hlay := X.2.2.2.2.2.1 _ (ew_lay hc _ (u_in_lay hlt))
  unfold u_lay at hlay
  rw [if_pos hfin] at hlay
  have hst := (u_facts hfc hkC (u_lays X.2.2.2.2.2.1 (ew_lay hc) hlt) hi).1
  have hcf : mid.cls = cf := by
    obtain ⟨_, _, c', _, _, _, -, -, hf', -, -, -, hown2, -⟩ := Cond.laysFinal_spec hlay
    have e1 : c' = cf := by have := hi.symm.trans hf'; simp at this; exact this.1.symm
    rw [hdecl] at hown2
    rw [← e1]; exact Option.some.inj (X.2.2.2.2.1.symm.trans hown2)
  have h6 := u_fits (v := .int x) hfc hkC hkind (Or.inr hlay) hi hty rfl rfl
  refine W.putFinK X.1 X.2.1 X.2.2.2.2.1 (X.2.2.2.2.2.1 _ hk) hi hst hcf (X.2.2.2.2.2.2.2.1.trans hin) (v := .int x) (by rw [q2]; exact h6) q1 q3 (by rw [hsl]; exact k2_hasslot (q4 f hlt)) rfl rfl hd fun H' e1 e2 e3 => ?_
  rw [hsl] at e1 ⊢
  have hH' : ew_h g s (sh.set i (.inr (.inr (ci, fs)))) (ew_w M i f x) H' := by
    refine hH.set X.2.2.2.2.2.2.2.2.2.2.2.2.2.2.2 hi3 (fun q hq => ew_w_ne hq) e2 e3 ⟨r, hc, hl, t_OB.to (V := updV (ew_f g M i fs) f (.int x)) ⟨_, e1, q2, q3, t_set q4 hap hlt (.int x)⟩ (fun j hj => ?_)⟩
    unfold updV ew_f
    rw [ew_w_self]
    by_cases e : j = f
    · subst e
      simp [hf, upd]
    · simp [upd, e]
  rw [ew_set_same hs] at hH'
  exact k p e R s mid args below meth c H' _ cells slots Z lr X h1 h2 h3 h4 hH' (fun q hq => (List.mem_append.mp hq).elim (hlo q) (fun h => by rw [List.mem_singleton.mp h]; exact ew_ad_ge hi3)) hL hr
end EWH2
end
section
theorem ew_ad_lt {g : ew_G} {s : State} {sh : List ew_S} {M : ew_M} {H : Heap} (h : ew_h g s sh M H) (hs : ∀ i : Nat, i < 3 → g.2.1 i < g.1) {i : Nat} (hi : i < sh.length) : ew_ad g i < H.size := by
  have h1 := h.1
  have h2 := h.2.1
  unfold ew_ad
  by_cases e : i < 3
  · rw [if_pos e]
    have := hs i e
    omega
  · rw [if_neg e]
    omega
theorem ew_ad_top {g : ew_G} {s : State} {sh : List ew_S} {M : ew_M} {H : Heap} (h : ew_h g s sh M H) : ew_ad g sh.length = H.size := by
  have h1 := h.1
  have h2 := h.2.1
  unfold ew_ad
  rw [if_neg (by omega)]
  omega
theorem ew_h.push {g : ew_G} {s : State} {sh : List ew_S} {M : ew_M} {H H' : Heap} {c : ew_S} {f : Nat → Int32} (h : ew_h g s sh M H) (hs : ∀ i : Nat, i < 3 → g.2.1 i < g.1) (hz : H'.size = H.size + 1) (ho : ∀ q : Nat, q < H.size → H'[q]? = H[q]?) (hc : ew_at g s H' (ew_up M sh.length f) sh.length c) : ew_h g s (sh ++ [c]) (ew_up M sh.length f) H' := by
  have h1 := h.1
  have h2 := h.2.1
  refine ⟨by rw [List.length_append]; omega, by rw [hz, h2, List.length_append, List.length_singleton]; omega, fun i x hx => ?_, fun q hq => ?_⟩
  · by_cases hl : i < sh.length
    · rw [List.getElem?_append_left hl] at hx
      exact (h.2.2.1 i x hx).kept (ho _ (ew_ad_lt h hs hl)) (ew_up_ne (by omega))
    · rw [List.getElem?_append_right (by omega)] at hx
      have hl2 : i - sh.length < 1 := (List.getElem?_eq_some_iff.mp hx).1
      have e : i = sh.length := by omega
      subst e
      rw [Nat.sub_self] at hx
      cases hx
      exact hc
  · rw [ho q (by omega)]
    exact h.2.2.2 q hq
def ew_z : Nat → Int32 := fun _ => 0
section EWN
variable {l : Launch} {g : ew_G} {d a b : Nat} {m : ew_D} {pc : Nat} {ls st : List Value} {sh : List ew_S} {M : ew_M} {Q : Option Value → List ew_S → ew_M → Prop}
theorem ew_new {ci idx : Nat} {fs : List (Option (Option Nat))} {r : vw_C} {y : Nat → FieldType} (hd : decode m.2.2.1 pc = .ok (.new idx, 3)) (hc : ew_cl[ci]? = some r) (hy : ew_ys[ci]? = some y) (hl : fs.length = r.2.2) (hf : ∀ k, k < r.2.2 → (fs[k]? = some none ∧ defaultValue (y k) = .int 0) ∨ (fs[k]? = some (some none) ∧ defaultValue (y k) = .null)) (hk : Cond.classLink m.1 idx r.1 ∈ ew_tb) (hk2 : Cond.instantiable r.1 r.2.2 ∈ ew_tb) (hk3 : Cond.initialized r.1 ∈ ew_tb) (k : Ew l g d a b m (pc + 3) ls (.ref sh.length :: st) (sh ++ [.inr (.inr (ci, fs))]) (ew_up M sh.length ew_z) Q) : Ew l g d (a + 1) (b + r.2.2) m pc ls st sh M Q := by
  intro p e R s mid args below meth c H locs cells slots Z lr X h1 h2 h3 h4 hH hlo hL hr
  have hs := X.2.2.2.2.2.2.2.2.2.2.2.2.2.2.2
  obtain ⟨hS, hfc, kC, hkC, hkind⟩ := X.2.2.2.2.2.2.2.2.1 ci _ hc
  have htop := ew_ad_top hH
  refine W.newcK X.1 X.2.1 X.2.2.2.2.1 (X.2.2.2.2.2.1 _ hk) (X.2.2.2.2.2.1 _ hk2) (X.2.2.2.2.2.1 _ hk3) rfl hd (by omega) (by omega) hfc htop.symm fun H' kC' e1 e2 e3 e4 => ?_
  cases hkC.symm.trans e1
  obtain ⟨y', hy', hy1, -⟩ := ew_ty ci r hc
  cases hy'.symm.trans hy
  have hH' : ew_h g s (sh ++ [.inr (.inr (ci, fs))]) (ew_up M sh.length ew_z) H' := by
    refine hH.push hs (by rw [e3, htop]) (fun q hq => e4 q (by rw [htop]; exact hq)) ⟨r, hc, hl, t_OB.to (u_born y X.2.2.2.2.2.1 (ew_lay hc) (X.2.2.2.2.2.2.2.2.1 ci _ hc) hkC e2 hy1) (fun j hj => ?_)⟩
    unfold ew_f
    rw [ew_up_self]
    rcases hf j hj with ⟨q1, q2⟩ | ⟨q1, q2⟩
    · rw [q1, q2]
      rfl
    · rw [q1, q2]
      rfl
  have hk9 := k p e R s mid args below meth c H' locs (cells + 1) (slots + r.2.2) Z lr X h1 h2 (by omega) (by omega) hH' hlo hL (fun v sh' M' H2 locs' pc' lr' q w z t => by
    have := hr v sh' M' H2 locs' pc' lr' q w z t
    rw [show cells + (a + 1) = cells + 1 + a by omega, show slots + (b + r.2.2) = slots + r.2.2 + b by omega] at this
    exact this)
  exact hk9
theorem ew_newa {N : Nat} {x : Int32} (hd : decode m.2.2.1 pc = .ok (.newarray .int, 2)) (hx : x = nI N) (hN : N ≤ 1000) (hk : Cond.arrayClass .int ∈ ew_tb) (k : Ew l g d a b m (pc + 2) ls (.ref sh.length :: st) (sh ++ [.inl N]) (ew_up M sh.length ew_z) Q) : Ew l g d (a + 1) (b + N) m pc ls (.int x :: st) sh M Q := by
  intro p e R s mid args below meth c H locs cells slots Z lr X h1 h2 h3 h4 hH hlo hL hr
  have hs := X.2.2.2.2.2.2.2.2.2.2.2.2.2.2.2
  have htop := ew_ad_top hH
  subst hx
  refine W.newaK (N := N) X.1 X.2.1 (atype := .int) (X.2.2.2.2.2.1 _ hk) rfl hd rfl (nI_pos (by omega)) (nI_clamp (by omega)) (by show N * 4 ≤ 536870912; omega) (by omega) (by omega) htop.symm fun H' cA e1 e2 e3 e4 => ?_
  have hH' : ew_h g s (sh ++ [.inl N]) (ew_up M sh.length ew_z) H' := by
    refine hH.push hs (by rw [e2, htop]) (fun q hq => e3 q (by rw [htop]; exact hq)) ⟨_, e1, e4 _ _, (fun q => by cases q), arrV_size _ _ _, fun j hj => ?_⟩
    rw [arrV_read _ _ hj, ew_up_self]
    rfl
  have hk9 := k p e R s mid args below meth c H' locs (cells + 1) (slots + N) Z lr X h1 h2 (by omega) (by omega) hH' hlo hL (fun v sh' M' H2 locs' pc' lr' q w z t => by
    have := hr v sh' M' H2 locs' pc' lr' q w z t
    rw [show cells + (a + 1) = cells + 1 + a by omega, show slots + (b + N) = slots + N + b by omega] at this
    exact this)
  exact hk9
theorem ew_anew {N idx : Nat} {x : Int32} (hd : decode m.2.2.1 pc = .ok (.anewarray idx, 3)) (hx : x = nI N) (hN : N ≤ 1000) (hk : Cond.classLink m.1 idx "TraceProver$Tree" ∈ ew_tb) (k : Ew l g d a b m (pc + 3) ls (.ref sh.length :: st) (sh ++ [.inr (.inl (1, List.replicate N none))]) (ew_up M sh.length ew_z) Q) : Ew l g d (a + 1) (b + N) m pc ls (.int x :: st) sh M Q := by
  intro p e R s mid args below meth c H locs cells slots Z lr X h1 h2 h3 h4 hH hlo hL hr
  have hs := X.2.2.2.2.2.2.2.2.2.2.2.2.2.2.2
  have htop := ew_ad_top hH
  obtain ⟨-, -, -, hAO, ⟨kT, cT, t1, t2, t3, t4⟩, -⟩ := X.2.2.2.2.2.2.2.2
  subst hx
  have hcl : (nI N).toNatClampNeg = N := nI_clamp (by omega)
  refine W.anew X.1 X.2.1 X.2.2.2.2.1 (X.2.2.2.2.2.1 _ hk) (va_AO.use hAO) rfl hd rfl (nI_pos (by omega)) (by rw [hcl]; omega) (by omega) (by rw [hcl]; omega) fun cA kA comp f1 f2 f3 f4 => ?_
  cases t4.symm.trans f1
  rw [hcl, ← htop]
  generalize hH1 : H.push ({ cls := g.2.2.2.1 1, slots := Array.replicate N .null, vm := .none } : Cell) = H1
  have z1 : H1.size = H.size + 1 := by rw [← hH1, Array.size_push]
  have e1 : H1[H.size]? = some (arrV (g.2.2.2.1 1) N (fun _ => .null)) := by rw [← hH1, Array.getElem?_push_size, ← arrV_new]
  have o1 : ∀ q : Nat, q < H.size → H1[q]? = H[q]? := fun q hq => by rw [← hH1, Array.getElem?_push, if_neg (Nat.ne_of_lt hq)]
  have hH' : ew_h g s (sh ++ [.inr (.inl (1, List.replicate N none))]) (ew_up M sh.length ew_z) H1 := by
    refine hH.push hs z1 o1 ?_
    show H1[ew_ad g sh.length]? = some (arrV (g.2.2.2.1 1) (List.replicate N (none : Option Nat)).length (fun j => ew_o g ((List.replicate N none).getD j none)))
    rw [htop, e1, List.length_replicate]
    refine congrArg some (congrArg (arrV _ N) (funext fun j => ?_))
    by_cases hj : j < N
    · simp [List.getD, List.getElem?_replicate, hj, ew_o]
    · simp [List.getD, List.getElem?_replicate, hj, ew_o]
  have hk9 := k p e R s mid args below meth c H1 locs (cells + 1) (slots + N) Z lr X h1 h2 (by omega) (by omega) hH' hlo hL (fun v sh' M' H2 locs' pc' lr' q w z t => by
    have := hr v sh' M' H2 locs' pc' lr' q w z t
    rw [show cells + (a + 1) = cells + 1 + a by omega, show slots + (b + N) = slots + N + b by omega] at this
    exact this)
  exact hk9
theorem ew_aast {i j v : Nat} {rs : List (Option Nat)} {fs : List (Option (Option Nat))} {r : vw_C} {x : Int32} (hd : decode m.2.2.1 pc = .ok (.aastore, 1)) (hs : sh[i]? = some (.inr (.inl (1, rs)))) (hi3 : 3 ≤ i) (hv : sh[v]? = some (.inr (.inr (8, fs)))) (hc : ew_cl[8]? = some r) (hr1 : r.1 = "TraceProver$Tree") (hx : x = nI j) (hj : j < rs.length) (hn : rs.length < 2 ^ 31) (k : Ew l g d a b m (pc + 1) ls st (sh.set i (.inr (.inl (1, rs.set j (some v))))) M Q) : Ew l g d a b m pc ls (.ref v :: .int x :: .ref i :: st) sh M Q := by
  intro p e R s mid args below meth c H locs cells slots Z lr X h1 h2 h3 h4 hH hlo hL hr
  have c1 := hH.2.2.1 i _ hs
  obtain ⟨r', hr', hl, ce, q1, q2, q3, q4⟩ := hH.2.2.1 v _ hv
  cases hr'.symm.trans hc
  subst hx
  have hcl : (nI j).toNatClampNeg = j := nI_clamp (by omega)
  obtain ⟨-, -, -, hAO, ⟨kT, cT, t1, t2, t3, t4⟩, -⟩ := X.2.2.2.2.2.2.2.2
  have hcls := (X.2.2.2.2.2.2.2.2.1 8 r hc).2
  have hcomp : cT = g.2.2.2.2.1 8 := Option.some.inj (t3.symm.trans (hr1 ▸ hcls.1))
  subst hcomp
  obtain ⟨kC, hkC, -⟩ := hcls.2
  refine W.aast X.1 X.2.1 c1 (fun q h => by cases h) (fun h => by cases h) t1 t2 rfl hkC ⟨nI_pos (by omega), by rw [arrV_size, hcl]; exact hj⟩ q1 (fun q h => by rw [q3] at h; cases h) (by rw [q2]; exact hkC) (by rw [q2]; exact va_assign hcls) rfl rfl hd fun H1 e1 e2 e3 => ?_
  rw [hcl] at e1 ⊢
  have hH' : ew_h g s (sh.set i (.inr (.inl (1, rs.set j (some v))))) M H1 := by
    refine hH.set X.2.2.2.2.2.2.2.2.2.2.2.2.2.2.2 hi3 (fun q hq => rfl) e2 e3 ?_
    show H1[ew_ad g i]? = some (arrV (g.2.2.2.1 1) (rs.set j (some v)).length (fun q => ew_o g ((rs.set j (some v)).getD q none)))
    rw [e1, arrV_store, List.length_set]
    refine congrArg some (congrArg (arrV _ _) (funext fun q => ?_))
    unfold updV
    by_cases eq : q = j
    · subst eq
      simp [List.getD, List.getElem?_set_self hj, ew_o]
    · simp [List.getD, List.getElem?_set_ne (fun h => eq h.symm), eq]
  exact k p e R s mid args below meth c H1 _ cells slots Z lr X h1 h2 h3 h4 hH' (fun q hq => (List.mem_append.mp hq).elim (hlo q) (fun h => by rw [List.mem_singleton.mp h]; exact ew_ad_ge hi3)) hL hr
theorem ew_objInit {i idx : Nat} (hd : decode m.2.2.1 pc = .ok (.invokespecial idx, 3)) (hk : Cond.methodLink m.1 idx objectInit ∈ ew_tb) (hk2 : Cond.instanceMethod objectInit ∈ ew_tb) (hk3 : Cond.code objectInit ⟨#[0xb1]⟩ 1 none ∈ ew_tb) (hst : (st.map fun v => v.category).sum ≤ 8) (k : Ew l g (d + 1) a b m (pc + 3) ls st sh M Q) : Ew l g (d + 1) a b m pc ls (.ref i :: st) sh M Q := by
  intro p e R s mid args below meth c H locs cells slots Z lr X h1 h2 h3 h4 hH hlo hL hr
  refine W.objInit X.1 X.2.1 X.2.2.2.2.1 (X.2.2.2.2.2.1 _ hk) (X.2.2.2.2.2.1 _ hk2) (X.2.2.2.2.2.1 _ hk3) rfl (by rw [X.2.2.1]; exact hL.1) rfl hd (by omega) ?_ (k p e R s mid args below meth c H locs cells slots Z lr X h1 h2 h3 h4 hH hlo hL hr)
  have hc : ((st.map (ew_v g)).map fun v => v.category) = st.map fun v => v.category := by
    rw [List.map_map]
    apply List.map_congr_left
    intro v _
    cases v <;> rfl
  show 2 * 0 + ((st.map (ew_v g)).map fun v => v.category).sum + 12 ≤ R.locals
  rw [hc]
  omega
end EWN
end
section
def ew_ok (m : ew_D) (n : Nat) : Prop := Cond.code m.2.1 m.2.2.1 m.2.2.2.1 m.2.2.2.2 ∈ ew_tb ∧ Cond.initialized m.2.1.cls ∈ ew_tb ∧ plainName m.2.1.cls = true ∧ (m.2.1.cls ≠ "java/lang/invoke/MethodHandle" ∧ m.2.1.cls ≠ "java/lang/invoke/VarHandle" ∧ (parseMethodDescriptor m.2.1.desc).map (fun d => d.parameters.length) = some n) ∧ m.2.2.2.1 ≤ 9 ∧ m.1 = m.2.1.cls
def ew_en (n : Nat) (As : List Value) : List Value := As ++ List.replicate (n - As.length) (.retAddr 0)
theorem ew_sl {g : ew_G} : ∀ {As : List Value}, As.all ew_ir = true → (lg_sl (As.map (ew_v g))).length = As.length
  | [], _ => rfl
  | v :: vs, h => by
    have h1 : ew_ir v = true ∧ vs.all ew_ir = true := by simpa using h
    have ih := ew_sl (g := g) h1.2
    have hc : (ew_v g v).category = 1 := ew_cat h1.1
    unfold lg_sl at ih ⊢
    simp only [List.map_cons, List.flatMap_cons, hc]
    simp [ih]
theorem ew_la {g : ew_G} : ∀ {As : List Value} (k i : Nat) {v : Value}, As.all ew_ir = true → As[i]? = some v → (k + i, ew_v g v) ∈ lv_args k (As.map (ew_v g))
  | [], k, i, v, _, hv => by simp at hv
  | w :: vs, k, i, v, h, hv => by
    have h1 : ew_ir w = true ∧ vs.all ew_ir = true := by simpa using h
    have hc : (ew_v g w).category = 1 := ew_cat h1.1
    simp only [List.map_cons, lv_args, hc]
    cases i with
    | zero =>
      simp at hv
      subst hv
      exact List.mem_cons_self
    | succ i =>
      have hv' : vs[i]? = some v := by simpa using hv
      have := ew_la (g := g) (k + 1) i h1.2 hv'
      rw [show k + (i + 1) = k + 1 + i by omega]
      exact List.mem_cons_of_mem _ (by simpa using this)
theorem ew_entry {g : ew_G} {As : List Value} {n : Nat} (h : As.all ew_ir = true) (hn : As.length ≤ n) : ew_l g ((lg_sl (As.map (ew_v g)) ++ List.replicate (n - (lg_sl (As.map (ew_v g))).length) Slot.unset).toArray) n (ew_en n As) := by
  have hl := lv_entry (As.map (ew_v g)) (n := n) (by rw [ew_sl h]; exact hn)
  refine ⟨hl.1, by unfold ew_en; rw [List.length_append, List.length_replicate]; omega, hl.2.1, fun i v hv hr => ?_⟩
  unfold ew_en at hv
  by_cases hi : i < As.length
  · rw [List.getElem?_append_left hi] at hv
    have := hl.2.2 (0 + i, ew_v g v) (ew_la (g := g) 0 i h hv)
    simpa using this
  · rw [List.getElem?_append_right (by omega), List.getElem?_replicate] at hv
    split at hv
    · cases hv
      simp [ew_ir] at hr
    · cases hv
def ew_pc (g : ew_G) (As : List Value) (sh : List ew_S) (M : ew_M) : Array Value → State → Prop := fun v U => v = (As.map (ew_v g)).toArray ∧ ew_h g U sh M U.heap ∧ ew_k g U
def ew_qc (g : ew_G) (Q : Option Value → List ew_S → ew_M → Prop) : Array Value → State → Outcome → State → Prop := fun _ _ o t => ∃ (v : Option Value) (sh' : List ew_S) (M' : ew_M), o = .returned (v.map (ew_v g)) ∧ Q v sh' M' ∧ ew_h g t sh' M' t.heap
abbrev ew_rm (d a b : Nat) : Room := { frames := d, cells := a, slots := b, locals := 28 * d }
theorem ew_met {l : Launch} {g : ew_G} {d a b n : Nat} {m : ew_D} {As : List Value} {sh : List ew_S} {M : ew_M} {Q : Option Value → List ew_S → ew_M → Prop} (ok : ew_ok m n) (hA : As.length ≤ m.2.2.2.1) (hir : As.all ew_ir = true) (hc : Ew l g d a b m 0 (ew_en m.2.2.2.1 As) [] sh M Q) :
    Met l m.2.1 (Cond.code m.2.1 m.2.2.1 m.2.2.2.1 m.2.2.2.2 :: ew_tb) (ew_rm d a b) (ew_pc g As sh M) (ew_qc g Q) a b (fun q => g.1 ≤ q) := by
  refine Met.ofW (cc := m.2.2.1) (maxL := m.2.2.2.1) (ret := m.2.2.2.2) ok.2.2.1 rfl ?_
  intro p e s mid args below meth c s₁ B hml hv
  obtain ⟨rfl, hH, hK⟩ := hv
  have hts := atoms_spec (ws := Cond.code m.2.1 m.2.2.1 m.2.2.2.1 m.2.2.2.2 :: ew_tb) B.pre
  have hown : s.vm.findClass m.1 = some mid.cls := by rw [ok.2.2.2.2.2]; exact findClass_of_methodNamed B.named
  have hlocks := B.notSynchronized
  have hret := B.returns
  have hx := B.exec
  have hb := B.bytes
  rw [lg_entry_eq]
  have X : ew_x g m p s mid (As.map (ew_v g)).toArray meth c := ⟨hx, hb, hml, hret, hown, fun w hw => hts w (List.mem_cons_of_mem _ hw), hlocks, (name_of_methodNamed B.named B.method).1, hK⟩
  refine hc p e _ s mid _ below meth c s.heap [] 0 0 _ _ X (Nat.le_refl d) (Nat.le_refl _) (by show 0 + a ≤ a; omega) (by show 0 + b ≤ b; omega) hH (fun q h => by cases h) (ew_entry hir hA) (fun v sh' M' H' locs' pc' lr' q hh hl hrr => ?_)
  rw [Nat.zero_add, Nat.zero_add]
  cases v with
  | none =>
    exact W.vret hx hb (hret.trans hrr.1) (fun t ht hW => ⟨none, sh', M', rfl, q, by rw [ht]; exact hh.moved hW.alike⟩) hl hrr.2
  | some v =>
    cases v with
    | int x =>
      rcases hrr.2 with hm | ⟨hm, hx01⟩
      · exact W.iret hx hb (hret.trans hm) (fun t ht hW => ⟨some (.int x), sh', M', rfl, q, by rw [ht]; exact hh.moved hW.alike⟩) hl hrr.1
      · refine W.zret (ty := .boolean) hx hb (hret.trans hm) ?_ (fun t ht hW => ⟨some (.int x), sh', M', rfl, q, by rw [ht]; exact hh.moved hW.alike⟩) hl hrr.1
        rcases hx01 with rfl | rfl
        · decide
        · decide
    | _ => exact hrr.elim
theorem ew_blind {g : ew_G} {As : List Value} {sh : List ew_S} {M : ew_M} : FrameBlind (ew_pc g As sh M) := fun a U f mk h => ⟨h.1, h.2.1.moved (s := U) (U := U.calling f mk a) (Vm.Alike.refl U.vm), ew_k.moved (s := U) (U := U.calling f mk a) (State.WarmedH.refl U) h.2.2⟩
section EWC
variable {l : Launch} {g : ew_G} {d a b a1 b1 n : Nat} {m m' : ew_D} {pc : Nat} {ls st : List Value} {sh : List ew_S} {M : ew_M} {Q Q1 : Option Value → List ew_S → ew_M → Prop}
/-- what is behind every call -/
theorem ew_cont {p : Program} {e : Env} {R : Room} {s : State} {mid : MethodId} {args : Array Value} {below : List Frame} {meth : Method} {c : Code} {H : Heap} {locs : List Loc} {cells slots : Nat} {Z : State → Prop} {lr : Array Slot} {st0 : List Value} {av : Array Value}
    (hR : va_Run p l e R s mid args below meth c H locs cells slots a1 b1 (F0 mid pc lr st0) (st.map (ew_v g)) (ew_qc g Q1 av) (fun q => g.1 ≤ q))
    (X : ew_x g m p s mid args meth c) (h1 : d ≤ R.frames) (h2 : 28 * d ≤ R.locals) (h3 : cells + (a + a1) ≤ R.cells) (h4 : slots + (b + b1) ≤ R.slots) (hlo : ∀ q ∈ locs, g.1 ≤ q.base) (hL : ew_l g lr m.2.2.2.1 ls)
    (hr : ∀ (v : Option Value) (sh' : List ew_S) (M' : ew_M) (H' : Heap) (locs' : List Loc) (pc' : Nat) (lr' : Array Slot), Q v sh' M' → ew_h g s sh' M' H' → (∀ q ∈ locs', g.1 ≤ q.base) → ew_r m pc' v → W p l e R s mid args below meth c H' locs' (cells + (a + a1)) (slots + (b + b1)) Z (F0 mid pc' lr' (v.toList.map (ew_v g))))
    (k : ∀ v sh' M', Q1 v sh' M' → Ew l g d a b m (pc + 3) ls (v.toList ++ st) sh' M' Q) : W p l e R s mid args below meth c H locs cells slots Z (F0 mid pc lr st0) := by
  intro T hT XS
  obtain ⟨v, st₀, t, T', L, g0, X', hL', e1, e2, ⟨v', sh', M', hv, hq, hh⟩, stp⟩ := hR T hT XS
  cases hv
  have hal : s.vm.Alike t.vm := by rw [← e2]; exact X'.warmed.alike
  have hW := k v' sh' M' hq p e R s mid args below meth c T'.heap (locs ++ L) (cells + a1) (slots + b1) Z lr X h1 h2 (by omega) (by omega) (by rw [e1]; exact hh.moved hal.symm) (fun q hq => (List.mem_append.mp hq).elim (hlo q) (hL' q)) hL (fun v sh' M' H' locs' pc' lr' q w z y => by
    have := hr v sh' M' H' locs' pc' lr' q w z y
    rw [show cells + (a + a1) = cells + a1 + a by omega, show slots + (b + b1) = slots + b1 + b by omega] at this
    exact this)
  obtain ⟨t2, a2, b2⟩ := hW T' rfl X'
  refine ⟨t2, stp t2 ?_, b2⟩
  have hst : (v'.toList ++ st).map (ew_v g) = (v'.map (ew_v g)).toList ++ st.map (ew_v g) := by
    rw [List.map_append]
    cases v' <;> rfl
  rw [hst] at a2
  exact a2
theorem ew_cats {st : List Value} (h : (st.map fun v => v.category).sum ≤ 8) : ((st.map (ew_v g)).map fun v => v.category).sum ≤ 8 := by
  have hc : ((st.map (ew_v g)).map fun v => v.category) = st.map fun v => v.category := by
    rw [List.map_map]
    apply List.map_congr_left
    intro v _
    cases v <;> rfl
  rw [hc]
  exact h
theorem ew_callS {As : List Value} {idx : Nat} (hd : decode m.2.2.1 pc = .ok (.invokestatic idx, 3)) (ok : ew_ok m' n) (hk : Cond.methodLink m.1 idx m'.2.1 ∈ ew_tb) (hk2 : Cond.static m'.2.1 ∈ ew_tb) (hn : As.length = n) (hA : As.length ≤ m'.2.2.2.1) (hir : As.all ew_ir = true) (hst : (st.map fun v => v.category).sum ≤ 8) {st0 : List Value} (hs0 : st0 = As.reverse ++ st)
    (hc : Ew l g d a1 b1 m' 0 (ew_en m'.2.2.2.1 As) [] sh M Q1) (k : ∀ v sh' M', Q1 v sh' M' → Ew l g (d + 1) a b m (pc + 3) ls (v.toList ++ st) sh' M' Q) : Ew l g (d + 1) (a + a1) (b + b1) m pc ls st0 sh M Q := by
  intro p e R s mid args below meth c H locs cells slots Z lr X h1 h2 h3 h4 hH hlo hL hr
  subst hs0
  refine ew_cont (va_runS (As := As.map (ew_v g)) (rest := st.map (ew_v g)) (own := m.1) (Ts := ew_tb) ⟨X.1, X.2.1, X.2.2.1, X.2.2.2.2.1, X.2.2.2.2.2.1⟩ (ew_met ok hA hir hc) ⟨callB_of (ws' := ew_tb) n X.2.2.2.2.2.1 (ew_goodIn ok.1 _ (fun _ h => h)) rfl rfl rfl (X.2.2.2.2.2.1 _ ok.2.1) (X.2.2.2.2.2.1 _ hk) ok.2.2.2.1 ⟨by show d + 1 ≤ R.frames; omega, by show 8 + (m'.2.2.2.1 + 11) + 28 * d ≤ R.locals; have := ok.2.2.2.2.1; omega⟩, X.2.2.2.2.2.1 _ hk2⟩ ⟨ew_blind, fun U hU hW => ⟨rfl, by rw [hU]; exact hH.moved hW.alike, X.2.2.2.2.2.2.2.2.moved hW⟩⟩ rfl (by rw [List.length_map]; exact hn) hL.1 (by rw [List.map_append, List.map_reverse]) (lv_room (ew_cats hst)) hd ⟨by omega, by omega⟩) X h1 h2 h3 h4 hlo hL hr k
theorem ew_callSN {As : List Value} {idx : Nat} {host : String} (hd : decode m.2.2.1 pc = .ok (.invokestatic idx, 3)) (ok : ew_ok m' n) (hk : Cond.methodLinkNest m.1 idx m'.2.1 host ∈ ew_nt) (hk2 : Cond.static m'.2.1 ∈ ew_tb) (hn : As.length = n) (hA : As.length ≤ m'.2.2.2.1) (hir : As.all ew_ir = true) (hst : (st.map fun v => v.category).sum ≤ 8) {st0 : List Value} (hs0 : st0 = As.reverse ++ st)
    (hc : Ew l g d a1 b1 m' 0 (ew_en m'.2.2.2.1 As) [] sh M Q1) (k : ∀ v sh' M', Q1 v sh' M' → Ew l g (d + 1) a b m (pc + 3) ls (v.toList ++ st) sh' M' Q) : Ew l g (d + 1) (a + a1) (b + b1) m pc ls st0 sh M Q := by
  intro p e R s mid args below meth c H locs cells slots Z lr X h1 h2 h3 h4 hH hlo hL hr
  subst hs0
  refine ew_cont (va_runSN (As := As.map (ew_v g)) (rest := st.map (ew_v g)) (own := m.1) (Ts := ew_tb) ⟨X.1, X.2.1, X.2.2.1, X.2.2.2.2.1, X.2.2.2.2.2.1⟩ (ew_met ok hA hir hc) ⟨va_cnB (ws' := ew_tb) n X.2.2.2.2.2.1 (ew_goodIn ok.1 _ (fun _ h => h)) rfl rfl rfl (X.2.2.2.2.2.2.2.2.2.1 _ hk) (X.2.2.2.2.2.1 _ ok.2.1) ok.2.2.2.1 ⟨by show d + 1 ≤ R.frames; omega, by show 8 + (m'.2.2.2.1 + 11) + 28 * d ≤ R.locals; have := ok.2.2.2.2.1; omega⟩, X.2.2.2.2.2.1 _ hk2, trivial⟩ ⟨ew_blind, fun U hU hW => ⟨rfl, by rw [hU]; exact hH.moved hW.alike, X.2.2.2.2.2.2.2.2.moved hW⟩⟩ rfl (by rw [List.length_map]; exact hn) hL.1 (by rw [List.map_append, List.map_reverse]) (lv_room (ew_cats hst)) hd ⟨by omega, by omega⟩) X h1 h2 h3 h4 hlo hL hr k
theorem ew_callI {As : List Value} {idx i : Nat} (hd : decode m.2.2.1 pc = .ok (.invokespecial idx, 3)) (ok : ew_ok m' n) (hk : Cond.methodLink m.1 idx m'.2.1 ∈ ew_tb) (hk2 : Cond.instanceMethod m'.2.1 ∈ ew_tb) (hini : m'.2.1.name = "<init>") (hret : m'.2.2.2.2 = none) (hn : As.length = n) (hA : As.length + 1 ≤ m'.2.2.2.1) (hir : As.all ew_ir = true) (hst : (st.map fun v => v.category).sum ≤ 8) {st0 : List Value} (hs0 : st0 = As.reverse ++ .ref i :: st)
    (hc : Ew l g d a1 b1 m' 0 (ew_en m'.2.2.2.1 (.ref i :: As)) [] sh M Q1) (k : ∀ v sh' M', Q1 v sh' M' → Ew l g (d + 1) a b m (pc + 3) ls (v.toList ++ st) sh' M' Q) : Ew l g (d + 1) (a + a1) (b + b1) m pc ls st0 sh M Q := by
  intro p e R s mid args below meth c H locs cells slots Z lr X h1 h2 h3 h4 hH hlo hL hr
  subst hs0
  have hM := ew_met (As := .ref i :: As) ok hA (by simpa [ew_ir] using hir) hc
  have hok := ok.1
  rw [hret] at hM hok
  refine ew_cont (va_runI (As := As.map (ew_v g)) (b := ew_ad g i) (rest := st.map (ew_v g)) (own := m.1) (Ts := ew_tb) ⟨X.1, X.2.1, X.2.2.1, X.2.2.2.2.1, X.2.2.2.2.2.1⟩ hM ⟨callB_of (ws' := ew_tb) n X.2.2.2.2.2.1 (ew_goodIn hok _ (fun _ h => h)) rfl rfl rfl (X.2.2.2.2.2.1 _ ok.2.1) (X.2.2.2.2.2.1 _ hk) ok.2.2.2.1 ⟨by show d + 1 ≤ R.frames; omega, by show 8 + (m'.2.2.2.1 + 11) + 28 * d ≤ R.locals; have := ok.2.2.2.2.1; omega⟩, hini, X.2.2.2.2.2.1 _ hk2⟩ ⟨ew_blind, fun U hU hW => ⟨rfl, by rw [hU]; exact hH.moved hW.alike, X.2.2.2.2.2.2.2.2.moved hW⟩⟩ rfl (by rw [List.length_map]; exact hn) hL.1 (by rw [List.map_append, List.map_reverse]; rfl) (lv_room (ew_cats hst)) hd ⟨by omega, by omega⟩) X h1 h2 h3 h4 hlo hL hr k
theorem ew_callIN {As : List Value} {idx i : Nat} {host : String} (hd : decode m.2.2.1 pc = .ok (.invokespecial idx, 3)) (ok : ew_ok m' n) (hk : Cond.methodLinkNest m.1 idx m'.2.1 host ∈ ew_nt) (hk2 : Cond.instanceMethod m'.2.1 ∈ ew_tb) (hini : m'.2.1.name = "<init>") (hret : m'.2.2.2.2 = none) (hn : As.length = n) (hA : As.length + 1 ≤ m'.2.2.2.1) (hir : As.all ew_ir = true) (hst : (st.map fun v => v.category).sum ≤ 8) {st0 : List Value} (hs0 : st0 = As.reverse ++ .ref i :: st)
    (hc : Ew l g d a1 b1 m' 0 (ew_en m'.2.2.2.1 (.ref i :: As)) [] sh M Q1) (k : ∀ v sh' M', Q1 v sh' M' → Ew l g (d + 1) a b m (pc + 3) ls (v.toList ++ st) sh' M' Q) : Ew l g (d + 1) (a + a1) (b + b1) m pc ls st0 sh M Q := by
  intro p e R s mid args below meth c H locs cells slots Z lr X h1 h2 h3 h4 hH hlo hL hr
  subst hs0
  have hM := ew_met (As := .ref i :: As) ok hA (by simpa [ew_ir] using hir) hc
  have hok := ok.1
  rw [hret] at hM hok
  refine ew_cont (va_runIN (As := As.map (ew_v g)) (b := ew_ad g i) (rest := st.map (ew_v g)) (own := m.1) (Ts := ew_tb) ⟨X.1, X.2.1, X.2.2.1, X.2.2.2.2.1, X.2.2.2.2.2.1⟩ hM ⟨va_cnB (ws' := ew_tb) n X.2.2.2.2.2.1 (ew_goodIn hok _ (fun _ h => h)) rfl rfl rfl (X.2.2.2.2.2.2.2.2.2.1 _ hk) (X.2.2.2.2.2.1 _ ok.2.1) ok.2.2.2.1 ⟨by show d + 1 ≤ R.frames; omega, by show 8 + (m'.2.2.2.1 + 11) + 28 * d ≤ R.locals; have := ok.2.2.2.2.1; omega⟩, hini, X.2.2.2.2.2.1 _ hk2⟩ ⟨ew_blind, fun U hU hW => ⟨rfl, by rw [hU]; exact hH.moved hW.alike, X.2.2.2.2.2.2.2.2.moved hW⟩⟩ rfl (by rw [List.length_map]; exact hn) hL.1 (by rw [List.map_append, List.map_reverse]; rfl) (lv_room (ew_cats hst)) hd ⟨by omega, by omega⟩) X h1 h2 h3 h4 hlo hL hr k
theorem ew_recv {p : Program} {s : State} {mid : MethodId} {args : Array Value} {meth : Method} {c : Code} {H : Heap} {i ci : Nat} {fs : List (Option (Option Nat))} {r : vw_C} (X : ew_x g m p s mid args meth c) (hH : ew_h g s sh M H) (hs : sh[i]? = some (.inr (.inr (ci, fs)))) (hc : ew_cl[ci]? = some r) : ∃ cellB : Cell, H[ew_ad g i]? = some cellB ∧ cellB.vm.isStatics = false ∧ s.vm.findClass r.1 = some cellB.cls := by
  obtain ⟨r', hr', hl, ce, q1, q2, q3, q4⟩ := hH.2.2.1 i _ hs
  cases hr'.symm.trans hc
  exact ⟨ce, q1, by rw [q3]; rfl, by rw [q2]; exact (X.2.2.2.2.2.2.2.2.1 ci _ hc).2.1⟩
theorem ew_callV {As : List Value} {idx i ci : Nat} {fs : List (Option (Option Nat))} {r : vw_C} (hd : decode m.2.2.1 pc = .ok (.invokevirtual idx, 3)) (ok : ew_ok m' n) (hs : sh[i]? = some (.inr (.inr (ci, fs)))) (hcl : ew_cl[ci]? = some r) (hk : Cond.methodLink m.1 idx m'.2.1 ∈ ew_tb) (hk2 : Cond.instanceMethod m'.2.1 ∈ ew_tb) (hk3 : Cond.selects r.1 m'.2.1 m'.2.1 ∈ ew_tb) (hn : As.length = n) (hA : As.length + 1 ≤ m'.2.2.2.1) (hir : As.all ew_ir = true) (hst : (st.map fun v => v.category).sum ≤ 8) {st0 : List Value} (hs0 : st0 = As.reverse ++ .ref i :: st)
    (hc : Ew l g d a1 b1 m' 0 (ew_en m'.2.2.2.1 (.ref i :: As)) [] sh M Q1) (k : ∀ v sh' M', Q1 v sh' M' → Ew l g (d + 1) a b m (pc + 3) ls (v.toList ++ st) sh' M' Q) : Ew l g (d + 1) (a + a1) (b + b1) m pc ls st0 sh M Q := by
  intro p e R s mid args below meth c H locs cells slots Z lr X h1 h2 h3 h4 hH hlo hL hr
  subst hs0
  refine ew_cont (va_runV (As := As.map (ew_v g)) (b := ew_ad g i) (C := r.1) (rest := st.map (ew_v g)) (own := m.1) (Ts := ew_tb) ⟨X.1, X.2.1, X.2.2.1, X.2.2.2.2.1, X.2.2.2.2.2.1⟩ (ew_met (As := .ref i :: As) ok hA (by simpa [ew_ir] using hir) hc) ⟨callB_of (ws' := ew_tb) n X.2.2.2.2.2.1 (ew_goodIn ok.1 _ (fun _ h => h)) rfl rfl rfl (X.2.2.2.2.2.1 _ ok.2.1) (X.2.2.2.2.2.1 _ hk) ok.2.2.2.1 ⟨by show d + 1 ≤ R.frames; omega, by show 8 + (m'.2.2.2.1 + 11) + 28 * d ≤ R.locals; have := ok.2.2.2.2.1; omega⟩, X.2.2.2.2.2.1 _ hk2, X.2.2.2.2.2.1 _ hk3⟩ ⟨ew_blind, ew_recv X hH hs hcl, fun U hU hW => ⟨rfl, by rw [hU]; exact hH.moved hW.alike, X.2.2.2.2.2.2.2.2.moved hW⟩⟩ rfl (by rw [List.length_map]; exact hn) hL.1 (by rw [List.map_append, List.map_reverse]; rfl) (lv_room (ew_cats hst)) hd ⟨by omega, by omega⟩) X h1 h2 h3 h4 hlo hL hr k
theorem ew_callVN {As : List Value} {idx i ci : Nat} {host : String} {fs : List (Option (Option Nat))} {r : vw_C} (hd : decode m.2.2.1 pc = .ok (.invokevirtual idx, 3)) (ok : ew_ok m' n) (hs : sh[i]? = some (.inr (.inr (ci, fs)))) (hcl : ew_cl[ci]? = some r) (hk : Cond.methodLinkNest m.1 idx m'.2.1 host ∈ ew_nt) (hk2 : Cond.instanceMethod m'.2.1 ∈ ew_tb) (hk3 : Cond.selects r.1 m'.2.1 m'.2.1 ∈ ew_tb) (hn : As.length = n) (hA : As.length + 1 ≤ m'.2.2.2.1) (hir : As.all ew_ir = true) (hst : (st.map fun v => v.category).sum ≤ 8) {st0 : List Value} (hs0 : st0 = As.reverse ++ .ref i :: st)
    (hc : Ew l g d a1 b1 m' 0 (ew_en m'.2.2.2.1 (.ref i :: As)) [] sh M Q1) (k : ∀ v sh' M', Q1 v sh' M' → Ew l g (d + 1) a b m (pc + 3) ls (v.toList ++ st) sh' M' Q) : Ew l g (d + 1) (a + a1) (b + b1) m pc ls st0 sh M Q := by
  intro p e R s mid args below meth c H locs cells slots Z lr X h1 h2 h3 h4 hH hlo hL hr
  subst hs0
  refine ew_cont (va_runVN (As := As.map (ew_v g)) (b := ew_ad g i) (C := r.1) (rest := st.map (ew_v g)) (own := m.1) (Ts := ew_tb) ⟨X.1, X.2.1, X.2.2.1, X.2.2.2.2.1, X.2.2.2.2.2.1⟩ (ew_met (As := .ref i :: As) ok hA (by simpa [ew_ir] using hir) hc) ⟨va_cnB (ws' := ew_tb) n X.2.2.2.2.2.1 (ew_goodIn ok.1 _ (fun _ h => h)) rfl rfl rfl (X.2.2.2.2.2.2.2.2.2.1 _ hk) (X.2.2.2.2.2.1 _ ok.2.1) ok.2.2.2.1 ⟨by show d + 1 ≤ R.frames; omega, by show 8 + (m'.2.2.2.1 + 11) + 28 * d ≤ R.locals; have := ok.2.2.2.2.1; omega⟩, X.2.2.2.2.2.1 _ hk2, X.2.2.2.2.2.1 _ hk3⟩ ⟨ew_blind, ew_recv X hH hs hcl, fun U hU hW => ⟨rfl, by rw [hU]; exact hH.moved hW.alike, X.2.2.2.2.2.2.2.2.moved hW⟩⟩ rfl (by rw [List.length_map]; exact hn) hL.1 (by rw [List.map_append, List.map_reverse]; rfl) (lv_room (ew_cats hst)) hd ⟨by omega, by omega⟩) X h1 h2 h3 h4 hlo hL hr k
end EWC
end
section
/-! new int[N][K] -/
def mn_oc (c : ClassId) (N h i : Nat) : Cell := arrV c N (fun j => if j < i then .ref (h + 1 + j) else .null)
def mn_ic (c : ClassId) (K : Nat) : Cell := arrV c K (fun _ => .int 0)
def mn_st (s : State) (c comp : ClassId) (N K : Nat) : Nat → State
  | 0 => s.pushCell (mn_oc c N s.heap.size 0)
  | i + 1 => ((mn_st s c comp N K i).pushCell (mn_ic comp K)).setCell s.heap.size (mn_oc c N s.heap.size (i + 1))
theorem mn_oc_set (c : ClassId) (N h i : Nat) : (mn_oc c N h i).setSlot i (.ref (h + 1 + i)) = mn_oc c N h (i + 1) := by
  unfold mn_oc
  rw [arrV_store]
  refine congrArg (arrV c N) (funext fun j => ?_)
  unfold updV
  by_cases e : j = i
  · subst e
    rw [if_pos rfl, if_pos (by omega)]
  · rw [if_neg e]
    dsimp only
    by_cases hj : j < i
    · rw [if_pos hj, if_pos (by omega)]
    · rw [if_neg hj, if_neg (by omega)]
theorem mn_facts (s : State) (c comp : ClassId) (N K : Nat) : ∀ i : Nat, (mn_st s c comp N K i).heap.size = s.heap.size + 1 + i ∧ (mn_st s c comp N K i).heap[s.heap.size]? = some (mn_oc c N s.heap.size i) ∧ (mn_st s c comp N K i).vm = s.vm ∧ (mn_st s c comp N K i).slotsUsed = s.slotsUsed + N + i * K ∧ (∀ q : Nat, q < s.heap.size → (mn_st s c comp N K i).heap[q]? = s.heap[q]?) ∧ ∀ j : Nat, j < i → (mn_st s c comp N K i).heap[s.heap.size + 1 + j]? = some (mn_ic comp K)
  | 0 => by
    refine ⟨by simp [mn_st], by simp [mn_st], rfl, ?_, fun q hq => State.heap_pushCell_of_lt _ _ hq, fun j h => absurd h (Nat.not_lt_zero _)⟩
    have h : (mn_oc c N s.heap.size 0).slots.size = N := arrV_size _ _ _
    simp [mn_st, h]
  | i + 1 => by
    obtain ⟨h1, h2, h3, h4, h5, h6⟩ := mn_facts s c comp N K i
    have hK : (mn_ic comp K).slots.size = K := arrV_size _ _ _
    have hlt : s.heap.size < (mn_st s c comp N K i).heap.size := by omega
    have hb : ((mn_st s c comp N K i).pushCell (mn_ic comp K)).heap[s.heap.size]? = some (mn_oc c N s.heap.size i) := by
      rw [State.heap_pushCell_of_lt (h := hlt)]
      exact h2
    refine ⟨?_, State.heap_setCell_self hb, by simp [mn_st, h3], ?_, fun q hq => ?_, fun j hj => ?_⟩
    · simp [mn_st, State.setCell, h1]
      omega
    · simp [mn_st, h4, hK, Nat.succ_mul]
      omega
    · show (((mn_st s c comp N K i).pushCell (mn_ic comp K)).setCell s.heap.size _).heap[q]? = _
      have hq2 : q < (mn_st s c comp N K i).heap.size := by omega
      rw [State.heap_setCell_other (Nat.ne_of_gt hq), State.heap_pushCell_of_lt (h := hq2)]
      exact h5 q hq
    · show (((mn_st s c comp N K i).pushCell (mn_ic comp K)).setCell s.heap.size _).heap[s.heap.size + 1 + j]? = _
      rw [State.heap_setCell_other (show s.heap.size ≠ s.heap.size + 1 + j by omega)]
      rcases Nat.lt_or_ge j i with hj' | hj'
      · have hq2 : s.heap.size + 1 + j < (mn_st s c comp N K i).heap.size := by omega
        rw [State.heap_pushCell_of_lt (h := hq2)]
        exact h6 j hj'
      · have e : j = i := by omega
        subst e
        rw [← h1]
        exact State.heap_pushCell_size _ _
theorem mn_top (s : State) (f : JFrame) (c comp : ClassId) (N K : Nat) : ∀ i : Nat, mn_st (s.setTop f) c comp N K i = (mn_st s c comp N K i).setTop f
  | 0 => rfl
  | i + 1 => by simp only [mn_st, mn_top s f c comp N K i, State.heap_setTop, State.pushCell_setTop, State.setCell_setTop]
theorem mn_stand {p : Program} {l : Launch} {e : Env} {R : Room} {s : State} {m : MethodId} {args : Array Value} {below : List Frame} {meth : Method} {c : Code} {T : State} {locs : List Loc} {cells slots : Nat} (X : Stand p l e R s m args below meth c T locs cells slots) (cA comp : ClassId) (N K : Nat) :
    ∀ i : Nat, Stand p l e R s m args below meth c (mn_st T cA comp N K i) (locs ++ (List.range i).map fun j => ⟨T.heap.size, j⟩) (cells + 1 + i) (slots + N + i * K)
  | 0 => by
    have h := X.pushed (mn_oc cA N T.heap.size 0)
    rw [show (mn_oc cA N T.heap.size 0).slots.size = N from arrV_size _ _ _] at h
    simpa [mn_st] using h
  | i + 1 => by
    have Xi := mn_stand X cA comp N K i
    obtain ⟨h1, h2, h3, h4, h5, h6⟩ := mn_facts T cA comp N K i
    have hlt : T.heap.size < (mn_st T cA comp N K i).heap.size := by omega
    have hb : ((mn_st T cA comp N K i).pushCell (mn_ic comp K)).heap[T.heap.size]? = some (mn_oc cA N T.heap.size i) := by
      rw [State.heap_pushCell_of_lt (h := hlt)]
      exact h2
    have h := (Xi.pushed (mn_ic comp K)).stored hb i (.ref (T.heap.size + 1 + i))
    rw [show (mn_ic comp K).slots.size = K from arrV_size _ _ _, mn_oc_set] at h
    have e2 : (locs ++ (List.range (i + 1)).map fun j => (⟨T.heap.size, j⟩ : Loc)) = (locs ++ (List.range i).map fun j => (⟨T.heap.size, j⟩ : Loc)) ++ [⟨T.heap.size, i⟩] := by simp [List.range_succ, List.append_assoc]
    have e3 : slots + N + (i + 1) * K = slots + N + i * K + K := by rw [Nat.succ_mul]; omega
    rw [e2, e3]
    exact h
section MNW
variable {E : CtlPost} {e : Env} {d : Bool} {acts : List Action} {s : State}
theorem mn_wp1 {comp cc : ClassId} {kc : Class} {k : Int32} {K : Nat} (hkc : s.vm.classes[comp]? = some kc) (hkindc : kc.kind = .array cc .int) (hk : ¬ k < 0) (hK : k.toNatClampNeg = K)
    (hl2 : ¬ K > e.platform.arrayLengthLimit) (hh2 : ¬ K * 4 > e.platform.maxHeapBytes) (h1 : s.heap.size < e.platform.maxCells) (h2 : s.slotsUsed + K ≤ e.platform.maxSlots)
    {Q : Addr → Pre} (hq : ∀ acts', Q s.heap.size d acts' (s.pushCell (mn_ic comp K))) : wp (multianewarray.make comp [k]) Q E e d acts s := by
  subst hK
  rw [multianewarray.make]
  simp only [wp_bind', W.ite, hk, if_false, wp_pure', W.theClass, hkc, hkindc, Option.some.injEq, exists_eq_left']
  refine W.newArray_of hkc hkindc hl2 hh2 h1 h2 rfl (fun acts' => ?_)
  have := hq acts'
  unfold mn_ic at this
  rw [← arrV_new] at this
  exact this
theorem mn_wp2 {c comp cc : ClassId} {kA kc : Class} {n k : Int32} {N K : Nat} (hkA : s.vm.classes[c]? = some kA) (hkind : kA.kind = .array comp (.array .int))
    (hkc : s.vm.classes[comp]? = some kc) (hkindc : kc.kind = .array cc .int) (hn : ¬ n < 0) (hk : ¬ k < 0) (hN : n.toNatClampNeg = N) (hK : k.toNatClampNeg = K)
    (hl1 : ¬ N > e.platform.arrayLengthLimit) (hh1 : ¬ N * 4 > e.platform.maxHeapBytes) (hl2 : ¬ K > e.platform.arrayLengthLimit) (hh2 : ¬ K * 4 > e.platform.maxHeapBytes)
    (hc : s.heap.size + 1 + N ≤ e.platform.maxCells) (hs : s.slotsUsed + N + N * K ≤ e.platform.maxSlots)
    {Q : Addr → Pre} (hq : ∀ d' acts', Q s.heap.size d' acts' (mn_st s c comp N K N)) : wp (multianewarray.make c [n, k]) Q E e d acts s := by
  subst hN
  have hfind : ([k].find? (· < 0)) = none := by simp [hk]
  rw [multianewarray.make]
  simp only [wp_bind', W.ite, hn, if_false, wp_pure', W.theClass, hkA, hkind, Option.some.injEq, exists_eq_left']
  refine W.newArray_of hkA hkind hl1 hh1 (by omega) (by have := Nat.zero_le (n.toNatClampNeg * K); omega) rfl (fun acts' => ?_)
  simp only [hfind]
  rw [ite_self, wp_bind', Std.Legacy.Range.forIn_eq_forIn_range']
  have hsz : ([:n.toNatClampNeg] : Std.Legacy.Range).size = n.toNatClampNeg := by simp [Std.Legacy.Range.size]
  rw [hsz]
  show wp (forIn (List.range' 0 n.toNatClampNeg 1) PUnit.unit _) _ E e d acts' _
  have h00 : s.pushCell { cls := c, slots := Array.replicate n.toNatClampNeg .null } = mn_st s c comp n.toNatClampNeg K 0 := by
    show _ = s.pushCell (mn_oc c n.toNatClampNeg s.heap.size 0)
    refine congrArg s.pushCell ?_
    rw [arrV_new]
    rfl
  rw [h00]
  refine wp_forIn_inv (fun rest s' => ∃ i : Nat, i ≤ n.toNatClampNeg ∧ rest = List.range' i (n.toNatClampNeg - i) ∧ s' = mn_st s c comp n.toNatClampNeg K i) _ _ ⟨0, Nat.zero_le _, rfl, rfl⟩ ?_ ?_
  · rintro x rest s' d' acts2 Q' ⟨i, hi, hl, rfl⟩ hnext
    have hlt : i < n.toNatClampNeg := by
      rcases Nat.lt_or_ge i n.toNatClampNeg with h | h
      · exact h
      · rw [show n.toNatClampNeg - i = 0 from by omega] at hl
        simp at hl
    rw [show n.toNatClampNeg - i = (n.toNatClampNeg - (i + 1)) + 1 from by omega, List.range'_succ] at hl
    obtain ⟨rfl, hrest⟩ : x = i ∧ rest = List.range' (i + 1) (n.toNatClampNeg - (i + 1)) := ⟨(List.cons.inj hl).1, (List.cons.inj hl).2⟩
    obtain ⟨f1, f2, f3, f4, -, -⟩ := mn_facts s c comp n.toNatClampNeg K x
    have hmul : x * K + K ≤ n.toNatClampNeg * K := by
      have := Nat.mul_le_mul_right K (show x + 1 ≤ n.toNatClampNeg from hlt)
      rw [Nat.succ_mul] at this
      exact this
    simp only [wp_bind']
    refine mn_wp1 (by rw [f3]; exact hkc) hkindc hk hK hl2 hh2 (by rw [f1]; omega) (by rw [f4]; omega) (fun acts3 => ?_)
    have hlt0 : s.heap.size < (mn_st s c comp n.toNatClampNeg K x).heap.size := by omega
    simp only [wp_bind', W.writeLoc, wp_pure']
    refine ⟨mn_oc c n.toNatClampNeg s.heap.size x, by rw [State.heap_pushCell_of_lt (h := hlt0)]; exact f2, (fun h => by cases h), by show x < (arrV _ _ _).slots.size; rw [arrV_size]; exact hlt, ?_, hnext _ _ _ ⟨x + 1, hlt, hrest, ?_⟩⟩
    · show State.fitsSlot _ c .none x _ = true
      simp [State.fitsSlot, State.slotType?, f3, hkA, hkind, fits]
    · rw [f1, mn_oc_set]
      rfl
  · rintro s' d' acts2 ⟨i, hi, hl, rfl⟩
    have hiN : i = n.toNatClampNeg := by
      rcases Nat.lt_or_ge i n.toNatClampNeg with h | h
      · rw [show n.toNatClampNeg - i = (n.toNatClampNeg - (i + 1)) + 1 from by omega, List.range'_succ] at hl
        cases hl
      · omega
    subst hiN
    simp only [wp_pure']
    exact hq _ _
end MNW

theorem ew_mna {l : Launch} {g : ew_G} {d a b : Nat} {m : ew_D} {pc : Nat} {ls st : List Value} {sh : List ew_S} {M : ew_M} {Q : Option Value → List ew_S → ew_M → Prop} {N K idx : Nat} {x y : Int32} (hd : decode m.2.2.1 pc = .ok (.multianewarray idx 2, 4)) (hx : x = nI N) (hy : y = nI K) (hN : N ≤ 1000) (hK : K ≤ 1000) (hk : Cond.classLink m.1 idx ("[" ++ (FieldType.array .int).toString) ∈ ew_tb)
    (k : Ew l g d a b m (pc + 4) ls (.ref sh.length :: st) (sh ++ (.inr (.inl (0, (List.range N).map fun j => some (sh.length + 1 + j))) :: List.replicate N (.inl K))) (fun q => if sh.length ≤ q then ew_z else M q) Q) : Ew l g d (a + (1 + N)) (b + (N + N * K)) m pc ls (.int y :: .int x :: st) sh M Q := by
  intro p e R s mid args below meth c H locs cells slots Z lr X h1 h2 h3 h4 hH hlo hL hr
  have hs := X.2.2.2.2.2.2.2.2.2.2.2.2.2.2.2
  have htop := ew_ad_top hH
  obtain ⟨-, -, ⟨kA, kC, comp, cc, b1, b2, b3, b4, b5, b6⟩, -⟩ := X.2.2.2.2.2.2.2.2
  subst hx
  subst hy
  have hcN : (nI N).toNatClampNeg = N := nI_clamp (by omega)
  have hcK : (nI K).toNatClampNeg = K := nI_clamp (by omega)
  intro T hT XS
  have hpl : e.platform.magicAccessors = ({} : Platform).magicAccessors := by rw [XS.admits.platform]
  obtain ⟨c0, hfc0, hcl⟩ := Cond.classLink_spec X.2.2.2.2.1 (X.2.2.2.2.2.1 _ hk) e.platform hpl
  cases b3.symm.trans hfc0
  obtain ⟨hg₁, hwarm₁, hready₁⟩ := State.classEntry (e := e) XS.warmed hcl
  generalize T.vm.noted mid.cls idx (.cls (g.2.2.2.1 0)) = vm₁ at hg₁ hwarm₁ hready₁
  have hal : s.vm.Alike vm₁ := hwarm₁.alike
  obtain ⟨kA₁, hkA₁, heA⟩ := hal.2.2 _ _ b1
  obtain ⟨kC₁, hkC₁, heC⟩ := hal.2.2 _ _ b4
  have hkindA₁ : kA₁.kind = .array comp (.array .int) := by rw [heA]; exact b2
  have hkindC₁ : kC₁.kind = .array cc .int := by rw [heC]; exact b5
  have X₁ := XS.noted hwarm₁
  obtain ⟨hr1, hr2⟩ := XS.roomAbove (a := 1 + N) (b := N + N * K) (by omega) (by omega)
  have XF := mn_stand X₁ (g.2.2.2.1 0) comp N K N
  have XF2 : Stand p l e R s mid args below meth c (mn_st (T.setVm vm₁) (g.2.2.2.1 0) comp N K N) (locs ++ (List.range N).map fun j => ⟨T.heap.size, j⟩) (cells + 1 + N) (slots + N + N * K) := XF
  obtain ⟨f1, f2, f3, f4, f5, f6⟩ := mn_facts (T.setVm vm₁) (g.2.2.2.1 0) comp N K N
  have hTh : (T.setVm vm₁).heap = H := hT
  rw [hTh] at f1 f2 f5 f6
  generalize hF : mn_st (T.setVm vm₁) (g.2.2.2.1 0) comp N K N = F at XF2 f1 f2 f3 f4 f5 f6
  have l1 := hH.1
  have l2 := hH.2.1
  have hAr : ∀ (n : Nat) (z : Nat → Value), s.isArrayOf (arrV comp n z) .int := fun n z => ⟨(fun q h => by cases h), kC, b4, cc, b5⟩
  have hH' : ew_h g s (sh ++ (.inr (.inl (0, (List.range N).map fun j => some (sh.length + 1 + j))) :: List.replicate N (.inl K))) (fun q => if sh.length ≤ q then ew_z else M q) F.heap := by
    refine ⟨by rw [List.length_append]; omega, by rw [f1, l2, List.length_append, List.length_cons, List.length_replicate]; omega, fun i x hx => ?_, fun q hq => ?_⟩
    · by_cases hl : i < sh.length
      · rw [List.getElem?_append_left hl] at hx
        exact (hH.2.2.1 i x hx).kept (f5 _ (ew_ad_lt hH hs hl)) (if_neg (by omega))
      · rw [List.getElem?_append_right (by omega)] at hx
        by_cases e0 : i = sh.length
        · subst e0
          rw [Nat.sub_self] at hx
          cases hx
          show F.heap[ew_ad g sh.length]? = _
          rw [htop, f2]
          unfold mn_oc
          rw [List.length_map, List.length_range]
          refine congrArg some (congrArg (arrV _ N) (funext fun j => ?_))
          by_cases hj : j < N
          · rw [if_pos hj]
            have hg : ((List.range N).map fun j => some (sh.length + 1 + j)).getD j none = some (sh.length + 1 + j) := by
              simp [List.getD, List.getElem?_map, List.getElem?_range hj]
            rw [hg]
            have ha : ew_ad g (sh.length + 1 + j) = H.size + 1 + j := by
              unfold ew_ad
              rw [if_neg (by omega)]
              omega
            show Value.ref (H.size + 1 + j) = Value.ref (ew_ad g (sh.length + 1 + j))
            rw [ha]
          · rw [if_neg hj]
            simp [List.getD, List.getElem?_map, List.getElem?_eq_none (show (List.range N).length ≤ j by rw [List.length_range]; omega), ew_o]
        · obtain ⟨t, ht⟩ : ∃ t, i - sh.length = t + 1 := ⟨i - sh.length - 1, by omega⟩
          rw [ht, List.getElem?_cons_succ, List.getElem?_replicate] at hx
          by_cases htN : t < N
          · rw [if_pos htN] at hx
            cases hx
            have had : ew_ad g i = H.size + 1 + t := by
              unfold ew_ad
              rw [if_neg (by omega)]
              omega
            refine ⟨mn_ic comp K, by rw [had]; exact f6 t htN, hAr _ _, (fun q => by cases q), arrV_size _ _ _, fun j hj => ?_⟩
            unfold mn_ic
            have hz : (fun q => if sh.length ≤ q then ew_z else M q) i = ew_z := if_pos (by omega)
            rw [arrV_read _ _ hj, hz]
            rfl
          · rw [if_neg htN] at hx
            cases hx
    · rw [f5 q (by omega)]
      exact hH.2.2.2 q hq
  have hW := k p e R s mid args below meth c F.heap (locs ++ (List.range N).map fun j => ⟨T.heap.size, j⟩) (cells + 1 + N) (slots + N + N * K) Z lr X h1 h2 (by omega) (by omega) hH' (fun q hq => (List.mem_append.mp hq).elim (hlo q) (fun h => by
    obtain ⟨j, -, rfl⟩ := List.mem_map.mp h
    show g.1 ≤ T.heap.size
    rw [hT]
    omega)) hL (fun v sh' M' H2 locs' pc' lr' q w z t => by
    have := hr v sh' M' H2 locs' pc' lr' q w z t
    rw [show cells + (a + (1 + N)) = cells + 1 + N + a by omega, show slots + (b + (N + N * K)) = slots + N + N * K + b by omega] at this
    exact this)
  obtain ⟨t2, a2, b2'⟩ := hW F rfl XF2
  refine ⟨t2, ?_, b2'⟩
  have hl1 : ¬ N > e.platform.arrayLengthLimit := by rw [Launch.admits_arrayLengthLimit XS.admits]; omega
  have hh1 : ¬ N * 4 > e.platform.maxHeapBytes := by rw [Launch.admits_maxHeapBytes XS.admits]; omega
  have hl2 : ¬ K > e.platform.arrayLengthLimit := by rw [Launch.admits_arrayLengthLimit XS.admits]; omega
  have hh2 : ¬ K * 4 > e.platform.maxHeapBytes := by rw [Launch.admits_maxHeapBytes XS.admits]; omega
  have hdg : decode c.code pc = .ok (.multianewarray idx 2, 4) := by rw [X.2.1]; exact hd
  jvm_step XS.here [X.1, hdg]
  simp only [multianewarray.sem, wp_bind']
  refine (W.resolveClassAt_links (State.method?_setTop (F0 mid pc lr ((Value.int (nI K) :: Value.int (nI N) :: st).map (ew_v g))) XS.here.top) hg₁).mpr ?_
  simp only [wp_bind']
  rw [W.popN, if_neg (by decide)]
  refine ⟨_, State.topJava?_setTop' (s := T.setVm vm₁) _ XS.here.top, [.int (nI N), .int (nI K)], st.map (ew_v g), rfl, rfl, ?_⟩
  simp only [List.mapM_cons, List.mapM_nil, wp_bind', wp_pure']
  refine mn_wp2 (kA := kA₁) (kc := kC₁) (comp := comp) (cc := cc) (N := N) (K := K) hkA₁ hkindA₁ hkC₁ hkindC₁ (nI_pos (by omega)) (nI_pos (by omega)) hcN hcK hl1 hh1 hl2 hh2 (by show T.heap.size + 1 + _ ≤ _; omega) (by show T.slotsUsed + _ + _ ≤ _; omega) (fun d' acts' => ?_)
  have eS : ∀ f f' : JFrame, ((T.setTop f).setVm vm₁).setTop f' = (T.setVm vm₁).setTop f' := fun f f' => by
    show ((T.setVm vm₁).setTop f).setTop _ = _
    rw [State.setTop_setTop]
  rw [eS, mn_top, hF]
  simp only [wp_bind', W.mark, W.pushRef, State.topJava?_setTop' _ XF2.here.top, Option.some.injEq, exists_eq_left', State.setTop_setTop, State.heap_setTop]
  intro acts
  simp [jvm, XF2.here.top]
  have e9 : ew_v g (.ref sh.length) = .ref T.heap.size := by
    show Value.ref (ew_ad g sh.length) = _
    rw [htop, hT]
  rw [List.map_cons, e9] at a2
  exact a2
end
section
def m_P_init : ew_D := ("TraceProver", ⟨"TraceProver", "<init>", "()V"⟩, prog_1_method_1_code, 1, none)
def m_P_term : ew_D := ("TraceProver", ⟨"TraceProver", "term", "(IIII)I"⟩, prog_1_method_2_code, 5, (some .int))
def m_P_bound : ew_D := ("TraceProver", ⟨"TraceProver", "bound", "(III)I"⟩, prog_1_method_3_code, 4, (some .int))
def m_P_clear : ew_D := ("TraceProver", ⟨"TraceProver", "clear", "()V"⟩, prog_1_method_4_code, 1, none)
def m_P_set : ew_D := ("TraceProver", ⟨"TraceProver", "set", "(III)Z"⟩, prog_1_method_5_code, 4, (some .boolean))
def m_P_cell : ew_D := ("TraceProver", ⟨"TraceProver", "cell", "(II)I"⟩, prog_1_method_6_code, 3, (some .int))
def m_P_at : ew_D := ("TraceProver", ⟨"TraceProver", "at", "(II)I"⟩, prog_1_method_7_code, 3, (some .int))
def m_P_wrong : ew_D := ("TraceProver", ⟨"TraceProver", "wrong", "()I"⟩, prog_1_method_8_code, 2, (some .int))
def m_P_prove : ew_D := ("TraceProver", ⟨"TraceProver", "prove", "()I"⟩, prog_1_method_9_code, 2, (some .int))
def m_P_proof : ew_D := ("TraceProver", ⟨"TraceProver", "proof", "(I)I"⟩, prog_1_method_10_code, 2, (some .int))
def m_P_alter : ew_D := ("TraceProver", ⟨"TraceProver", "alter", "(II)Z"⟩, prog_1_method_11_code, 3, (some .boolean))
def m_P_verify : ew_D := ("TraceProver", ⟨"TraceProver", "verify", "()I"⟩, prog_1_method_12_code, 2, (some .int))
def m_P_position : ew_D := ("TraceProver", ⟨"TraceProver", "position", "(I)I"⟩, prog_1_method_13_code, 2, (some .int))
def m_P_isInProof : ew_D := ("TraceProver", ⟨"TraceProver", "isInProof", "(I)Z"⟩, prog_1_method_14_code, 2, (some .boolean))
def m_P_isColumn : ew_D := ("TraceProver", ⟨"TraceProver", "isColumn", "(I)Z"⟩, prog_1_method_15_code, 1, (some .boolean))
def m_P_isCell : ew_D := ("TraceProver", ⟨"TraceProver", "isCell", "(II)Z"⟩, prog_1_method_16_code, 2, (some .boolean))
def m_P_isLetter : ew_D := ("TraceProver", ⟨"TraceProver", "isLetter", "(I)Z"⟩, prog_1_method_17_code, 1, (some .boolean))
def m_P_mix : ew_D := ("TraceProver", ⟨"TraceProver", "mix", "(II)I"⟩, prog_1_method_18_code, 2, (some .int))
def m_P_stir : ew_D := ("TraceProver", ⟨"TraceProver", "stir", "(II)I"⟩, prog_1_method_19_code, 3, (some .int))
def m_Mo_init : ew_D := ("TraceProverModel", ⟨"TraceProverModel", "<init>", "()V"⟩, prog_12_method_1_code, 3, none)
def m_Mo_mod : ew_D := ("TraceProverModel", ⟨"TraceProverModel", "mod", "(I)I"⟩, prog_12_method_2_code, 2, (some .int))
def m_Mo_times : ew_D := ("TraceProverModel", ⟨"TraceProverModel", "times", "(II)I"⟩, prog_12_method_3_code, 2, (some .int))
def m_Mo_power : ew_D := ("TraceProverModel", ⟨"TraceProverModel", "power", "(II)I"⟩, prog_12_method_4_code, 4, (some .int))
def m_Mo_inverse : ew_D := ("TraceProverModel", ⟨"TraceProverModel", "inverse", "(I)I"⟩, prog_12_method_5_code, 4, (some .int))
def m_Mo_isNumber : ew_D := ("TraceProverModel", ⟨"TraceProverModel", "isNumber", "(I)Z"⟩, prog_12_method_6_code, 1, (some .boolean))
def m_Mo_w : ew_D := ("TraceProverModel", ⟨"TraceProverModel", "w", "(I)I"⟩, prog_12_method_7_code, 2, (some .int))
def m_Mo_x : ew_D := ("TraceProverModel", ⟨"TraceProverModel", "x", "(I)I"⟩, prog_12_method_8_code, 2, (some .int))
def m_Mo_h : ew_D := ("TraceProverModel", ⟨"TraceProverModel", "h", "(I)I"⟩, prog_12_method_9_code, 2, (some .int))
def m_Mo_mix : ew_D := ("TraceProverModel", ⟨"TraceProverModel", "mix", "(II)I"⟩, prog_12_method_10_code, 3, (some .int))
def m_Mo_isColumn : ew_D := ("TraceProverModel", ⟨"TraceProverModel", "isColumn", "(I)Z"⟩, prog_12_method_11_code, 1, (some .boolean))
def m_Mo_isRow : ew_D := ("TraceProverModel", ⟨"TraceProverModel", "isRow", "(I)Z"⟩, prog_12_method_12_code, 1, (some .boolean))
def m_Mo_term : ew_D := ("TraceProverModel", ⟨"TraceProverModel", "term", "(IIII)I"⟩, prog_12_method_13_code, 5, (some .int))
def m_Mo_bound : ew_D := ("TraceProverModel", ⟨"TraceProverModel", "bound", "(III)I"⟩, prog_12_method_14_code, 4, (some .int))
def m_Mo_clear : ew_D := ("TraceProverModel", ⟨"TraceProverModel", "clear", "()V"⟩, prog_12_method_15_code, 1, none)
def m_Mo_set : ew_D := ("TraceProverModel", ⟨"TraceProverModel", "set", "(III)Z"⟩, prog_12_method_16_code, 4, (some .boolean))
def m_Mo_cell : ew_D := ("TraceProverModel", ⟨"TraceProverModel", "cell", "(II)I"⟩, prog_12_method_17_code, 3, (some .int))
def m_Mo_constraints : ew_D := ("TraceProverModel", ⟨"TraceProverModel", "constraints", "()I"⟩, prog_12_method_18_code, 1, (some .int))
def m_Mo_valueAt : ew_D := ("TraceProverModel", ⟨"TraceProverModel", "valueAt", "(II)I"⟩, prog_12_method_19_code, 8, (some .int))
def m_Mo_at : ew_D := ("TraceProverModel", ⟨"TraceProverModel", "at", "(II)I"⟩, prog_12_method_20_code, 3, (some .int))
def m_Mo_summed : ew_D := ("TraceProverModel", ⟨"TraceProverModel", "summed", "(I)I"⟩, prog_12_method_21_code, 4, (some .int))
def m_Mo_letters : ew_D := ("TraceProverModel", ⟨"TraceProverModel", "letters", "(IIII)V"⟩, prog_12_method_22_code, 5, none)
def m_Mo_isWrong : ew_D := ("TraceProverModel", ⟨"TraceProverModel", "isWrong", "(I)Z"⟩, prog_12_method_23_code, 4, (some .boolean))
def m_Mo_wrong : ew_D := ("TraceProverModel", ⟨"TraceProverModel", "wrong", "()I"⟩, prog_12_method_24_code, 2, (some .int))
def m_Mo_composition : ew_D := ("TraceProverModel", ⟨"TraceProverModel", "composition", "(I)I"⟩, prog_12_method_25_code, 7, (some .int))
def m_Mo_folded : ew_D := ("TraceProverModel", ⟨"TraceProverModel", "folded", "(IIII)I"⟩, prog_12_method_26_code, 7, (some .int))
def m_Mo_tell : ew_D := ("TraceProverModel", ⟨"TraceProverModel", "tell", "(I)V"⟩, prog_12_method_27_code, 2, none)
def m_Mo_challenge : ew_D := ("TraceProverModel", ⟨"TraceProverModel", "challenge", "()I"⟩, prog_12_method_28_code, 1, (some .int))
def m_Mo_tellRules : ew_D := ("TraceProverModel", ⟨"TraceProverModel", "tellRules", "()V"⟩, prog_12_method_29_code, 3, none)
def m_Mo_tellRest : ew_D := ("TraceProverModel", ⟨"TraceProverModel", "tellRest", "(I)V"⟩, prog_12_method_30_code, 3, none)
def m_Mo_treeFrom : ew_D := ("TraceProverModel", ⟨"TraceProverModel", "treeFrom", "(I)I"⟩, prog_12_method_31_code, 1, (some .int))
def m_Mo_leavesOf : ew_D := ("TraceProverModel", ⟨"TraceProverModel", "leavesOf", "(I)I"⟩, prog_12_method_32_code, 1, (some .int))
def m_Mo_layerFrom : ew_D := ("TraceProverModel", ⟨"TraceProverModel", "layerFrom", "(I)I"⟩, prog_12_method_33_code, 1, (some .int))
def m_Mo_grow : ew_D := ("TraceProverModel", ⟨"TraceProverModel", "grow", "(I)I"⟩, prog_12_method_34_code, 5, (some .int))
def m_Mo_write : ew_D := ("TraceProverModel", ⟨"TraceProverModel", "write", "(I)V"⟩, prog_12_method_35_code, 2, none)
def m_Mo_writePath : ew_D := ("TraceProverModel", ⟨"TraceProverModel", "writePath", "(II)V"⟩, prog_12_method_36_code, 4, none)
def m_Mo_writeOpening : ew_D := ("TraceProverModel", ⟨"TraceProverModel", "writeOpening", "(I)V"⟩, prog_12_method_37_code, 6, none)
def m_Mo_nextLayer : ew_D := ("TraceProverModel", ⟨"TraceProverModel", "nextLayer", "(I)V"⟩, prog_12_method_38_code, 5, none)
def m_Mo_prove : ew_D := ("TraceProverModel", ⟨"TraceProverModel", "prove", "()I"⟩, prog_12_method_39_code, 4, (some .int))
def m_Mo_proof : ew_D := ("TraceProverModel", ⟨"TraceProverModel", "proof", "(I)I"⟩, prog_12_method_40_code, 2, (some .int))
def m_Mo_alter : ew_D := ("TraceProverModel", ⟨"TraceProverModel", "alter", "(II)Z"⟩, prog_12_method_41_code, 3, (some .boolean))
def m_Mo_placeOf : ew_D := ("TraceProverModel", ⟨"TraceProverModel", "placeOf", "(II)I"⟩, prog_12_method_42_code, 3, (some .int))
def m_Mo_allNumbers : ew_D := ("TraceProverModel", ⟨"TraceProverModel", "allNumbers", "()Z"⟩, prog_12_method_43_code, 4, (some .boolean))
def m_Mo_leads : ew_D := ("TraceProverModel", ⟨"TraceProverModel", "leads", "(IIII)Z"⟩, prog_12_method_44_code, 8, (some .boolean))
def m_Mo_opens : ew_D := ("TraceProverModel", ⟨"TraceProverModel", "opens", "(II)Z"⟩, prog_12_method_45_code, 6, (some .boolean))
def m_Mo_opensLayer : ew_D := ("TraceProverModel", ⟨"TraceProverModel", "opensLayer", "(III)Z"⟩, prog_12_method_46_code, 8, (some .boolean))
def m_Mo_composes : ew_D := ("TraceProverModel", ⟨"TraceProverModel", "composes", "(II)Z"⟩, prog_12_method_47_code, 7, (some .boolean))
def m_Mo_folds : ew_D := ("TraceProverModel", ⟨"TraceProverModel", "folds", "(III)Z"⟩, prog_12_method_48_code, 7, (some .boolean))
def m_Mo_code : ew_D := ("TraceProverModel", ⟨"TraceProverModel", "code", "(I)I"⟩, prog_12_method_49_code, 3, (some .int))
def m_Mo_verify : ew_D := ("TraceProverModel", ⟨"TraceProverModel", "verify", "()I"⟩, prog_12_method_50_code, 3, (some .int))
def m_Mo_position : ew_D := ("TraceProverModel", ⟨"TraceProverModel", "position", "(I)I"⟩, prog_12_method_51_code, 2, (some .int))
def m_Fi_holds : ew_D := ("TraceProver$Field", ⟨"TraceProver$Field", "holds", "(I)Z"⟩, prog_2_method_2_code, 1, (some .boolean))
def m_Fi_plus : ew_D := ("TraceProver$Field", ⟨"TraceProver$Field", "plus", "(II)I"⟩, prog_2_method_3_code, 2, (some .int))
def m_Fi_minus : ew_D := ("TraceProver$Field", ⟨"TraceProver$Field", "minus", "(II)I"⟩, prog_2_method_4_code, 2, (some .int))
def m_Fi_times : ew_D := ("TraceProver$Field", ⟨"TraceProver$Field", "times", "(II)I"⟩, prog_2_method_5_code, 2, (some .int))
def m_Fi_power : ew_D := ("TraceProver$Field", ⟨"TraceProver$Field", "power", "(II)I"⟩, prog_2_method_6_code, 5, (some .int))
def m_Fi_inverse : ew_D := ("TraceProver$Field", ⟨"TraceProver$Field", "inverse", "(I)I"⟩, prog_2_method_7_code, 1, (some .int))
def m_Pt_init : ew_D := ("TraceProver$Points", ⟨"TraceProver$Points", "<init>", "()V"⟩, prog_3_method_1_code, 7, none)
def m_Pt_rowPoint : ew_D := ("TraceProver$Points", ⟨"TraceProver$Points", "rowPoint", "(I)I"⟩, prog_3_method_2_code, 2, (some .int))
def m_Pt_constraintFactor : ew_D := ("TraceProver$Points", ⟨"TraceProver$Points", "constraintFactor", "(I)I"⟩, prog_3_method_3_code, 2, (some .int))
def m_Pt_boundFactor : ew_D := ("TraceProver$Points", ⟨"TraceProver$Points", "boundFactor", "(II)I"⟩, prog_3_method_4_code, 4, (some .int))
def m_Pt_interpolate : ew_D := ("TraceProver$Points", ⟨"TraceProver$Points", "interpolate", "([II)I"⟩, prog_3_method_5_code, 5, (some .int))
def m_Pt_rowsBefore : ew_D := ("TraceProver$Points", ⟨"TraceProver$Points", "rowsBefore", "(II)I"⟩, prog_3_method_6_code, 2, (some .int))
def m_Pt_rowBehind : ew_D := ("TraceProver$Points", ⟨"TraceProver$Points", "rowBehind", "(I)I"⟩, prog_3_method_7_code, 1, (some .int))
def m_Pt_fold : ew_D := ("TraceProver$Points", ⟨"TraceProver$Points", "fold", "(IIIII)I"⟩, prog_3_method_8_code, 9, (some .int))
def m_Pf_init : ew_D := ("TraceProver$Proof", ⟨"TraceProver$Proof", "<init>", "()V"⟩, prog_4_method_1_code, 1, none)
def m_Pf_columnStart : ew_D := ("TraceProver$Proof", ⟨"TraceProver$Proof", "columnStart", "(II)I"⟩, prog_4_method_2_code, 2, (some .int))
def m_Pf_columnIndex : ew_D := ("TraceProver$Proof", ⟨"TraceProver$Proof", "columnIndex", "(II)I"⟩, prog_4_method_3_code, 2, (some .int))
def m_Pf_layerStart : ew_D := ("TraceProver$Proof", ⟨"TraceProver$Proof", "layerStart", "(III)I"⟩, prog_4_method_4_code, 3, (some .int))
def m_Pf_layerIndex : ew_D := ("TraceProver$Proof", ⟨"TraceProver$Proof", "layerIndex", "(III)I"⟩, prog_4_method_5_code, 4, (some .int))
def m_Pf_layerSize : ew_D := ("TraceProver$Proof", ⟨"TraceProver$Proof", "layerSize", "(I)I"⟩, prog_4_method_6_code, 1, (some .int))
def m_Pf_columnLeaf : ew_D := ("TraceProver$Proof", ⟨"TraceProver$Proof", "columnLeaf", "(II)I"⟩, prog_4_method_7_code, 2, (some .int))
def m_Pf_layerLeaf : ew_D := ("TraceProver$Proof", ⟨"TraceProver$Proof", "layerLeaf", "(I)I"⟩, prog_4_method_8_code, 1, (some .int))
def m_Pf_isInField : ew_D := ("TraceProver$Proof", ⟨"TraceProver$Proof", "isInField", "()Z"⟩, prog_4_method_9_code, 2, (some .boolean))
def m_Pf_areColumnsInField : ew_D := ("TraceProver$Proof", ⟨"TraceProver$Proof", "areColumnsInField", "(I)Z"⟩, prog_4_method_10_code, 4, (some .boolean))
def m_Pf_areLayersInField : ew_D := ("TraceProver$Proof", ⟨"TraceProver$Proof", "areLayersInField", "(I)Z"⟩, prog_4_method_11_code, 4, (some .boolean))
def m_Pr_init : ew_D := ("TraceProver$Prover", ⟨"TraceProver$Prover", "<init>", "(LTraceProver$Points;LTraceProver$Rules;LTraceProver$Table;)V"⟩, prog_5_method_1_code, 5, none)
def m_Pr_writeTo : ew_D := ("TraceProver$Prover", ⟨"TraceProver$Prover", "writeTo", "(LTraceProver$Proof;)V"⟩, prog_5_method_2_code, 3, none)
def m_Pr_commitColumns : ew_D := ("TraceProver$Prover", ⟨"TraceProver$Prover", "commitColumns", "()I"⟩, prog_5_method_3_code, 2, (some .int))
def m_Pr_compose : ew_D := ("TraceProver$Prover", ⟨"TraceProver$Prover", "compose", "()V"⟩, prog_5_method_4_code, 3, none)
def m_Pr_foldInto : ew_D := ("TraceProver$Prover", ⟨"TraceProver$Prover", "foldInto", "(I)V"⟩, prog_5_method_5_code, 3, none)
def m_Pr_folded : ew_D := ("TraceProver$Prover", ⟨"TraceProver$Prover", "folded", "(II)I"⟩, prog_5_method_6_code, 4, (some .int))
def m_Pr_commitLayer : ew_D := ("TraceProver$Prover", ⟨"TraceProver$Prover", "commitLayer", "(I)I"⟩, prog_5_method_7_code, 4, (some .int))
def m_Pr_openColumns : ew_D := ("TraceProver$Prover", ⟨"TraceProver$Prover", "openColumns", "([II)V"⟩, prog_5_method_8_code, 6, none)
def m_Pr_openLayers : ew_D := ("TraceProver$Prover", ⟨"TraceProver$Prover", "openLayers", "([II)V"⟩, prog_5_method_9_code, 7, none)
def m_Ru_init : ew_D := ("TraceProver$Rules", ⟨"TraceProver$Rules", "<init>", "(LTraceProver$Points;)V"⟩, prog_6_method_1_code, 2, none)
def m_Ru_addTerm : ew_D := ("TraceProver$Rules", ⟨"TraceProver$Rules", "addTerm", "(IIII)I"⟩, prog_6_method_2_code, 5, (some .int))
def m_Ru_addBound : ew_D := ("TraceProver$Rules", ⟨"TraceProver$Rules", "addBound", "(III)I"⟩, prog_6_method_3_code, 4, (some .int))
def m_Ru_write : ew_D := ("TraceProver$Rules", ⟨"TraceProver$Rules", "write", "([IIIII)V"⟩, prog_6_method_4_code, 5, none)
def m_Ru_dropAll : ew_D := ("TraceProver$Rules", ⟨"TraceProver$Rules", "dropAll", "()V"⟩, prog_6_method_5_code, 1, none)
def m_Ru_areNone : ew_D := ("TraceProver$Rules", ⟨"TraceProver$Rules", "areNone", "()Z"⟩, prog_6_method_6_code, 1, (some .boolean))
def m_Ru_constraintCount : ew_D := ("TraceProver$Rules", ⟨"TraceProver$Rules", "constraintCount", "()I"⟩, prog_6_method_7_code, 1, (some .int))
def m_Ru_tellTo : ew_D := ("TraceProver$Rules", ⟨"TraceProver$Rules", "tellTo", "(LTraceProver$Talk;)V"⟩, prog_6_method_8_code, 4, none)
def m_Ru_tellParts : ew_D := ("TraceProver$Rules", ⟨"TraceProver$Rules", "tellParts", "(LTraceProver$Talk;[II)V"⟩, prog_6_method_9_code, 4, none)
def m_Ru_areBrokenIn : ew_D := ("TraceProver$Rules", ⟨"TraceProver$Rules", "areBrokenIn", "(LTraceProver$Table;I)Z"⟩, prog_6_method_10_code, 3, (some .boolean))
def m_Ru_isStepBroken : ew_D := ("TraceProver$Rules", ⟨"TraceProver$Rules", "isStepBroken", "(LTraceProver$Table;I)Z"⟩, prog_6_method_11_code, 4, (some .boolean))
def m_Ru_isBoundBroken : ew_D := ("TraceProver$Rules", ⟨"TraceProver$Rules", "isBoundBroken", "(LTraceProver$Table;I)Z"⟩, prog_6_method_12_code, 4, (some .boolean))
def m_Ru_read : ew_D := ("TraceProver$Rules", ⟨"TraceProver$Rules", "read", "(IIII)V"⟩, prog_6_method_13_code, 5, none)
def m_Ru_termSum : ew_D := ("TraceProver$Rules", ⟨"TraceProver$Rules", "termSum", "(I)I"⟩, prog_6_method_14_code, 7, (some .int))
def m_Ru_composition : ew_D := ("TraceProver$Rules", ⟨"TraceProver$Rules", "composition", "(II)I"⟩, prog_6_method_15_code, 9, (some .int))
def m_Ru_boundColumn : ew_D := ("TraceProver$Rules", ⟨"TraceProver$Rules", "boundColumn", "(I)I"⟩, prog_6_method_16_code, 2, (some .int))
def m_Ru_boundRow : ew_D := ("TraceProver$Rules", ⟨"TraceProver$Rules", "boundRow", "(I)I"⟩, prog_6_method_17_code, 2, (some .int))
def m_Ru_boundValue : ew_D := ("TraceProver$Rules", ⟨"TraceProver$Rules", "boundValue", "(I)I"⟩, prog_6_method_18_code, 2, (some .int))
def m_Ta_init : ew_D := ("TraceProver$Table", ⟨"TraceProver$Table", "<init>", "(LTraceProver$Points;)V"⟩, prog_7_method_1_code, 2, none)
def m_Ta_put : ew_D := ("TraceProver$Table", ⟨"TraceProver$Table", "put", "(III)V"⟩, prog_7_method_2_code, 4, none)
def m_Ta_get : ew_D := ("TraceProver$Table", ⟨"TraceProver$Table", "get", "(II)I"⟩, prog_7_method_3_code, 3, (some .int))
def m_Ta_polynomial : ew_D := ("TraceProver$Table", ⟨"TraceProver$Table", "polynomial", "(II)I"⟩, prog_7_method_4_code, 3, (some .int))
def m_Tk_init : ew_D := ("TraceProver$Talk", ⟨"TraceProver$Talk", "<init>", "()V"⟩, prog_8_method_1_code, 1, none)
def m_Tk_tell : ew_D := ("TraceProver$Talk", ⟨"TraceProver$Talk", "tell", "(I)V"⟩, prog_8_method_2_code, 2, none)
def m_Tk_draw : ew_D := ("TraceProver$Talk", ⟨"TraceProver$Talk", "draw", "(II)I"⟩, prog_8_method_3_code, 3, (some .int))
def m_Tk_challenge : ew_D := ("TraceProver$Talk", ⟨"TraceProver$Talk", "challenge", "()I"⟩, prog_8_method_4_code, 1, (some .int))
def m_Tk_begin : ew_D := ("TraceProver$Talk", ⟨"TraceProver$Talk", "begin", "(LTraceProver$Rules;I)V"⟩, prog_8_method_5_code, 3, none)
def m_Tk_hearLayer : ew_D := ("TraceProver$Talk", ⟨"TraceProver$Talk", "hearLayer", "(II)V"⟩, prog_8_method_6_code, 3, none)
def m_Tk_end : ew_D := ("TraceProver$Talk", ⟨"TraceProver$Talk", "end", "(I)V"⟩, prog_8_method_7_code, 3, none)
def m_Tr_init : ew_D := ("TraceProver$Tree", ⟨"TraceProver$Tree", "<init>", "(I)V"⟩, prog_9_method_1_code, 2, none)
def m_Tr_plant : ew_D := ("TraceProver$Tree", ⟨"TraceProver$Tree", "plant", "(II)V"⟩, prog_9_method_2_code, 3, none)
def m_Tr_grow : ew_D := ("TraceProver$Tree", ⟨"TraceProver$Tree", "grow", "()I"⟩, prog_9_method_3_code, 2, (some .int))
def m_Tr_copyPath : ew_D := ("TraceProver$Tree", ⟨"TraceProver$Tree", "copyPath", "(I[II)V"⟩, prog_9_method_4_code, 6, none)
def m_Tr_rootOf : ew_D := ("TraceProver$Tree", ⟨"TraceProver$Tree", "rootOf", "(III[II)I"⟩, prog_9_method_5_code, 8, (some .int))
def m_Ve_init : ew_D := ("TraceProver$Verifier", ⟨"TraceProver$Verifier", "<init>", "(LTraceProver$Points;LTraceProver$Rules;LTraceProver$Proof;)V"⟩, prog_10_method_1_code, 4, none)
def m_Ve_place : ew_D := ("TraceProver$Verifier", ⟨"TraceProver$Verifier", "place", "(I)I"⟩, prog_10_method_2_code, 2, (some .int))
def m_Ve_code : ew_D := ("TraceProver$Verifier", ⟨"TraceProver$Verifier", "code", "()I"⟩, prog_10_method_3_code, 3, (some .int))
def m_Ve_listen : ew_D := ("TraceProver$Verifier", ⟨"TraceProver$Verifier", "listen", "()V"⟩, prog_10_method_4_code, 2, none)
def m_Ve_codeOf : ew_D := ("TraceProver$Verifier", ⟨"TraceProver$Verifier", "codeOf", "(I)I"⟩, prog_10_method_5_code, 2, (some .int))
def m_Ve_doColumnPathsLead : ew_D := ("TraceProver$Verifier", ⟨"TraceProver$Verifier", "doColumnPathsLead", "(I)Z"⟩, prog_10_method_6_code, 6, (some .boolean))
def m_Ve_doLayerPathsLead : ew_D := ("TraceProver$Verifier", ⟨"TraceProver$Verifier", "doLayerPathsLead", "(II)Z"⟩, prog_10_method_7_code, 8, (some .boolean))
def m_Ve_isComposed : ew_D := ("TraceProver$Verifier", ⟨"TraceProver$Verifier", "isComposed", "(II)Z"⟩, prog_10_method_8_code, 6, (some .boolean))
def m_Ve_folded : ew_D := ("TraceProver$Verifier", ⟨"TraceProver$Verifier", "folded", "(II)I"⟩, prog_10_method_9_code, 6, (some .int))
def m_Ve_valueBehind : ew_D := ("TraceProver$Verifier", ⟨"TraceProver$Verifier", "valueBehind", "(II)I"⟩, prog_10_method_10_code, 6, (some .int))
def m_La_law : ew_D := ("TraceProverLaw", ⟨"TraceProverLaw", "law", "([I)Z"⟩, code, 4, (some .boolean))
end
section
theorem tw_0 : (Jvm.Cond.initialized "TraceProverLaw") ∈ ew_tb := ew_mt (List.mem_append_right _ (List.mem_of_getElem? (i := 0) (by decide +kernel))) rfl
theorem tw_1 : (Jvm.Cond.initialized "TraceProver") ∈ ew_tb := ew_mt (List.mem_append_right _ (List.mem_of_getElem? (i := 1) (by decide +kernel))) rfl
theorem tw_2 : (Jvm.Cond.initialized "TraceProver$Points") ∈ ew_tb := ew_mt (List.mem_append_right _ (List.mem_of_getElem? (i := 2) (by decide +kernel))) rfl
theorem tw_3 : (Jvm.Cond.initialized "TraceProver$Field") ∈ ew_tb := ew_mt (List.mem_append_right _ (List.mem_of_getElem? (i := 3) (by decide +kernel))) rfl
theorem tw_4 : (Jvm.Cond.initialized "TraceProver$Rules") ∈ ew_tb := ew_mt (List.mem_append_right _ (List.mem_of_getElem? (i := 4) (by decide +kernel))) rfl
theorem tw_5 : (Jvm.Cond.initialized "TraceProver$Table") ∈ ew_tb := ew_mt (List.mem_append_right _ (List.mem_of_getElem? (i := 5) (by decide +kernel))) rfl
theorem tw_6 : (Jvm.Cond.initialized "TraceProver$Proof") ∈ ew_tb := ew_mt (List.mem_append_right _ (List.mem_of_getElem? (i := 6) (by decide +kernel))) rfl
theorem tw_7 : (Jvm.Cond.initialized "TraceProver$Prover") ∈ ew_tb := ew_mt (List.mem_append_right _ (List.mem_of_getElem? (i := 7) (by decide +kernel))) rfl
theorem tw_8 : (Jvm.Cond.initialized "TraceProver$Talk") ∈ ew_tb := ew_mt (List.mem_append_right _ (List.mem_of_getElem? (i := 8) (by decide +kernel))) rfl
theorem tw_9 : (Jvm.Cond.initialized "TraceProver$Tree") ∈ ew_tb := ew_mt (List.mem_append_right _ (List.mem_of_getElem? (i := 9) (by decide +kernel))) rfl
theorem tw_10 : (Jvm.Cond.initialized "TraceProver$Verifier") ∈ ew_tb := ew_mt (List.mem_append_right _ (List.mem_of_getElem? (i := 10) (by decide +kernel))) rfl
theorem tw_11 : (Jvm.Cond.initialized "TraceProverModel") ∈ ew_tb := ew_mt (List.mem_append_right _ (List.mem_of_getElem? (i := 11) (by decide +kernel))) rfl
theorem tw_12 : (Jvm.Cond.classLink "TraceProverLaw" (7 : Nat) "TraceProver") ∈ ew_tb := ew_mt (List.mem_append_right _ (List.mem_of_getElem? (i := 12) (by decide +kernel))) rfl
theorem tw_13 : (Jvm.Cond.instantiable "TraceProver" (8 : Nat)) ∈ ew_tb := ew_mt (List.mem_append_right _ (List.mem_of_getElem? (i := 13) (by decide +kernel))) rfl
theorem tw_14 : (Jvm.Cond.methodLink "TraceProverLaw" (9 : Nat) ({ cls := "TraceProver", name := "<init>", desc := "()V" } : Jvm.MethodName)) ∈ ew_tb := ew_mt (List.mem_append_right _ (List.mem_of_getElem? (i := 14) (by decide +kernel))) rfl
theorem tw_15 : (Jvm.Cond.instanceMethod ({ cls := "TraceProver", name := "<init>", desc := "()V" } : Jvm.MethodName)) ∈ ew_tb := ew_mt (List.mem_append_right _ (List.mem_of_getElem? (i := 15) (by decide +kernel))) rfl
theorem tw_16 : (Jvm.Cond.code ({ cls := "TraceProver", name := "<init>", desc := "()V" } : Jvm.MethodName) prog_1_method_1_code (1 : Nat) (Option.none : Option Jvm.ClassFile.FieldType)) ∈ ew_tb := ew_mt (List.mem_append_right _ (List.mem_of_getElem? (i := 16) (by decide +kernel))) rfl
theorem tw_17 : (Jvm.Cond.methodLink "TraceProver" (1 : Nat) ({ cls := "java/lang/Object", name := "<init>", desc := "()V" } : Jvm.MethodName)) ∈ ew_tb := ew_mt (List.mem_append_right _ (List.mem_of_getElem? (i := 17) (by decide +kernel))) rfl
theorem tw_18 : (Jvm.Cond.instanceMethod ({ cls := "java/lang/Object", name := "<init>", desc := "()V" } : Jvm.MethodName)) ∈ ew_tb := ew_mt (List.mem_append_right _ (List.mem_of_getElem? (i := 18) (by decide +kernel))) rfl
theorem tw_19 : (Jvm.Cond.code ({ cls := "java/lang/Object", name := "<init>", desc := "()V" } : Jvm.MethodName) object_method_1_code (1 : Nat) (Option.none : Option Jvm.ClassFile.FieldType)) ∈ ew_tb := ew_mt (List.mem_append_right _ (List.mem_of_getElem? (i := 19) (by decide +kernel))) rfl
theorem tw_20 : (Jvm.Cond.classLink "TraceProver" (7 : Nat) "TraceProver$Points") ∈ ew_tb := ew_mt (List.mem_append_right _ (List.mem_of_getElem? (i := 20) (by decide +kernel))) rfl
theorem tw_21 : (Jvm.Cond.instantiable "TraceProver$Points" (5 : Nat)) ∈ ew_tb := ew_mt (List.mem_append_right _ (List.mem_of_getElem? (i := 21) (by decide +kernel))) rfl
theorem tw_22 : (Jvm.Cond.methodLink "TraceProver" (9 : Nat) ({ cls := "TraceProver$Points", name := "<init>", desc := "()V" } : Jvm.MethodName)) ∈ ew_tb := ew_mt (List.mem_append_right _ (List.mem_of_getElem? (i := 22) (by decide +kernel))) rfl
theorem tw_23 : (Jvm.Cond.instanceMethod ({ cls := "TraceProver$Points", name := "<init>", desc := "()V" } : Jvm.MethodName)) ∈ ew_tb := ew_mt (List.mem_append_right _ (List.mem_of_getElem? (i := 23) (by decide +kernel))) rfl
theorem tw_24 : (Jvm.Cond.code ({ cls := "TraceProver$Points", name := "<init>", desc := "()V" } : Jvm.MethodName) prog_3_method_1_code (7 : Nat) (Option.none : Option Jvm.ClassFile.FieldType)) ∈ ew_tb := ew_mt (List.mem_append_right _ (List.mem_of_getElem? (i := 24) (by decide +kernel))) rfl
theorem tw_25 : (Jvm.Cond.methodLink "TraceProver$Points" (3 : Nat) ({ cls := "java/lang/Object", name := "<init>", desc := "()V" } : Jvm.MethodName)) ∈ ew_tb := ew_mt (List.mem_append_right _ (List.mem_of_getElem? (i := 25) (by decide +kernel))) rfl
theorem tw_26 : (Jvm.Cond.methodLink "TraceProver$Points" (27 : Nat) ({ cls := "TraceProver$Field", name := "power", desc := "(II)I" } : Jvm.MethodName)) ∈ ew_tb := ew_mt (List.mem_append_right _ (List.mem_of_getElem? (i := 26) (by decide +kernel))) rfl
theorem tw_27 : (Jvm.Cond.static ({ cls := "TraceProver$Field", name := "power", desc := "(II)I" } : Jvm.MethodName)) ∈ ew_tb := ew_mt (List.mem_append_right _ (List.mem_of_getElem? (i := 27) (by decide +kernel))) rfl
theorem tw_28 : (Jvm.Cond.code ({ cls := "TraceProver$Field", name := "power", desc := "(II)I" } : Jvm.MethodName) prog_2_method_6_code (5 : Nat) (Option.some Jvm.ClassFile.FieldType.int)) ∈ ew_tb := ew_mt (List.mem_append_right _ (List.mem_of_getElem? (i := 28) (by decide +kernel))) rfl
theorem tw_29 : (Jvm.Cond.methodLink "TraceProver$Field" (9 : Nat) ({ cls := "TraceProver$Field", name := "times", desc := "(II)I" } : Jvm.MethodName)) ∈ ew_tb := ew_mt (List.mem_append_right _ (List.mem_of_getElem? (i := 29) (by decide +kernel))) rfl
theorem tw_30 : (Jvm.Cond.static ({ cls := "TraceProver$Field", name := "times", desc := "(II)I" } : Jvm.MethodName)) ∈ ew_tb := ew_mt (List.mem_append_right _ (List.mem_of_getElem? (i := 30) (by decide +kernel))) rfl
theorem tw_31 : (Jvm.Cond.code ({ cls := "TraceProver$Field", name := "times", desc := "(II)I" } : Jvm.MethodName) prog_2_method_5_code (2 : Nat) (Option.some Jvm.ClassFile.FieldType.int)) ∈ ew_tb := ew_mt (List.mem_append_right _ (List.mem_of_getElem? (i := 31) (by decide +kernel))) rfl
theorem tw_32 : (Jvm.Cond.methodLink "TraceProver$Points" (33 : Nat) ({ cls := "TraceProver$Field", name := "times", desc := "(II)I" } : Jvm.MethodName)) ∈ ew_tb := ew_mt (List.mem_append_right _ (List.mem_of_getElem? (i := 32) (by decide +kernel))) rfl
theorem tw_33 : (Jvm.Cond.methodLink "TraceProver$Points" (36 : Nat) ({ cls := "TraceProver$Field", name := "inverse", desc := "(I)I" } : Jvm.MethodName)) ∈ ew_tb := ew_mt (List.mem_append_right _ (List.mem_of_getElem? (i := 33) (by decide +kernel))) rfl
theorem tw_34 : (Jvm.Cond.static ({ cls := "TraceProver$Field", name := "inverse", desc := "(I)I" } : Jvm.MethodName)) ∈ ew_tb := ew_mt (List.mem_append_right _ (List.mem_of_getElem? (i := 34) (by decide +kernel))) rfl
theorem tw_35 : (Jvm.Cond.code ({ cls := "TraceProver$Field", name := "inverse", desc := "(I)I" } : Jvm.MethodName) prog_2_method_7_code (1 : Nat) (Option.some Jvm.ClassFile.FieldType.int)) ∈ ew_tb := ew_mt (List.mem_append_right _ (List.mem_of_getElem? (i := 35) (by decide +kernel))) rfl
theorem tw_36 : (Jvm.Cond.methodLink "TraceProver$Field" (13 : Nat) ({ cls := "TraceProver$Field", name := "power", desc := "(II)I" } : Jvm.MethodName)) ∈ ew_tb := ew_mt (List.mem_append_right _ (List.mem_of_getElem? (i := 36) (by decide +kernel))) rfl
theorem tw_37 : (Jvm.Cond.methodLink "TraceProver$Points" (40 : Nat) ({ cls := "TraceProver$Field", name := "minus", desc := "(II)I" } : Jvm.MethodName)) ∈ ew_tb := ew_mt (List.mem_append_right _ (List.mem_of_getElem? (i := 37) (by decide +kernel))) rfl
theorem tw_38 : (Jvm.Cond.static ({ cls := "TraceProver$Field", name := "minus", desc := "(II)I" } : Jvm.MethodName)) ∈ ew_tb := ew_mt (List.mem_append_right _ (List.mem_of_getElem? (i := 38) (by decide +kernel))) rfl
theorem tw_39 : (Jvm.Cond.code ({ cls := "TraceProver$Field", name := "minus", desc := "(II)I" } : Jvm.MethodName) prog_2_method_4_code (2 : Nat) (Option.some Jvm.ClassFile.FieldType.int)) ∈ ew_tb := ew_mt (List.mem_append_right _ (List.mem_of_getElem? (i := 39) (by decide +kernel))) rfl
theorem tw_40 : (Jvm.Cond.methodLink "TraceProver$Points" (43 : Nat) ({ cls := "TraceProver$Points", name := "rowPoint", desc := "(I)I" } : Jvm.MethodName)) ∈ ew_tb := ew_mt (List.mem_append_right _ (List.mem_of_getElem? (i := 40) (by decide +kernel))) rfl
theorem tw_42 : (Jvm.Cond.instanceMethod ({ cls := "TraceProver$Points", name := "rowPoint", desc := "(I)I" } : Jvm.MethodName)) ∈ ew_tb := ew_mt (List.mem_append_right _ (List.mem_of_getElem? (i := 42) (by decide +kernel))) rfl
theorem tw_43 : (Jvm.Cond.code ({ cls := "TraceProver$Points", name := "rowPoint", desc := "(I)I" } : Jvm.MethodName) prog_3_method_2_code (2 : Nat) (Option.some Jvm.ClassFile.FieldType.int)) ∈ ew_tb := ew_mt (List.mem_append_right _ (List.mem_of_getElem? (i := 43) (by decide +kernel))) rfl
theorem tw_44 : (Jvm.Cond.fieldLink "TraceProver$Points" (9 : Nat) "TraceProver$Points" "rootPowers" "[I") ∈ ew_tb := ew_mt (List.mem_append_right _ (List.mem_of_getElem? (i := 44) (by decide +kernel))) rfl
theorem tw_45 : (Jvm.Cond.fieldLink "TraceProver$Points" (15 : Nat) "TraceProver$Points" "overPoint" "[I") ∈ ew_tb := ew_mt (List.mem_append_right _ (List.mem_of_getElem? (i := 45) (by decide +kernel))) rfl
theorem tw_46 : (Jvm.Cond.fieldLink "TraceProver$Points" (18 : Nat) "TraceProver$Points" "overPointLessOne" "[I") ∈ ew_tb := ew_mt (List.mem_append_right _ (List.mem_of_getElem? (i := 46) (by decide +kernel))) rfl
theorem tw_47 : (Jvm.Cond.fieldLink "TraceProver$Points" (21 : Nat) "TraceProver$Points" "constraintFactors" "[I") ∈ ew_tb := ew_mt (List.mem_append_right _ (List.mem_of_getElem? (i := 47) (by decide +kernel))) rfl
theorem tw_48 : (Jvm.Cond.fieldLink "TraceProver$Points" (24 : Nat) "TraceProver$Points" "columnFactors" "[I") ∈ ew_tb := ew_mt (List.mem_append_right _ (List.mem_of_getElem? (i := 48) (by decide +kernel))) rfl
theorem tw_60 : (Jvm.Cond.arrayClass Jvm.ClassFile.FieldType.int) ∈ ew_tb := ew_mt (List.mem_append_right _ (List.mem_of_getElem? (i := 60) (by decide +kernel))) rfl
theorem tw_61 : (Jvm.Cond.classLink "TraceProver" (16 : Nat) "TraceProver$Rules") ∈ ew_tb := ew_mt (List.mem_append_right _ (List.mem_of_getElem? (i := 61) (by decide +kernel))) rfl
theorem tw_62 : (Jvm.Cond.instantiable "TraceProver$Rules" (6 : Nat)) ∈ ew_tb := ew_mt (List.mem_append_right _ (List.mem_of_getElem? (i := 62) (by decide +kernel))) rfl
theorem tw_63 : (Jvm.Cond.methodLink "TraceProver" (18 : Nat) ({ cls := "TraceProver$Rules", name := "<init>", desc := "(LTraceProver$Points;)V" } : Jvm.MethodName)) ∈ ew_tb := ew_mt (List.mem_append_right _ (List.mem_of_getElem? (i := 63) (by decide +kernel))) rfl
theorem tw_64 : (Jvm.Cond.instanceMethod ({ cls := "TraceProver$Rules", name := "<init>", desc := "(LTraceProver$Points;)V" } : Jvm.MethodName)) ∈ ew_tb := ew_mt (List.mem_append_right _ (List.mem_of_getElem? (i := 64) (by decide +kernel))) rfl
theorem tw_65 : (Jvm.Cond.code ({ cls := "TraceProver$Rules", name := "<init>", desc := "(LTraceProver$Points;)V" } : Jvm.MethodName) prog_6_method_1_code (2 : Nat) (Option.none : Option Jvm.ClassFile.FieldType)) ∈ ew_tb := ew_mt (List.mem_append_right _ (List.mem_of_getElem? (i := 65) (by decide +kernel))) rfl
theorem tw_66 : (Jvm.Cond.methodLink "TraceProver$Rules" (3 : Nat) ({ cls := "java/lang/Object", name := "<init>", desc := "()V" } : Jvm.MethodName)) ∈ ew_tb := ew_mt (List.mem_append_right _ (List.mem_of_getElem? (i := 66) (by decide +kernel))) rfl
theorem tw_67 : (Jvm.Cond.classLink "TraceProver$Rules" (15 : Nat) "[[I") ∈ ew_tb := ew_mt (List.mem_append_right _ (List.mem_of_getElem? (i := 67) (by decide +kernel))) rfl
theorem tw_69 : (Jvm.Cond.fieldLink "TraceProver$Rules" (26 : Nat) "TraceProver$Rules" "points" "LTraceProver$Points;") ∈ ew_tb := ew_mt (List.mem_append_right _ (List.mem_of_getElem? (i := 69) (by decide +kernel))) rfl
theorem tw_70 : (Jvm.Cond.fieldLink "TraceProver$Rules" (11 : Nat) "TraceProver$Rules" "termCounts" "[I") ∈ ew_tb := ew_mt (List.mem_append_right _ (List.mem_of_getElem? (i := 70) (by decide +kernel))) rfl
theorem tw_71 : (Jvm.Cond.fieldLink "TraceProver$Rules" (17 : Nat) "TraceProver$Rules" "terms" "[[I") ∈ ew_tb := ew_mt (List.mem_append_right _ (List.mem_of_getElem? (i := 71) (by decide +kernel))) rfl
theorem tw_72 : (Jvm.Cond.fieldLink "TraceProver$Rules" (20 : Nat) "TraceProver$Rules" "bounds" "[I") ∈ ew_tb := ew_mt (List.mem_append_right _ (List.mem_of_getElem? (i := 72) (by decide +kernel))) rfl
theorem tw_73 : (Jvm.Cond.fieldLink "TraceProver$Rules" (30 : Nat) "TraceProver$Rules" "boundCount" "I") ∈ ew_tb := ew_mt (List.mem_append_right _ (List.mem_of_getElem? (i := 73) (by decide +kernel))) rfl
theorem tw_74 : (Jvm.Cond.fieldLink "TraceProver$Rules" (23 : Nat) "TraceProver$Rules" "letters" "[I") ∈ ew_tb := ew_mt (List.mem_append_right _ (List.mem_of_getElem? (i := 74) (by decide +kernel))) rfl
theorem tw_88 : (Jvm.Cond.classLink "TraceProver" (25 : Nat) "TraceProver$Table") ∈ ew_tb := ew_mt (List.mem_append_right _ (List.mem_of_getElem? (i := 88) (by decide +kernel))) rfl
theorem tw_89 : (Jvm.Cond.instantiable "TraceProver$Table" (2 : Nat)) ∈ ew_tb := ew_mt (List.mem_append_right _ (List.mem_of_getElem? (i := 89) (by decide +kernel))) rfl
theorem tw_90 : (Jvm.Cond.methodLink "TraceProver" (27 : Nat) ({ cls := "TraceProver$Table", name := "<init>", desc := "(LTraceProver$Points;)V" } : Jvm.MethodName)) ∈ ew_tb := ew_mt (List.mem_append_right _ (List.mem_of_getElem? (i := 90) (by decide +kernel))) rfl
theorem tw_91 : (Jvm.Cond.instanceMethod ({ cls := "TraceProver$Table", name := "<init>", desc := "(LTraceProver$Points;)V" } : Jvm.MethodName)) ∈ ew_tb := ew_mt (List.mem_append_right _ (List.mem_of_getElem? (i := 91) (by decide +kernel))) rfl
theorem tw_92 : (Jvm.Cond.code ({ cls := "TraceProver$Table", name := "<init>", desc := "(LTraceProver$Points;)V" } : Jvm.MethodName) prog_7_method_1_code (2 : Nat) (Option.none : Option Jvm.ClassFile.FieldType)) ∈ ew_tb := ew_mt (List.mem_append_right _ (List.mem_of_getElem? (i := 92) (by decide +kernel))) rfl
theorem tw_93 : (Jvm.Cond.methodLink "TraceProver$Table" (3 : Nat) ({ cls := "java/lang/Object", name := "<init>", desc := "()V" } : Jvm.MethodName)) ∈ ew_tb := ew_mt (List.mem_append_right _ (List.mem_of_getElem? (i := 93) (by decide +kernel))) rfl
theorem tw_94 : (Jvm.Cond.classLink "TraceProver$Table" (9 : Nat) "[[I") ∈ ew_tb := ew_mt (List.mem_append_right _ (List.mem_of_getElem? (i := 94) (by decide +kernel))) rfl
theorem tw_95 : (Jvm.Cond.fieldLink "TraceProver$Table" (16 : Nat) "TraceProver$Table" "points" "LTraceProver$Points;") ∈ ew_tb := ew_mt (List.mem_append_right _ (List.mem_of_getElem? (i := 95) (by decide +kernel))) rfl
theorem tw_96 : (Jvm.Cond.fieldLink "TraceProver$Table" (11 : Nat) "TraceProver$Table" "cells" "[[I") ∈ ew_tb := ew_mt (List.mem_append_right _ (List.mem_of_getElem? (i := 96) (by decide +kernel))) rfl
theorem tw_102 : (Jvm.Cond.classLink "TraceProver" (32 : Nat) "TraceProver$Proof") ∈ ew_tb := ew_mt (List.mem_append_right _ (List.mem_of_getElem? (i := 102) (by decide +kernel))) rfl
theorem tw_103 : (Jvm.Cond.instantiable "TraceProver$Proof" (1 : Nat)) ∈ ew_tb := ew_mt (List.mem_append_right _ (List.mem_of_getElem? (i := 103) (by decide +kernel))) rfl
theorem tw_104 : (Jvm.Cond.methodLinkNest "TraceProver" (34 : Nat) ({ cls := "TraceProver$Proof", name := "<init>", desc := "()V" } : Jvm.MethodName) "TraceProver") ∈ ew_nt := ew_mn (List.mem_append_right _ (List.mem_of_getElem? (i := 104) (by decide +kernel))) rfl
theorem tw_105 : (Jvm.Cond.instanceMethod ({ cls := "TraceProver$Proof", name := "<init>", desc := "()V" } : Jvm.MethodName)) ∈ ew_tb := ew_mt (List.mem_append_right _ (List.mem_of_getElem? (i := 105) (by decide +kernel))) rfl
theorem tw_106 : (Jvm.Cond.code ({ cls := "TraceProver$Proof", name := "<init>", desc := "()V" } : Jvm.MethodName) prog_4_method_1_code (1 : Nat) (Option.none : Option Jvm.ClassFile.FieldType)) ∈ ew_tb := ew_mt (List.mem_append_right _ (List.mem_of_getElem? (i := 106) (by decide +kernel))) rfl
theorem tw_107 : (Jvm.Cond.methodLink "TraceProver$Proof" (3 : Nat) ({ cls := "java/lang/Object", name := "<init>", desc := "()V" } : Jvm.MethodName)) ∈ ew_tb := ew_mt (List.mem_append_right _ (List.mem_of_getElem? (i := 107) (by decide +kernel))) rfl
theorem tw_108 : (Jvm.Cond.fieldLink "TraceProver$Proof" (11 : Nat) "TraceProver$Proof" "ints" "[I") ∈ ew_tb := ew_mt (List.mem_append_right _ (List.mem_of_getElem? (i := 108) (by decide +kernel))) rfl
theorem tw_109 : (Jvm.Cond.fieldLinkNest "TraceProver$Verifier" (30 : Nat) "TraceProver$Proof" "ints" "[I" "TraceProver") ∈ ew_nt := ew_mn (List.mem_append_right _ (List.mem_of_getElem? (i := 109) (by decide +kernel))) rfl
theorem tw_110 : (Jvm.Cond.fieldLinkNest "TraceProver$Prover" (57 : Nat) "TraceProver$Proof" "ints" "[I" "TraceProver") ∈ ew_nt := ew_mn (List.mem_append_right _ (List.mem_of_getElem? (i := 110) (by decide +kernel))) rfl
theorem tw_111 : (Jvm.Cond.fieldLinkNest "TraceProver" (121 : Nat) "TraceProver$Proof" "ints" "[I" "TraceProver") ∈ ew_nt := ew_mn (List.mem_append_right _ (List.mem_of_getElem? (i := 111) (by decide +kernel))) rfl
theorem tw_115 : (Jvm.Cond.classLink "TraceProver" (39 : Nat) "TraceProver$Prover") ∈ ew_tb := ew_mt (List.mem_append_right _ (List.mem_of_getElem? (i := 115) (by decide +kernel))) rfl
theorem tw_116 : (Jvm.Cond.instantiable "TraceProver$Prover" (8 : Nat)) ∈ ew_tb := ew_mt (List.mem_append_right _ (List.mem_of_getElem? (i := 116) (by decide +kernel))) rfl
theorem tw_117 : (Jvm.Cond.methodLink "TraceProver" (41 : Nat) ({ cls := "TraceProver$Prover", name := "<init>", desc := "(LTraceProver$Points;LTraceProver$Rules;LTraceProver$Table;)V" } : Jvm.MethodName)) ∈ ew_tb := ew_mt (List.mem_append_right _ (List.mem_of_getElem? (i := 117) (by decide +kernel))) rfl
theorem tw_118 : (Jvm.Cond.instanceMethod ({ cls := "TraceProver$Prover", name := "<init>", desc := "(LTraceProver$Points;LTraceProver$Rules;LTraceProver$Table;)V" } : Jvm.MethodName)) ∈ ew_tb := ew_mt (List.mem_append_right _ (List.mem_of_getElem? (i := 118) (by decide +kernel))) rfl
theorem tw_119 : (Jvm.Cond.code ({ cls := "TraceProver$Prover", name := "<init>", desc := "(LTraceProver$Points;LTraceProver$Rules;LTraceProver$Table;)V" } : Jvm.MethodName) prog_5_method_1_code (5 : Nat) (Option.none : Option Jvm.ClassFile.FieldType)) ∈ ew_tb := ew_mt (List.mem_append_right _ (List.mem_of_getElem? (i := 119) (by decide +kernel))) rfl
theorem tw_120 : (Jvm.Cond.methodLink "TraceProver$Prover" (3 : Nat) ({ cls := "java/lang/Object", name := "<init>", desc := "()V" } : Jvm.MethodName)) ∈ ew_tb := ew_mt (List.mem_append_right _ (List.mem_of_getElem? (i := 120) (by decide +kernel))) rfl
theorem tw_121 : (Jvm.Cond.classLink "TraceProver$Prover" (9 : Nat) "TraceProver$Talk") ∈ ew_tb := ew_mt (List.mem_append_right _ (List.mem_of_getElem? (i := 121) (by decide +kernel))) rfl
theorem tw_122 : (Jvm.Cond.instantiable "TraceProver$Talk" (4 : Nat)) ∈ ew_tb := ew_mt (List.mem_append_right _ (List.mem_of_getElem? (i := 122) (by decide +kernel))) rfl
theorem tw_123 : (Jvm.Cond.methodLinkNest "TraceProver$Prover" (11 : Nat) ({ cls := "TraceProver$Talk", name := "<init>", desc := "()V" } : Jvm.MethodName) "TraceProver") ∈ ew_nt := ew_mn (List.mem_append_right _ (List.mem_of_getElem? (i := 123) (by decide +kernel))) rfl
theorem tw_124 : (Jvm.Cond.instanceMethod ({ cls := "TraceProver$Talk", name := "<init>", desc := "()V" } : Jvm.MethodName)) ∈ ew_tb := ew_mt (List.mem_append_right _ (List.mem_of_getElem? (i := 124) (by decide +kernel))) rfl
theorem tw_125 : (Jvm.Cond.code ({ cls := "TraceProver$Talk", name := "<init>", desc := "()V" } : Jvm.MethodName) prog_8_method_1_code (1 : Nat) (Option.none : Option Jvm.ClassFile.FieldType)) ∈ ew_tb := ew_mt (List.mem_append_right _ (List.mem_of_getElem? (i := 125) (by decide +kernel))) rfl
theorem tw_126 : (Jvm.Cond.methodLink "TraceProver$Talk" (3 : Nat) ({ cls := "java/lang/Object", name := "<init>", desc := "()V" } : Jvm.MethodName)) ∈ ew_tb := ew_mt (List.mem_append_right _ (List.mem_of_getElem? (i := 126) (by decide +kernel))) rfl
theorem tw_127 : (Jvm.Cond.fieldLink "TraceProver$Talk" (18 : Nat) "TraceProver$Talk" "transcript" "I") ∈ ew_tb := ew_mt (List.mem_append_right _ (List.mem_of_getElem? (i := 127) (by decide +kernel))) rfl
theorem tw_128 : (Jvm.Cond.fieldLinkNest "TraceProver$Prover" (121 : Nat) "TraceProver$Talk" "composing" "I" "TraceProver") ∈ ew_nt := ew_mn (List.mem_append_right _ (List.mem_of_getElem? (i := 128) (by decide +kernel))) rfl
theorem tw_129 : (Jvm.Cond.fieldLink "TraceProver$Talk" (46 : Nat) "TraceProver$Talk" "composing" "I") ∈ ew_tb := ew_mt (List.mem_append_right _ (List.mem_of_getElem? (i := 129) (by decide +kernel))) rfl
theorem tw_130 : (Jvm.Cond.fieldLinkNest "TraceProver$Verifier" (118 : Nat) "TraceProver$Talk" "composing" "I" "TraceProver") ∈ ew_nt := ew_mn (List.mem_append_right _ (List.mem_of_getElem? (i := 130) (by decide +kernel))) rfl
theorem tw_131 : (Jvm.Cond.fieldLink "TraceProver$Talk" (9 : Nat) "TraceProver$Talk" "folding" "[I") ∈ ew_tb := ew_mt (List.mem_append_right _ (List.mem_of_getElem? (i := 131) (by decide +kernel))) rfl
theorem tw_132 : (Jvm.Cond.fieldLinkNest "TraceProver$Prover" (128 : Nat) "TraceProver$Talk" "folding" "[I" "TraceProver") ∈ ew_nt := ew_mn (List.mem_append_right _ (List.mem_of_getElem? (i := 132) (by decide +kernel))) rfl
theorem tw_133 : (Jvm.Cond.fieldLinkNest "TraceProver$Verifier" (125 : Nat) "TraceProver$Talk" "folding" "[I" "TraceProver") ∈ ew_nt := ew_mn (List.mem_append_right _ (List.mem_of_getElem? (i := 133) (by decide +kernel))) rfl
theorem tw_134 : (Jvm.Cond.fieldLink "TraceProver$Talk" (15 : Nat) "TraceProver$Talk" "places" "[I") ∈ ew_tb := ew_mt (List.mem_append_right _ (List.mem_of_getElem? (i := 134) (by decide +kernel))) rfl
theorem tw_135 : (Jvm.Cond.fieldLinkNest "TraceProver$Verifier" (37 : Nat) "TraceProver$Talk" "places" "[I" "TraceProver") ∈ ew_nt := ew_mn (List.mem_append_right _ (List.mem_of_getElem? (i := 135) (by decide +kernel))) rfl
theorem tw_136 : (Jvm.Cond.fieldLinkNest "TraceProver$Prover" (138 : Nat) "TraceProver$Talk" "places" "[I" "TraceProver") ∈ ew_nt := ew_mn (List.mem_append_right _ (List.mem_of_getElem? (i := 136) (by decide +kernel))) rfl
theorem tw_146 : (Jvm.Cond.classLink "TraceProver$Prover" (18 : Nat) "[[I") ∈ ew_tb := ew_mt (List.mem_append_right _ (List.mem_of_getElem? (i := 146) (by decide +kernel))) rfl
theorem tw_147 : (Jvm.Cond.classLink "TraceProver$Prover" (26 : Nat) "TraceProver$Tree") ∈ ew_tb := ew_mt (List.mem_append_right _ (List.mem_of_getElem? (i := 147) (by decide +kernel))) rfl
theorem tw_148 : (Jvm.Cond.instantiable "TraceProver$Tree" (2 : Nat)) ∈ ew_tb := ew_mt (List.mem_append_right _ (List.mem_of_getElem? (i := 148) (by decide +kernel))) rfl
theorem tw_149 : (Jvm.Cond.methodLink "TraceProver$Prover" (28 : Nat) ({ cls := "TraceProver$Tree", name := "<init>", desc := "(I)V" } : Jvm.MethodName)) ∈ ew_tb := ew_mt (List.mem_append_right _ (List.mem_of_getElem? (i := 149) (by decide +kernel))) rfl
theorem tw_150 : (Jvm.Cond.instanceMethod ({ cls := "TraceProver$Tree", name := "<init>", desc := "(I)V" } : Jvm.MethodName)) ∈ ew_tb := ew_mt (List.mem_append_right _ (List.mem_of_getElem? (i := 150) (by decide +kernel))) rfl
theorem tw_151 : (Jvm.Cond.code ({ cls := "TraceProver$Tree", name := "<init>", desc := "(I)V" } : Jvm.MethodName) prog_9_method_1_code (2 : Nat) (Option.none : Option Jvm.ClassFile.FieldType)) ∈ ew_tb := ew_mt (List.mem_append_right _ (List.mem_of_getElem? (i := 151) (by decide +kernel))) rfl
theorem tw_152 : (Jvm.Cond.methodLink "TraceProver$Tree" (1 : Nat) ({ cls := "java/lang/Object", name := "<init>", desc := "()V" } : Jvm.MethodName)) ∈ ew_tb := ew_mt (List.mem_append_right _ (List.mem_of_getElem? (i := 152) (by decide +kernel))) rfl
theorem tw_153 : (Jvm.Cond.fieldLink "TraceProver$Tree" (7 : Nat) "TraceProver$Tree" "leafCount" "I") ∈ ew_tb := ew_mt (List.mem_append_right _ (List.mem_of_getElem? (i := 153) (by decide +kernel))) rfl
theorem tw_154 : (Jvm.Cond.fieldLink "TraceProver$Tree" (13 : Nat) "TraceProver$Tree" "nodes" "[I") ∈ ew_tb := ew_mt (List.mem_append_right _ (List.mem_of_getElem? (i := 154) (by decide +kernel))) rfl
theorem tw_161 : (Jvm.Cond.methodLink "TraceProver$Prover" (51 : Nat) ({ cls := "TraceProver$Proof", name := "layerSize", desc := "(I)I" } : Jvm.MethodName)) ∈ ew_tb := ew_mt (List.mem_append_right _ (List.mem_of_getElem? (i := 161) (by decide +kernel))) rfl
theorem tw_162 : (Jvm.Cond.static ({ cls := "TraceProver$Proof", name := "layerSize", desc := "(I)I" } : Jvm.MethodName)) ∈ ew_tb := ew_mt (List.mem_append_right _ (List.mem_of_getElem? (i := 162) (by decide +kernel))) rfl
theorem tw_163 : (Jvm.Cond.code ({ cls := "TraceProver$Proof", name := "layerSize", desc := "(I)I" } : Jvm.MethodName) prog_4_method_6_code (1 : Nat) (Option.some Jvm.ClassFile.FieldType.int)) ∈ ew_tb := ew_mt (List.mem_append_right _ (List.mem_of_getElem? (i := 163) (by decide +kernel))) rfl
theorem tw_164 : (Jvm.Cond.fieldLink "TraceProver$Prover" (39 : Nat) "TraceProver$Prover" "points" "LTraceProver$Points;") ∈ ew_tb := ew_mt (List.mem_append_right _ (List.mem_of_getElem? (i := 164) (by decide +kernel))) rfl
theorem tw_165 : (Jvm.Cond.fieldLink "TraceProver$Prover" (43 : Nat) "TraceProver$Prover" "rules" "LTraceProver$Rules;") ∈ ew_tb := ew_mt (List.mem_append_right _ (List.mem_of_getElem? (i := 165) (by decide +kernel))) rfl
theorem tw_166 : (Jvm.Cond.fieldLink "TraceProver$Prover" (47 : Nat) "TraceProver$Prover" "table" "LTraceProver$Table;") ∈ ew_tb := ew_mt (List.mem_append_right _ (List.mem_of_getElem? (i := 166) (by decide +kernel))) rfl
theorem tw_167 : (Jvm.Cond.fieldLink "TraceProver$Prover" (12 : Nat) "TraceProver$Prover" "talk" "LTraceProver$Talk;") ∈ ew_tb := ew_mt (List.mem_append_right _ (List.mem_of_getElem? (i := 167) (by decide +kernel))) rfl
theorem tw_168 : (Jvm.Cond.fieldLink "TraceProver$Prover" (20 : Nat) "TraceProver$Prover" "columns" "[[I") ∈ ew_tb := ew_mt (List.mem_append_right _ (List.mem_of_getElem? (i := 168) (by decide +kernel))) rfl
theorem tw_169 : (Jvm.Cond.fieldLink "TraceProver$Prover" (23 : Nat) "TraceProver$Prover" "layers" "[[I") ∈ ew_tb := ew_mt (List.mem_append_right _ (List.mem_of_getElem? (i := 169) (by decide +kernel))) rfl
theorem tw_170 : (Jvm.Cond.fieldLink "TraceProver$Prover" (31 : Nat) "TraceProver$Prover" "columnTree" "LTraceProver$Tree;") ∈ ew_tb := ew_mt (List.mem_append_right _ (List.mem_of_getElem? (i := 170) (by decide +kernel))) rfl
theorem tw_171 : (Jvm.Cond.fieldLink "TraceProver$Prover" (35 : Nat) "TraceProver$Prover" "layerTrees" "[LTraceProver$Tree;") ∈ ew_tb := ew_mt (List.mem_append_right _ (List.mem_of_getElem? (i := 171) (by decide +kernel))) rfl
theorem tw_189 : (Jvm.Cond.classLink "TraceProver" (48 : Nat) "TraceProver$Verifier") ∈ ew_tb := ew_mt (List.mem_append_right _ (List.mem_of_getElem? (i := 189) (by decide +kernel))) rfl
theorem tw_190 : (Jvm.Cond.instantiable "TraceProver$Verifier" (5 : Nat)) ∈ ew_tb := ew_mt (List.mem_append_right _ (List.mem_of_getElem? (i := 190) (by decide +kernel))) rfl
theorem tw_191 : (Jvm.Cond.methodLink "TraceProver" (50 : Nat) ({ cls := "TraceProver$Verifier", name := "<init>", desc := "(LTraceProver$Points;LTraceProver$Rules;LTraceProver$Proof;)V" } : Jvm.MethodName)) ∈ ew_tb := ew_mt (List.mem_append_right _ (List.mem_of_getElem? (i := 191) (by decide +kernel))) rfl
theorem tw_192 : (Jvm.Cond.instanceMethod ({ cls := "TraceProver$Verifier", name := "<init>", desc := "(LTraceProver$Points;LTraceProver$Rules;LTraceProver$Proof;)V" } : Jvm.MethodName)) ∈ ew_tb := ew_mt (List.mem_append_right _ (List.mem_of_getElem? (i := 192) (by decide +kernel))) rfl
theorem tw_193 : (Jvm.Cond.code ({ cls := "TraceProver$Verifier", name := "<init>", desc := "(LTraceProver$Points;LTraceProver$Rules;LTraceProver$Proof;)V" } : Jvm.MethodName) prog_10_method_1_code (4 : Nat) (Option.none : Option Jvm.ClassFile.FieldType)) ∈ ew_tb := ew_mt (List.mem_append_right _ (List.mem_of_getElem? (i := 193) (by decide +kernel))) rfl
theorem tw_194 : (Jvm.Cond.methodLink "TraceProver$Verifier" (3 : Nat) ({ cls := "java/lang/Object", name := "<init>", desc := "()V" } : Jvm.MethodName)) ∈ ew_tb := ew_mt (List.mem_append_right _ (List.mem_of_getElem? (i := 194) (by decide +kernel))) rfl
theorem tw_195 : (Jvm.Cond.classLink "TraceProver$Verifier" (9 : Nat) "TraceProver$Talk") ∈ ew_tb := ew_mt (List.mem_append_right _ (List.mem_of_getElem? (i := 195) (by decide +kernel))) rfl
theorem tw_196 : (Jvm.Cond.methodLinkNest "TraceProver$Verifier" (11 : Nat) ({ cls := "TraceProver$Talk", name := "<init>", desc := "()V" } : Jvm.MethodName) "TraceProver") ∈ ew_nt := ew_mn (List.mem_append_right _ (List.mem_of_getElem? (i := 196) (by decide +kernel))) rfl
theorem tw_197 : (Jvm.Cond.fieldLink "TraceProver$Verifier" (18 : Nat) "TraceProver$Verifier" "points" "LTraceProver$Points;") ∈ ew_tb := ew_mt (List.mem_append_right _ (List.mem_of_getElem? (i := 197) (by decide +kernel))) rfl
theorem tw_198 : (Jvm.Cond.fieldLink "TraceProver$Verifier" (22 : Nat) "TraceProver$Verifier" "rules" "LTraceProver$Rules;") ∈ ew_tb := ew_mt (List.mem_append_right _ (List.mem_of_getElem? (i := 198) (by decide +kernel))) rfl
theorem tw_199 : (Jvm.Cond.fieldLink "TraceProver$Verifier" (26 : Nat) "TraceProver$Verifier" "subject" "LTraceProver$Proof;") ∈ ew_tb := ew_mt (List.mem_append_right _ (List.mem_of_getElem? (i := 199) (by decide +kernel))) rfl
theorem tw_200 : (Jvm.Cond.fieldLink "TraceProver$Verifier" (36 : Nat) "TraceProver$Verifier" "ints" "[I") ∈ ew_tb := ew_mt (List.mem_append_right _ (List.mem_of_getElem? (i := 200) (by decide +kernel))) rfl
theorem tw_201 : (Jvm.Cond.fieldLink "TraceProver$Verifier" (12 : Nat) "TraceProver$Verifier" "talk" "LTraceProver$Talk;") ∈ ew_tb := ew_mt (List.mem_append_right _ (List.mem_of_getElem? (i := 201) (by decide +kernel))) rfl
theorem tw_213 : (Jvm.Cond.fieldLink "TraceProver" (10 : Nat) "TraceProver" "points" "LTraceProver$Points;") ∈ ew_tb := ew_mt (List.mem_append_right _ (List.mem_of_getElem? (i := 213) (by decide +kernel))) rfl
theorem tw_214 : (Jvm.Cond.fieldLink "TraceProver" (21 : Nat) "TraceProver" "rules" "LTraceProver$Rules;") ∈ ew_tb := ew_mt (List.mem_append_right _ (List.mem_of_getElem? (i := 214) (by decide +kernel))) rfl
theorem tw_215 : (Jvm.Cond.fieldLink "TraceProver" (28 : Nat) "TraceProver" "table" "LTraceProver$Table;") ∈ ew_tb := ew_mt (List.mem_append_right _ (List.mem_of_getElem? (i := 215) (by decide +kernel))) rfl
theorem tw_216 : (Jvm.Cond.fieldLink "TraceProver" (35 : Nat) "TraceProver" "kept" "LTraceProver$Proof;") ∈ ew_tb := ew_mt (List.mem_append_right _ (List.mem_of_getElem? (i := 216) (by decide +kernel))) rfl
theorem tw_217 : (Jvm.Cond.fieldLink "TraceProver" (44 : Nat) "TraceProver" "prover" "LTraceProver$Prover;") ∈ ew_tb := ew_mt (List.mem_append_right _ (List.mem_of_getElem? (i := 217) (by decide +kernel))) rfl
theorem tw_218 : (Jvm.Cond.fieldLink "TraceProver" (53 : Nat) "TraceProver" "verifier" "LTraceProver$Verifier;") ∈ ew_tb := ew_mt (List.mem_append_right _ (List.mem_of_getElem? (i := 218) (by decide +kernel))) rfl
theorem tw_219 : (Jvm.Cond.fieldLink "TraceProver" (57 : Nat) "TraceProver" "proved" "Z") ∈ ew_tb := ew_mt (List.mem_append_right _ (List.mem_of_getElem? (i := 219) (by decide +kernel))) rfl
theorem tw_220 : (Jvm.Cond.fieldLink "TraceProver" (61 : Nat) "TraceProver" "positionsKnown" "Z") ∈ ew_tb := ew_mt (List.mem_append_right _ (List.mem_of_getElem? (i := 220) (by decide +kernel))) rfl
theorem tw_238 : (Jvm.Cond.methodLink "TraceProverLaw" (13 : Nat) ({ cls := "TraceProver", name := "term", desc := "(IIII)I" } : Jvm.MethodName)) ∈ ew_tb := ew_mt (List.mem_append_right _ (List.mem_of_getElem? (i := 238) (by decide +kernel))) rfl
theorem tw_239 : (Jvm.Cond.instanceMethod ({ cls := "TraceProver", name := "term", desc := "(IIII)I" } : Jvm.MethodName)) ∈ ew_tb := ew_mt (List.mem_append_right _ (List.mem_of_getElem? (i := 239) (by decide +kernel))) rfl
theorem tw_240 : (Jvm.Cond.selects "TraceProver" ({ cls := "TraceProver", name := "term", desc := "(IIII)I" } : Jvm.MethodName) ({ cls := "TraceProver", name := "term", desc := "(IIII)I" } : Jvm.MethodName)) ∈ ew_tb := ew_mt (List.mem_append_right _ (List.mem_of_getElem? (i := 240) (by decide +kernel))) rfl
theorem tw_241 : (Jvm.Cond.code ({ cls := "TraceProver", name := "term", desc := "(IIII)I" } : Jvm.MethodName) prog_1_method_2_code (5 : Nat) (Option.some Jvm.ClassFile.FieldType.int)) ∈ ew_tb := ew_mt (List.mem_append_right _ (List.mem_of_getElem? (i := 241) (by decide +kernel))) rfl
theorem tw_242 : (Jvm.Cond.methodLink "TraceProver" (64 : Nat) ({ cls := "TraceProver", name := "isColumn", desc := "(I)Z" } : Jvm.MethodName)) ∈ ew_tb := ew_mt (List.mem_append_right _ (List.mem_of_getElem? (i := 242) (by decide +kernel))) rfl
theorem tw_243 : (Jvm.Cond.static ({ cls := "TraceProver", name := "isColumn", desc := "(I)Z" } : Jvm.MethodName)) ∈ ew_tb := ew_mt (List.mem_append_right _ (List.mem_of_getElem? (i := 243) (by decide +kernel))) rfl
theorem tw_244 : (Jvm.Cond.code ({ cls := "TraceProver", name := "isColumn", desc := "(I)Z" } : Jvm.MethodName) prog_1_method_15_code (1 : Nat) (Option.some Jvm.ClassFile.FieldType.boolean)) ∈ ew_tb := ew_mt (List.mem_append_right _ (List.mem_of_getElem? (i := 244) (by decide +kernel))) rfl
theorem tw_245 : (Jvm.Cond.methodLink "TraceProver" (68 : Nat) ({ cls := "TraceProver$Field", name := "holds", desc := "(I)Z" } : Jvm.MethodName)) ∈ ew_tb := ew_mt (List.mem_append_right _ (List.mem_of_getElem? (i := 245) (by decide +kernel))) rfl
theorem tw_246 : (Jvm.Cond.static ({ cls := "TraceProver$Field", name := "holds", desc := "(I)Z" } : Jvm.MethodName)) ∈ ew_tb := ew_mt (List.mem_append_right _ (List.mem_of_getElem? (i := 246) (by decide +kernel))) rfl
theorem tw_247 : (Jvm.Cond.code ({ cls := "TraceProver$Field", name := "holds", desc := "(I)Z" } : Jvm.MethodName) prog_2_method_2_code (1 : Nat) (Option.some Jvm.ClassFile.FieldType.boolean)) ∈ ew_tb := ew_mt (List.mem_append_right _ (List.mem_of_getElem? (i := 247) (by decide +kernel))) rfl
theorem tw_248 : (Jvm.Cond.methodLink "TraceProver" (73 : Nat) ({ cls := "TraceProver", name := "isLetter", desc := "(I)Z" } : Jvm.MethodName)) ∈ ew_tb := ew_mt (List.mem_append_right _ (List.mem_of_getElem? (i := 248) (by decide +kernel))) rfl
theorem tw_249 : (Jvm.Cond.static ({ cls := "TraceProver", name := "isLetter", desc := "(I)Z" } : Jvm.MethodName)) ∈ ew_tb := ew_mt (List.mem_append_right _ (List.mem_of_getElem? (i := 249) (by decide +kernel))) rfl
theorem tw_250 : (Jvm.Cond.code ({ cls := "TraceProver", name := "isLetter", desc := "(I)Z" } : Jvm.MethodName) prog_1_method_17_code (1 : Nat) (Option.some Jvm.ClassFile.FieldType.boolean)) ∈ ew_tb := ew_mt (List.mem_append_right _ (List.mem_of_getElem? (i := 250) (by decide +kernel))) rfl
theorem tw_251 : (Jvm.Cond.methodLink "TraceProver" (76 : Nat) ({ cls := "TraceProver$Rules", name := "addTerm", desc := "(IIII)I" } : Jvm.MethodName)) ∈ ew_tb := ew_mt (List.mem_append_right _ (List.mem_of_getElem? (i := 251) (by decide +kernel))) rfl
theorem tw_252 : (Jvm.Cond.instanceMethod ({ cls := "TraceProver$Rules", name := "addTerm", desc := "(IIII)I" } : Jvm.MethodName)) ∈ ew_tb := ew_mt (List.mem_append_right _ (List.mem_of_getElem? (i := 252) (by decide +kernel))) rfl
theorem tw_253 : (Jvm.Cond.selects "TraceProver$Rules" ({ cls := "TraceProver$Rules", name := "addTerm", desc := "(IIII)I" } : Jvm.MethodName) ({ cls := "TraceProver$Rules", name := "addTerm", desc := "(IIII)I" } : Jvm.MethodName)) ∈ ew_tb := ew_mt (List.mem_append_right _ (List.mem_of_getElem? (i := 253) (by decide +kernel))) rfl
theorem tw_254 : (Jvm.Cond.code ({ cls := "TraceProver$Rules", name := "addTerm", desc := "(IIII)I" } : Jvm.MethodName) prog_6_method_2_code (5 : Nat) (Option.some Jvm.ClassFile.FieldType.int)) ∈ ew_tb := ew_mt (List.mem_append_right _ (List.mem_of_getElem? (i := 254) (by decide +kernel))) rfl
theorem tw_255 : (Jvm.Cond.methodLink "TraceProver$Rules" (34 : Nat) ({ cls := "TraceProver$Rules", name := "write", desc := "([IIIII)V" } : Jvm.MethodName)) ∈ ew_tb := ew_mt (List.mem_append_right _ (List.mem_of_getElem? (i := 255) (by decide +kernel))) rfl
theorem tw_256 : (Jvm.Cond.static ({ cls := "TraceProver$Rules", name := "write", desc := "([IIIII)V" } : Jvm.MethodName)) ∈ ew_tb := ew_mt (List.mem_append_right _ (List.mem_of_getElem? (i := 256) (by decide +kernel))) rfl
theorem tw_257 : (Jvm.Cond.code ({ cls := "TraceProver$Rules", name := "write", desc := "([IIIII)V" } : Jvm.MethodName) prog_6_method_4_code (5 : Nat) (Option.none : Option Jvm.ClassFile.FieldType)) ∈ ew_tb := ew_mt (List.mem_append_right _ (List.mem_of_getElem? (i := 257) (by decide +kernel))) rfl
theorem tw_258 : (Jvm.Cond.methodLink "TraceProverLaw" (18 : Nat) ({ cls := "TraceProver", name := "bound", desc := "(III)I" } : Jvm.MethodName)) ∈ ew_tb := ew_mt (List.mem_append_right _ (List.mem_of_getElem? (i := 258) (by decide +kernel))) rfl
theorem tw_259 : (Jvm.Cond.instanceMethod ({ cls := "TraceProver", name := "bound", desc := "(III)I" } : Jvm.MethodName)) ∈ ew_tb := ew_mt (List.mem_append_right _ (List.mem_of_getElem? (i := 259) (by decide +kernel))) rfl
theorem tw_260 : (Jvm.Cond.selects "TraceProver" ({ cls := "TraceProver", name := "bound", desc := "(III)I" } : Jvm.MethodName) ({ cls := "TraceProver", name := "bound", desc := "(III)I" } : Jvm.MethodName)) ∈ ew_tb := ew_mt (List.mem_append_right _ (List.mem_of_getElem? (i := 260) (by decide +kernel))) rfl
theorem tw_261 : (Jvm.Cond.code ({ cls := "TraceProver", name := "bound", desc := "(III)I" } : Jvm.MethodName) prog_1_method_3_code (4 : Nat) (Option.some Jvm.ClassFile.FieldType.int)) ∈ ew_tb := ew_mt (List.mem_append_right _ (List.mem_of_getElem? (i := 261) (by decide +kernel))) rfl
theorem tw_262 : (Jvm.Cond.methodLink "TraceProver" (80 : Nat) ({ cls := "TraceProver", name := "isCell", desc := "(II)Z" } : Jvm.MethodName)) ∈ ew_tb := ew_mt (List.mem_append_right _ (List.mem_of_getElem? (i := 262) (by decide +kernel))) rfl
theorem tw_263 : (Jvm.Cond.static ({ cls := "TraceProver", name := "isCell", desc := "(II)Z" } : Jvm.MethodName)) ∈ ew_tb := ew_mt (List.mem_append_right _ (List.mem_of_getElem? (i := 263) (by decide +kernel))) rfl
theorem tw_264 : (Jvm.Cond.code ({ cls := "TraceProver", name := "isCell", desc := "(II)Z" } : Jvm.MethodName) prog_1_method_16_code (2 : Nat) (Option.some Jvm.ClassFile.FieldType.boolean)) ∈ ew_tb := ew_mt (List.mem_append_right _ (List.mem_of_getElem? (i := 264) (by decide +kernel))) rfl
theorem tw_265 : (Jvm.Cond.methodLink "TraceProver" (84 : Nat) ({ cls := "TraceProver$Rules", name := "addBound", desc := "(III)I" } : Jvm.MethodName)) ∈ ew_tb := ew_mt (List.mem_append_right _ (List.mem_of_getElem? (i := 265) (by decide +kernel))) rfl
theorem tw_266 : (Jvm.Cond.instanceMethod ({ cls := "TraceProver$Rules", name := "addBound", desc := "(III)I" } : Jvm.MethodName)) ∈ ew_tb := ew_mt (List.mem_append_right _ (List.mem_of_getElem? (i := 266) (by decide +kernel))) rfl
theorem tw_267 : (Jvm.Cond.selects "TraceProver$Rules" ({ cls := "TraceProver$Rules", name := "addBound", desc := "(III)I" } : Jvm.MethodName) ({ cls := "TraceProver$Rules", name := "addBound", desc := "(III)I" } : Jvm.MethodName)) ∈ ew_tb := ew_mt (List.mem_append_right _ (List.mem_of_getElem? (i := 267) (by decide +kernel))) rfl
theorem tw_268 : (Jvm.Cond.code ({ cls := "TraceProver$Rules", name := "addBound", desc := "(III)I" } : Jvm.MethodName) prog_6_method_3_code (4 : Nat) (Option.some Jvm.ClassFile.FieldType.int)) ∈ ew_tb := ew_mt (List.mem_append_right _ (List.mem_of_getElem? (i := 268) (by decide +kernel))) rfl
theorem tw_269 : (Jvm.Cond.methodLink "TraceProverLaw" (23 : Nat) ({ cls := "TraceProver", name := "clear", desc := "()V" } : Jvm.MethodName)) ∈ ew_tb := ew_mt (List.mem_append_right _ (List.mem_of_getElem? (i := 269) (by decide +kernel))) rfl
theorem tw_270 : (Jvm.Cond.instanceMethod ({ cls := "TraceProver", name := "clear", desc := "()V" } : Jvm.MethodName)) ∈ ew_tb := ew_mt (List.mem_append_right _ (List.mem_of_getElem? (i := 270) (by decide +kernel))) rfl
theorem tw_271 : (Jvm.Cond.selects "TraceProver" ({ cls := "TraceProver", name := "clear", desc := "()V" } : Jvm.MethodName) ({ cls := "TraceProver", name := "clear", desc := "()V" } : Jvm.MethodName)) ∈ ew_tb := ew_mt (List.mem_append_right _ (List.mem_of_getElem? (i := 271) (by decide +kernel))) rfl
theorem tw_272 : (Jvm.Cond.code ({ cls := "TraceProver", name := "clear", desc := "()V" } : Jvm.MethodName) prog_1_method_4_code (1 : Nat) (Option.none : Option Jvm.ClassFile.FieldType)) ∈ ew_tb := ew_mt (List.mem_append_right _ (List.mem_of_getElem? (i := 272) (by decide +kernel))) rfl
theorem tw_273 : (Jvm.Cond.methodLink "TraceProver" (88 : Nat) ({ cls := "TraceProver$Rules", name := "dropAll", desc := "()V" } : Jvm.MethodName)) ∈ ew_tb := ew_mt (List.mem_append_right _ (List.mem_of_getElem? (i := 273) (by decide +kernel))) rfl
theorem tw_274 : (Jvm.Cond.instanceMethod ({ cls := "TraceProver$Rules", name := "dropAll", desc := "()V" } : Jvm.MethodName)) ∈ ew_tb := ew_mt (List.mem_append_right _ (List.mem_of_getElem? (i := 274) (by decide +kernel))) rfl
theorem tw_275 : (Jvm.Cond.selects "TraceProver$Rules" ({ cls := "TraceProver$Rules", name := "dropAll", desc := "()V" } : Jvm.MethodName) ({ cls := "TraceProver$Rules", name := "dropAll", desc := "()V" } : Jvm.MethodName)) ∈ ew_tb := ew_mt (List.mem_append_right _ (List.mem_of_getElem? (i := 275) (by decide +kernel))) rfl
theorem tw_276 : (Jvm.Cond.code ({ cls := "TraceProver$Rules", name := "dropAll", desc := "()V" } : Jvm.MethodName) prog_6_method_5_code (1 : Nat) (Option.none : Option Jvm.ClassFile.FieldType)) ∈ ew_tb := ew_mt (List.mem_append_right _ (List.mem_of_getElem? (i := 276) (by decide +kernel))) rfl
theorem tw_277 : (Jvm.Cond.methodLink "TraceProverLaw" (27 : Nat) ({ cls := "TraceProver", name := "set", desc := "(III)Z" } : Jvm.MethodName)) ∈ ew_tb := ew_mt (List.mem_append_right _ (List.mem_of_getElem? (i := 277) (by decide +kernel))) rfl
theorem tw_278 : (Jvm.Cond.instanceMethod ({ cls := "TraceProver", name := "set", desc := "(III)Z" } : Jvm.MethodName)) ∈ ew_tb := ew_mt (List.mem_append_right _ (List.mem_of_getElem? (i := 278) (by decide +kernel))) rfl
theorem tw_279 : (Jvm.Cond.selects "TraceProver" ({ cls := "TraceProver", name := "set", desc := "(III)Z" } : Jvm.MethodName) ({ cls := "TraceProver", name := "set", desc := "(III)Z" } : Jvm.MethodName)) ∈ ew_tb := ew_mt (List.mem_append_right _ (List.mem_of_getElem? (i := 279) (by decide +kernel))) rfl
theorem tw_280 : (Jvm.Cond.code ({ cls := "TraceProver", name := "set", desc := "(III)Z" } : Jvm.MethodName) prog_1_method_5_code (4 : Nat) (Option.some Jvm.ClassFile.FieldType.boolean)) ∈ ew_tb := ew_mt (List.mem_append_right _ (List.mem_of_getElem? (i := 280) (by decide +kernel))) rfl
theorem tw_281 : (Jvm.Cond.methodLink "TraceProver" (91 : Nat) ({ cls := "TraceProver$Table", name := "put", desc := "(III)V" } : Jvm.MethodName)) ∈ ew_tb := ew_mt (List.mem_append_right _ (List.mem_of_getElem? (i := 281) (by decide +kernel))) rfl
theorem tw_282 : (Jvm.Cond.instanceMethod ({ cls := "TraceProver$Table", name := "put", desc := "(III)V" } : Jvm.MethodName)) ∈ ew_tb := ew_mt (List.mem_append_right _ (List.mem_of_getElem? (i := 282) (by decide +kernel))) rfl
theorem tw_283 : (Jvm.Cond.selects "TraceProver$Table" ({ cls := "TraceProver$Table", name := "put", desc := "(III)V" } : Jvm.MethodName) ({ cls := "TraceProver$Table", name := "put", desc := "(III)V" } : Jvm.MethodName)) ∈ ew_tb := ew_mt (List.mem_append_right _ (List.mem_of_getElem? (i := 283) (by decide +kernel))) rfl
theorem tw_284 : (Jvm.Cond.code ({ cls := "TraceProver$Table", name := "put", desc := "(III)V" } : Jvm.MethodName) prog_7_method_2_code (4 : Nat) (Option.none : Option Jvm.ClassFile.FieldType)) ∈ ew_tb := ew_mt (List.mem_append_right _ (List.mem_of_getElem? (i := 284) (by decide +kernel))) rfl
theorem tw_285 : (Jvm.Cond.methodLink "TraceProverLaw" (32 : Nat) ({ cls := "TraceProver", name := "cell", desc := "(II)I" } : Jvm.MethodName)) ∈ ew_tb := ew_mt (List.mem_append_right _ (List.mem_of_getElem? (i := 285) (by decide +kernel))) rfl
theorem tw_286 : (Jvm.Cond.instanceMethod ({ cls := "TraceProver", name := "cell", desc := "(II)I" } : Jvm.MethodName)) ∈ ew_tb := ew_mt (List.mem_append_right _ (List.mem_of_getElem? (i := 286) (by decide +kernel))) rfl
theorem tw_287 : (Jvm.Cond.selects "TraceProver" ({ cls := "TraceProver", name := "cell", desc := "(II)I" } : Jvm.MethodName) ({ cls := "TraceProver", name := "cell", desc := "(II)I" } : Jvm.MethodName)) ∈ ew_tb := ew_mt (List.mem_append_right _ (List.mem_of_getElem? (i := 287) (by decide +kernel))) rfl
theorem tw_288 : (Jvm.Cond.code ({ cls := "TraceProver", name := "cell", desc := "(II)I" } : Jvm.MethodName) prog_1_method_6_code (3 : Nat) (Option.some Jvm.ClassFile.FieldType.int)) ∈ ew_tb := ew_mt (List.mem_append_right _ (List.mem_of_getElem? (i := 288) (by decide +kernel))) rfl
theorem tw_289 : (Jvm.Cond.methodLink "TraceProver" (95 : Nat) ({ cls := "TraceProver$Table", name := "get", desc := "(II)I" } : Jvm.MethodName)) ∈ ew_tb := ew_mt (List.mem_append_right _ (List.mem_of_getElem? (i := 289) (by decide +kernel))) rfl
theorem tw_290 : (Jvm.Cond.instanceMethod ({ cls := "TraceProver$Table", name := "get", desc := "(II)I" } : Jvm.MethodName)) ∈ ew_tb := ew_mt (List.mem_append_right _ (List.mem_of_getElem? (i := 290) (by decide +kernel))) rfl
theorem tw_291 : (Jvm.Cond.selects "TraceProver$Table" ({ cls := "TraceProver$Table", name := "get", desc := "(II)I" } : Jvm.MethodName) ({ cls := "TraceProver$Table", name := "get", desc := "(II)I" } : Jvm.MethodName)) ∈ ew_tb := ew_mt (List.mem_append_right _ (List.mem_of_getElem? (i := 291) (by decide +kernel))) rfl
theorem tw_292 : (Jvm.Cond.code ({ cls := "TraceProver$Table", name := "get", desc := "(II)I" } : Jvm.MethodName) prog_7_method_3_code (3 : Nat) (Option.some Jvm.ClassFile.FieldType.int)) ∈ ew_tb := ew_mt (List.mem_append_right _ (List.mem_of_getElem? (i := 292) (by decide +kernel))) rfl
theorem tw_293 : (Jvm.Cond.methodLink "TraceProverLaw" (37 : Nat) ({ cls := "TraceProver", name := "at", desc := "(II)I" } : Jvm.MethodName)) ∈ ew_tb := ew_mt (List.mem_append_right _ (List.mem_of_getElem? (i := 293) (by decide +kernel))) rfl
theorem tw_294 : (Jvm.Cond.instanceMethod ({ cls := "TraceProver", name := "at", desc := "(II)I" } : Jvm.MethodName)) ∈ ew_tb := ew_mt (List.mem_append_right _ (List.mem_of_getElem? (i := 294) (by decide +kernel))) rfl
theorem tw_295 : (Jvm.Cond.selects "TraceProver" ({ cls := "TraceProver", name := "at", desc := "(II)I" } : Jvm.MethodName) ({ cls := "TraceProver", name := "at", desc := "(II)I" } : Jvm.MethodName)) ∈ ew_tb := ew_mt (List.mem_append_right _ (List.mem_of_getElem? (i := 295) (by decide +kernel))) rfl
theorem tw_296 : (Jvm.Cond.code ({ cls := "TraceProver", name := "at", desc := "(II)I" } : Jvm.MethodName) prog_1_method_7_code (3 : Nat) (Option.some Jvm.ClassFile.FieldType.int)) ∈ ew_tb := ew_mt (List.mem_append_right _ (List.mem_of_getElem? (i := 296) (by decide +kernel))) rfl
theorem tw_297 : (Jvm.Cond.methodLink "TraceProver" (99 : Nat) ({ cls := "TraceProver$Table", name := "polynomial", desc := "(II)I" } : Jvm.MethodName)) ∈ ew_tb := ew_mt (List.mem_append_right _ (List.mem_of_getElem? (i := 297) (by decide +kernel))) rfl
theorem tw_298 : (Jvm.Cond.instanceMethod ({ cls := "TraceProver$Table", name := "polynomial", desc := "(II)I" } : Jvm.MethodName)) ∈ ew_tb := ew_mt (List.mem_append_right _ (List.mem_of_getElem? (i := 298) (by decide +kernel))) rfl
theorem tw_299 : (Jvm.Cond.selects "TraceProver$Table" ({ cls := "TraceProver$Table", name := "polynomial", desc := "(II)I" } : Jvm.MethodName) ({ cls := "TraceProver$Table", name := "polynomial", desc := "(II)I" } : Jvm.MethodName)) ∈ ew_tb := ew_mt (List.mem_append_right _ (List.mem_of_getElem? (i := 299) (by decide +kernel))) rfl
theorem tw_300 : (Jvm.Cond.code ({ cls := "TraceProver$Table", name := "polynomial", desc := "(II)I" } : Jvm.MethodName) prog_7_method_4_code (3 : Nat) (Option.some Jvm.ClassFile.FieldType.int)) ∈ ew_tb := ew_mt (List.mem_append_right _ (List.mem_of_getElem? (i := 300) (by decide +kernel))) rfl
theorem tw_301 : (Jvm.Cond.methodLink "TraceProver$Table" (20 : Nat) ({ cls := "TraceProver$Points", name := "interpolate", desc := "([II)I" } : Jvm.MethodName)) ∈ ew_tb := ew_mt (List.mem_append_right _ (List.mem_of_getElem? (i := 301) (by decide +kernel))) rfl
theorem tw_302 : (Jvm.Cond.instanceMethod ({ cls := "TraceProver$Points", name := "interpolate", desc := "([II)I" } : Jvm.MethodName)) ∈ ew_tb := ew_mt (List.mem_append_right _ (List.mem_of_getElem? (i := 302) (by decide +kernel))) rfl
theorem tw_303 : (Jvm.Cond.selects "TraceProver$Points" ({ cls := "TraceProver$Points", name := "interpolate", desc := "([II)I" } : Jvm.MethodName) ({ cls := "TraceProver$Points", name := "interpolate", desc := "([II)I" } : Jvm.MethodName)) ∈ ew_tb := ew_mt (List.mem_append_right _ (List.mem_of_getElem? (i := 303) (by decide +kernel))) rfl
theorem tw_304 : (Jvm.Cond.code ({ cls := "TraceProver$Points", name := "interpolate", desc := "([II)I" } : Jvm.MethodName) prog_3_method_5_code (5 : Nat) (Option.some Jvm.ClassFile.FieldType.int)) ∈ ew_tb := ew_mt (List.mem_append_right _ (List.mem_of_getElem? (i := 304) (by decide +kernel))) rfl
theorem tw_305 : (Jvm.Cond.methodLink "TraceProver$Points" (46 : Nat) ({ cls := "TraceProver$Points", name := "rowsBefore", desc := "(II)I" } : Jvm.MethodName)) ∈ ew_tb := ew_mt (List.mem_append_right _ (List.mem_of_getElem? (i := 305) (by decide +kernel))) rfl
theorem tw_306 : (Jvm.Cond.static ({ cls := "TraceProver$Points", name := "rowsBefore", desc := "(II)I" } : Jvm.MethodName)) ∈ ew_tb := ew_mt (List.mem_append_right _ (List.mem_of_getElem? (i := 306) (by decide +kernel))) rfl
theorem tw_307 : (Jvm.Cond.code ({ cls := "TraceProver$Points", name := "rowsBefore", desc := "(II)I" } : Jvm.MethodName) prog_3_method_6_code (2 : Nat) (Option.some Jvm.ClassFile.FieldType.int)) ∈ ew_tb := ew_mt (List.mem_append_right _ (List.mem_of_getElem? (i := 307) (by decide +kernel))) rfl
theorem tw_308 : (Jvm.Cond.methodLink "TraceProver$Points" (49 : Nat) ({ cls := "TraceProver$Field", name := "plus", desc := "(II)I" } : Jvm.MethodName)) ∈ ew_tb := ew_mt (List.mem_append_right _ (List.mem_of_getElem? (i := 308) (by decide +kernel))) rfl
theorem tw_309 : (Jvm.Cond.static ({ cls := "TraceProver$Field", name := "plus", desc := "(II)I" } : Jvm.MethodName)) ∈ ew_tb := ew_mt (List.mem_append_right _ (List.mem_of_getElem? (i := 309) (by decide +kernel))) rfl
theorem tw_310 : (Jvm.Cond.code ({ cls := "TraceProver$Field", name := "plus", desc := "(II)I" } : Jvm.MethodName) prog_2_method_3_code (2 : Nat) (Option.some Jvm.ClassFile.FieldType.int)) ∈ ew_tb := ew_mt (List.mem_append_right _ (List.mem_of_getElem? (i := 310) (by decide +kernel))) rfl
theorem tw_311 : (Jvm.Cond.methodLink "TraceProverLaw" (41 : Nat) ({ cls := "TraceProver", name := "wrong", desc := "()I" } : Jvm.MethodName)) ∈ ew_tb := ew_mt (List.mem_append_right _ (List.mem_of_getElem? (i := 311) (by decide +kernel))) rfl
theorem tw_312 : (Jvm.Cond.instanceMethod ({ cls := "TraceProver", name := "wrong", desc := "()I" } : Jvm.MethodName)) ∈ ew_tb := ew_mt (List.mem_append_right _ (List.mem_of_getElem? (i := 312) (by decide +kernel))) rfl
theorem tw_313 : (Jvm.Cond.selects "TraceProver" ({ cls := "TraceProver", name := "wrong", desc := "()I" } : Jvm.MethodName) ({ cls := "TraceProver", name := "wrong", desc := "()I" } : Jvm.MethodName)) ∈ ew_tb := ew_mt (List.mem_append_right _ (List.mem_of_getElem? (i := 313) (by decide +kernel))) rfl
theorem tw_314 : (Jvm.Cond.code ({ cls := "TraceProver", name := "wrong", desc := "()I" } : Jvm.MethodName) prog_1_method_8_code (2 : Nat) (Option.some Jvm.ClassFile.FieldType.int)) ∈ ew_tb := ew_mt (List.mem_append_right _ (List.mem_of_getElem? (i := 314) (by decide +kernel))) rfl
theorem tw_315 : (Jvm.Cond.methodLink "TraceProver" (102 : Nat) ({ cls := "TraceProver$Rules", name := "areBrokenIn", desc := "(LTraceProver$Table;I)Z" } : Jvm.MethodName)) ∈ ew_tb := ew_mt (List.mem_append_right _ (List.mem_of_getElem? (i := 315) (by decide +kernel))) rfl
theorem tw_316 : (Jvm.Cond.instanceMethod ({ cls := "TraceProver$Rules", name := "areBrokenIn", desc := "(LTraceProver$Table;I)Z" } : Jvm.MethodName)) ∈ ew_tb := ew_mt (List.mem_append_right _ (List.mem_of_getElem? (i := 316) (by decide +kernel))) rfl
theorem tw_317 : (Jvm.Cond.selects "TraceProver$Rules" ({ cls := "TraceProver$Rules", name := "areBrokenIn", desc := "(LTraceProver$Table;I)Z" } : Jvm.MethodName) ({ cls := "TraceProver$Rules", name := "areBrokenIn", desc := "(LTraceProver$Table;I)Z" } : Jvm.MethodName)) ∈ ew_tb := ew_mt (List.mem_append_right _ (List.mem_of_getElem? (i := 317) (by decide +kernel))) rfl
theorem tw_318 : (Jvm.Cond.code ({ cls := "TraceProver$Rules", name := "areBrokenIn", desc := "(LTraceProver$Table;I)Z" } : Jvm.MethodName) prog_6_method_10_code (3 : Nat) (Option.some Jvm.ClassFile.FieldType.boolean)) ∈ ew_tb := ew_mt (List.mem_append_right _ (List.mem_of_getElem? (i := 318) (by decide +kernel))) rfl
theorem tw_319 : (Jvm.Cond.methodLink "TraceProver$Rules" (52 : Nat) ({ cls := "TraceProver$Rules", name := "isStepBroken", desc := "(LTraceProver$Table;I)Z" } : Jvm.MethodName)) ∈ ew_tb := ew_mt (List.mem_append_right _ (List.mem_of_getElem? (i := 319) (by decide +kernel))) rfl
theorem tw_321 : (Jvm.Cond.instanceMethod ({ cls := "TraceProver$Rules", name := "isStepBroken", desc := "(LTraceProver$Table;I)Z" } : Jvm.MethodName)) ∈ ew_tb := ew_mt (List.mem_append_right _ (List.mem_of_getElem? (i := 321) (by decide +kernel))) rfl
theorem tw_322 : (Jvm.Cond.code ({ cls := "TraceProver$Rules", name := "isStepBroken", desc := "(LTraceProver$Table;I)Z" } : Jvm.MethodName) prog_6_method_11_code (4 : Nat) (Option.some Jvm.ClassFile.FieldType.boolean)) ∈ ew_tb := ew_mt (List.mem_append_right _ (List.mem_of_getElem? (i := 322) (by decide +kernel))) rfl
theorem tw_323 : (Jvm.Cond.methodLink "TraceProver$Rules" (59 : Nat) ({ cls := "TraceProver$Table", name := "get", desc := "(II)I" } : Jvm.MethodName)) ∈ ew_tb := ew_mt (List.mem_append_right _ (List.mem_of_getElem? (i := 323) (by decide +kernel))) rfl
theorem tw_324 : (Jvm.Cond.methodLink "TraceProver$Rules" (65 : Nat) ({ cls := "TraceProver$Rules", name := "read", desc := "(IIII)V" } : Jvm.MethodName)) ∈ ew_tb := ew_mt (List.mem_append_right _ (List.mem_of_getElem? (i := 324) (by decide +kernel))) rfl
theorem tw_325 : (Jvm.Cond.instanceMethod ({ cls := "TraceProver$Rules", name := "read", desc := "(IIII)V" } : Jvm.MethodName)) ∈ ew_tb := ew_mt (List.mem_append_right _ (List.mem_of_getElem? (i := 325) (by decide +kernel))) rfl
theorem tw_326 : (Jvm.Cond.selects "TraceProver$Rules" ({ cls := "TraceProver$Rules", name := "read", desc := "(IIII)V" } : Jvm.MethodName) ({ cls := "TraceProver$Rules", name := "read", desc := "(IIII)V" } : Jvm.MethodName)) ∈ ew_tb := ew_mt (List.mem_append_right _ (List.mem_of_getElem? (i := 326) (by decide +kernel))) rfl
theorem tw_327 : (Jvm.Cond.code ({ cls := "TraceProver$Rules", name := "read", desc := "(IIII)V" } : Jvm.MethodName) prog_6_method_13_code (5 : Nat) (Option.none : Option Jvm.ClassFile.FieldType)) ∈ ew_tb := ew_mt (List.mem_append_right _ (List.mem_of_getElem? (i := 327) (by decide +kernel))) rfl
theorem tw_328 : (Jvm.Cond.methodLink "TraceProver$Rules" (69 : Nat) ({ cls := "TraceProver$Rules", name := "termSum", desc := "(I)I" } : Jvm.MethodName)) ∈ ew_tb := ew_mt (List.mem_append_right _ (List.mem_of_getElem? (i := 328) (by decide +kernel))) rfl
theorem tw_330 : (Jvm.Cond.instanceMethod ({ cls := "TraceProver$Rules", name := "termSum", desc := "(I)I" } : Jvm.MethodName)) ∈ ew_tb := ew_mt (List.mem_append_right _ (List.mem_of_getElem? (i := 330) (by decide +kernel))) rfl
theorem tw_331 : (Jvm.Cond.code ({ cls := "TraceProver$Rules", name := "termSum", desc := "(I)I" } : Jvm.MethodName) prog_6_method_14_code (7 : Nat) (Option.some Jvm.ClassFile.FieldType.int)) ∈ ew_tb := ew_mt (List.mem_append_right _ (List.mem_of_getElem? (i := 331) (by decide +kernel))) rfl
theorem tw_332 : (Jvm.Cond.methodLink "TraceProver$Rules" (82 : Nat) ({ cls := "TraceProver$Field", name := "times", desc := "(II)I" } : Jvm.MethodName)) ∈ ew_tb := ew_mt (List.mem_append_right _ (List.mem_of_getElem? (i := 332) (by decide +kernel))) rfl
theorem tw_333 : (Jvm.Cond.methodLink "TraceProver$Rules" (87 : Nat) ({ cls := "TraceProver$Field", name := "plus", desc := "(II)I" } : Jvm.MethodName)) ∈ ew_tb := ew_mt (List.mem_append_right _ (List.mem_of_getElem? (i := 333) (by decide +kernel))) rfl
theorem tw_334 : (Jvm.Cond.methodLink "TraceProver$Rules" (56 : Nat) ({ cls := "TraceProver$Rules", name := "isBoundBroken", desc := "(LTraceProver$Table;I)Z" } : Jvm.MethodName)) ∈ ew_tb := ew_mt (List.mem_append_right _ (List.mem_of_getElem? (i := 334) (by decide +kernel))) rfl
theorem tw_336 : (Jvm.Cond.instanceMethod ({ cls := "TraceProver$Rules", name := "isBoundBroken", desc := "(LTraceProver$Table;I)Z" } : Jvm.MethodName)) ∈ ew_tb := ew_mt (List.mem_append_right _ (List.mem_of_getElem? (i := 336) (by decide +kernel))) rfl
theorem tw_337 : (Jvm.Cond.code ({ cls := "TraceProver$Rules", name := "isBoundBroken", desc := "(LTraceProver$Table;I)Z" } : Jvm.MethodName) prog_6_method_12_code (4 : Nat) (Option.some Jvm.ClassFile.FieldType.boolean)) ∈ ew_tb := ew_mt (List.mem_append_right _ (List.mem_of_getElem? (i := 337) (by decide +kernel))) rfl
theorem tw_338 : (Jvm.Cond.methodLink "TraceProver$Rules" (73 : Nat) ({ cls := "TraceProver$Rules", name := "boundRow", desc := "(I)I" } : Jvm.MethodName)) ∈ ew_tb := ew_mt (List.mem_append_right _ (List.mem_of_getElem? (i := 338) (by decide +kernel))) rfl
theorem tw_340 : (Jvm.Cond.instanceMethod ({ cls := "TraceProver$Rules", name := "boundRow", desc := "(I)I" } : Jvm.MethodName)) ∈ ew_tb := ew_mt (List.mem_append_right _ (List.mem_of_getElem? (i := 340) (by decide +kernel))) rfl
theorem tw_341 : (Jvm.Cond.code ({ cls := "TraceProver$Rules", name := "boundRow", desc := "(I)I" } : Jvm.MethodName) prog_6_method_17_code (2 : Nat) (Option.some Jvm.ClassFile.FieldType.int)) ∈ ew_tb := ew_mt (List.mem_append_right _ (List.mem_of_getElem? (i := 341) (by decide +kernel))) rfl
theorem tw_342 : (Jvm.Cond.methodLink "TraceProver$Rules" (76 : Nat) ({ cls := "TraceProver$Rules", name := "boundColumn", desc := "(I)I" } : Jvm.MethodName)) ∈ ew_tb := ew_mt (List.mem_append_right _ (List.mem_of_getElem? (i := 342) (by decide +kernel))) rfl
theorem tw_344 : (Jvm.Cond.instanceMethod ({ cls := "TraceProver$Rules", name := "boundColumn", desc := "(I)I" } : Jvm.MethodName)) ∈ ew_tb := ew_mt (List.mem_append_right _ (List.mem_of_getElem? (i := 344) (by decide +kernel))) rfl
theorem tw_345 : (Jvm.Cond.code ({ cls := "TraceProver$Rules", name := "boundColumn", desc := "(I)I" } : Jvm.MethodName) prog_6_method_16_code (2 : Nat) (Option.some Jvm.ClassFile.FieldType.int)) ∈ ew_tb := ew_mt (List.mem_append_right _ (List.mem_of_getElem? (i := 345) (by decide +kernel))) rfl
theorem tw_346 : (Jvm.Cond.methodLink "TraceProver$Rules" (79 : Nat) ({ cls := "TraceProver$Rules", name := "boundValue", desc := "(I)I" } : Jvm.MethodName)) ∈ ew_tb := ew_mt (List.mem_append_right _ (List.mem_of_getElem? (i := 346) (by decide +kernel))) rfl
theorem tw_348 : (Jvm.Cond.instanceMethod ({ cls := "TraceProver$Rules", name := "boundValue", desc := "(I)I" } : Jvm.MethodName)) ∈ ew_tb := ew_mt (List.mem_append_right _ (List.mem_of_getElem? (i := 348) (by decide +kernel))) rfl
theorem tw_349 : (Jvm.Cond.code ({ cls := "TraceProver$Rules", name := "boundValue", desc := "(I)I" } : Jvm.MethodName) prog_6_method_18_code (2 : Nat) (Option.some Jvm.ClassFile.FieldType.int)) ∈ ew_tb := ew_mt (List.mem_append_right _ (List.mem_of_getElem? (i := 349) (by decide +kernel))) rfl
theorem tw_350 : (Jvm.Cond.methodLink "TraceProverLaw" (46 : Nat) ({ cls := "TraceProver", name := "prove", desc := "()I" } : Jvm.MethodName)) ∈ ew_tb := ew_mt (List.mem_append_right _ (List.mem_of_getElem? (i := 350) (by decide +kernel))) rfl
theorem tw_351 : (Jvm.Cond.instanceMethod ({ cls := "TraceProver", name := "prove", desc := "()I" } : Jvm.MethodName)) ∈ ew_tb := ew_mt (List.mem_append_right _ (List.mem_of_getElem? (i := 351) (by decide +kernel))) rfl
theorem tw_352 : (Jvm.Cond.selects "TraceProver" ({ cls := "TraceProver", name := "prove", desc := "()I" } : Jvm.MethodName) ({ cls := "TraceProver", name := "prove", desc := "()I" } : Jvm.MethodName)) ∈ ew_tb := ew_mt (List.mem_append_right _ (List.mem_of_getElem? (i := 352) (by decide +kernel))) rfl
theorem tw_353 : (Jvm.Cond.code ({ cls := "TraceProver", name := "prove", desc := "()I" } : Jvm.MethodName) prog_1_method_9_code (2 : Nat) (Option.some Jvm.ClassFile.FieldType.int)) ∈ ew_tb := ew_mt (List.mem_append_right _ (List.mem_of_getElem? (i := 353) (by decide +kernel))) rfl
theorem tw_354 : (Jvm.Cond.methodLink "TraceProver" (106 : Nat) ({ cls := "TraceProver$Rules", name := "areNone", desc := "()Z" } : Jvm.MethodName)) ∈ ew_tb := ew_mt (List.mem_append_right _ (List.mem_of_getElem? (i := 354) (by decide +kernel))) rfl
theorem tw_355 : (Jvm.Cond.instanceMethod ({ cls := "TraceProver$Rules", name := "areNone", desc := "()Z" } : Jvm.MethodName)) ∈ ew_tb := ew_mt (List.mem_append_right _ (List.mem_of_getElem? (i := 355) (by decide +kernel))) rfl
theorem tw_356 : (Jvm.Cond.selects "TraceProver$Rules" ({ cls := "TraceProver$Rules", name := "areNone", desc := "()Z" } : Jvm.MethodName) ({ cls := "TraceProver$Rules", name := "areNone", desc := "()Z" } : Jvm.MethodName)) ∈ ew_tb := ew_mt (List.mem_append_right _ (List.mem_of_getElem? (i := 356) (by decide +kernel))) rfl
theorem tw_357 : (Jvm.Cond.code ({ cls := "TraceProver$Rules", name := "areNone", desc := "()Z" } : Jvm.MethodName) prog_6_method_6_code (1 : Nat) (Option.some Jvm.ClassFile.FieldType.boolean)) ∈ ew_tb := ew_mt (List.mem_append_right _ (List.mem_of_getElem? (i := 357) (by decide +kernel))) rfl
theorem tw_358 : (Jvm.Cond.methodLink "TraceProver$Rules" (38 : Nat) ({ cls := "TraceProver$Rules", name := "constraintCount", desc := "()I" } : Jvm.MethodName)) ∈ ew_tb := ew_mt (List.mem_append_right _ (List.mem_of_getElem? (i := 358) (by decide +kernel))) rfl
theorem tw_360 : (Jvm.Cond.instanceMethod ({ cls := "TraceProver$Rules", name := "constraintCount", desc := "()I" } : Jvm.MethodName)) ∈ ew_tb := ew_mt (List.mem_append_right _ (List.mem_of_getElem? (i := 360) (by decide +kernel))) rfl
theorem tw_361 : (Jvm.Cond.code ({ cls := "TraceProver$Rules", name := "constraintCount", desc := "()I" } : Jvm.MethodName) prog_6_method_7_code (1 : Nat) (Option.some Jvm.ClassFile.FieldType.int)) ∈ ew_tb := ew_mt (List.mem_append_right _ (List.mem_of_getElem? (i := 361) (by decide +kernel))) rfl
theorem tw_362 : (Jvm.Cond.methodLink "TraceProver" (110 : Nat) ({ cls := "TraceProver", name := "wrong", desc := "()I" } : Jvm.MethodName)) ∈ ew_tb := ew_mt (List.mem_append_right _ (List.mem_of_getElem? (i := 362) (by decide +kernel))) rfl
theorem tw_363 : (Jvm.Cond.methodLink "TraceProver" (114 : Nat) ({ cls := "TraceProver$Prover", name := "writeTo", desc := "(LTraceProver$Proof;)V" } : Jvm.MethodName)) ∈ ew_tb := ew_mt (List.mem_append_right _ (List.mem_of_getElem? (i := 363) (by decide +kernel))) rfl
theorem tw_364 : (Jvm.Cond.instanceMethod ({ cls := "TraceProver$Prover", name := "writeTo", desc := "(LTraceProver$Proof;)V" } : Jvm.MethodName)) ∈ ew_tb := ew_mt (List.mem_append_right _ (List.mem_of_getElem? (i := 364) (by decide +kernel))) rfl
theorem tw_365 : (Jvm.Cond.selects "TraceProver$Prover" ({ cls := "TraceProver$Prover", name := "writeTo", desc := "(LTraceProver$Proof;)V" } : Jvm.MethodName) ({ cls := "TraceProver$Prover", name := "writeTo", desc := "(LTraceProver$Proof;)V" } : Jvm.MethodName)) ∈ ew_tb := ew_mt (List.mem_append_right _ (List.mem_of_getElem? (i := 365) (by decide +kernel))) rfl
theorem tw_366 : (Jvm.Cond.code ({ cls := "TraceProver$Prover", name := "writeTo", desc := "(LTraceProver$Proof;)V" } : Jvm.MethodName) prog_5_method_2_code (3 : Nat) (Option.none : Option Jvm.ClassFile.FieldType)) ∈ ew_tb := ew_mt (List.mem_append_right _ (List.mem_of_getElem? (i := 366) (by decide +kernel))) rfl
theorem tw_367 : (Jvm.Cond.methodLink "TraceProver$Prover" (61 : Nat) ({ cls := "TraceProver$Prover", name := "commitColumns", desc := "()I" } : Jvm.MethodName)) ∈ ew_tb := ew_mt (List.mem_append_right _ (List.mem_of_getElem? (i := 367) (by decide +kernel))) rfl
theorem tw_369 : (Jvm.Cond.instanceMethod ({ cls := "TraceProver$Prover", name := "commitColumns", desc := "()I" } : Jvm.MethodName)) ∈ ew_tb := ew_mt (List.mem_append_right _ (List.mem_of_getElem? (i := 369) (by decide +kernel))) rfl
theorem tw_370 : (Jvm.Cond.code ({ cls := "TraceProver$Prover", name := "commitColumns", desc := "()I" } : Jvm.MethodName) prog_5_method_3_code (2 : Nat) (Option.some Jvm.ClassFile.FieldType.int)) ∈ ew_tb := ew_mt (List.mem_append_right _ (List.mem_of_getElem? (i := 370) (by decide +kernel))) rfl
theorem tw_371 : (Jvm.Cond.methodLink "TraceProver$Prover" (96 : Nat) ({ cls := "TraceProver$Table", name := "polynomial", desc := "(II)I" } : Jvm.MethodName)) ∈ ew_tb := ew_mt (List.mem_append_right _ (List.mem_of_getElem? (i := 371) (by decide +kernel))) rfl
theorem tw_372 : (Jvm.Cond.methodLink "TraceProver$Prover" (101 : Nat) ({ cls := "TraceProver$Proof", name := "columnLeaf", desc := "(II)I" } : Jvm.MethodName)) ∈ ew_tb := ew_mt (List.mem_append_right _ (List.mem_of_getElem? (i := 372) (by decide +kernel))) rfl
theorem tw_373 : (Jvm.Cond.static ({ cls := "TraceProver$Proof", name := "columnLeaf", desc := "(II)I" } : Jvm.MethodName)) ∈ ew_tb := ew_mt (List.mem_append_right _ (List.mem_of_getElem? (i := 373) (by decide +kernel))) rfl
theorem tw_374 : (Jvm.Cond.code ({ cls := "TraceProver$Proof", name := "columnLeaf", desc := "(II)I" } : Jvm.MethodName) prog_4_method_7_code (2 : Nat) (Option.some Jvm.ClassFile.FieldType.int)) ∈ ew_tb := ew_mt (List.mem_append_right _ (List.mem_of_getElem? (i := 374) (by decide +kernel))) rfl
theorem tw_375 : (Jvm.Cond.methodLinkNest "TraceProver$Proof" (25 : Nat) ({ cls := "TraceProver", name := "mix", desc := "(II)I" } : Jvm.MethodName) "TraceProver") ∈ ew_nt := ew_mn (List.mem_append_right _ (List.mem_of_getElem? (i := 375) (by decide +kernel))) rfl
theorem tw_376 : (Jvm.Cond.static ({ cls := "TraceProver", name := "mix", desc := "(II)I" } : Jvm.MethodName)) ∈ ew_tb := ew_mt (List.mem_append_right _ (List.mem_of_getElem? (i := 376) (by decide +kernel))) rfl
theorem tw_377 : (Jvm.Cond.code ({ cls := "TraceProver", name := "mix", desc := "(II)I" } : Jvm.MethodName) prog_1_method_18_code (2 : Nat) (Option.some Jvm.ClassFile.FieldType.int)) ∈ ew_tb := ew_mt (List.mem_append_right _ (List.mem_of_getElem? (i := 377) (by decide +kernel))) rfl
theorem tw_378 : (Jvm.Cond.constant "TraceProver" (132 : Nat) (40503 : Int32)) ∈ ew_tb := ew_mt (List.mem_append_right _ (List.mem_of_getElem? (i := 378) (by decide +kernel))) rfl
theorem tw_379 : (Jvm.Cond.methodLink "TraceProver" (133 : Nat) ({ cls := "TraceProver", name := "stir", desc := "(II)I" } : Jvm.MethodName)) ∈ ew_tb := ew_mt (List.mem_append_right _ (List.mem_of_getElem? (i := 379) (by decide +kernel))) rfl
theorem tw_380 : (Jvm.Cond.static ({ cls := "TraceProver", name := "stir", desc := "(II)I" } : Jvm.MethodName)) ∈ ew_tb := ew_mt (List.mem_append_right _ (List.mem_of_getElem? (i := 380) (by decide +kernel))) rfl
theorem tw_381 : (Jvm.Cond.code ({ cls := "TraceProver", name := "stir", desc := "(II)I" } : Jvm.MethodName) prog_1_method_19_code (3 : Nat) (Option.some Jvm.ClassFile.FieldType.int)) ∈ ew_tb := ew_mt (List.mem_append_right _ (List.mem_of_getElem? (i := 381) (by decide +kernel))) rfl
theorem tw_382 : (Jvm.Cond.constant "TraceProver" (136 : Nat) (16777619 : Int32)) ∈ ew_tb := ew_mt (List.mem_append_right _ (List.mem_of_getElem? (i := 382) (by decide +kernel))) rfl
theorem tw_383 : (Jvm.Cond.methodLink "TraceProver$Prover" (104 : Nat) ({ cls := "TraceProver$Tree", name := "plant", desc := "(II)V" } : Jvm.MethodName)) ∈ ew_tb := ew_mt (List.mem_append_right _ (List.mem_of_getElem? (i := 383) (by decide +kernel))) rfl
theorem tw_384 : (Jvm.Cond.instanceMethod ({ cls := "TraceProver$Tree", name := "plant", desc := "(II)V" } : Jvm.MethodName)) ∈ ew_tb := ew_mt (List.mem_append_right _ (List.mem_of_getElem? (i := 384) (by decide +kernel))) rfl
theorem tw_385 : (Jvm.Cond.selects "TraceProver$Tree" ({ cls := "TraceProver$Tree", name := "plant", desc := "(II)V" } : Jvm.MethodName) ({ cls := "TraceProver$Tree", name := "plant", desc := "(II)V" } : Jvm.MethodName)) ∈ ew_tb := ew_mt (List.mem_append_right _ (List.mem_of_getElem? (i := 385) (by decide +kernel))) rfl
theorem tw_386 : (Jvm.Cond.code ({ cls := "TraceProver$Tree", name := "plant", desc := "(II)V" } : Jvm.MethodName) prog_9_method_2_code (3 : Nat) (Option.none : Option Jvm.ClassFile.FieldType)) ∈ ew_tb := ew_mt (List.mem_append_right _ (List.mem_of_getElem? (i := 386) (by decide +kernel))) rfl
theorem tw_387 : (Jvm.Cond.methodLink "TraceProver$Prover" (107 : Nat) ({ cls := "TraceProver$Tree", name := "grow", desc := "()I" } : Jvm.MethodName)) ∈ ew_tb := ew_mt (List.mem_append_right _ (List.mem_of_getElem? (i := 387) (by decide +kernel))) rfl
theorem tw_388 : (Jvm.Cond.instanceMethod ({ cls := "TraceProver$Tree", name := "grow", desc := "()I" } : Jvm.MethodName)) ∈ ew_tb := ew_mt (List.mem_append_right _ (List.mem_of_getElem? (i := 388) (by decide +kernel))) rfl
theorem tw_389 : (Jvm.Cond.selects "TraceProver$Tree" ({ cls := "TraceProver$Tree", name := "grow", desc := "()I" } : Jvm.MethodName) ({ cls := "TraceProver$Tree", name := "grow", desc := "()I" } : Jvm.MethodName)) ∈ ew_tb := ew_mt (List.mem_append_right _ (List.mem_of_getElem? (i := 389) (by decide +kernel))) rfl
theorem tw_390 : (Jvm.Cond.code ({ cls := "TraceProver$Tree", name := "grow", desc := "()I" } : Jvm.MethodName) prog_9_method_3_code (2 : Nat) (Option.some Jvm.ClassFile.FieldType.int)) ∈ ew_tb := ew_mt (List.mem_append_right _ (List.mem_of_getElem? (i := 390) (by decide +kernel))) rfl
theorem tw_391 : (Jvm.Cond.methodLinkNest "TraceProver$Tree" (17 : Nat) ({ cls := "TraceProver", name := "mix", desc := "(II)I" } : Jvm.MethodName) "TraceProver") ∈ ew_nt := ew_mn (List.mem_append_right _ (List.mem_of_getElem? (i := 391) (by decide +kernel))) rfl
theorem tw_392 : (Jvm.Cond.methodLink "TraceProver$Prover" (65 : Nat) ({ cls := "TraceProver$Talk", name := "begin", desc := "(LTraceProver$Rules;I)V" } : Jvm.MethodName)) ∈ ew_tb := ew_mt (List.mem_append_right _ (List.mem_of_getElem? (i := 392) (by decide +kernel))) rfl
theorem tw_393 : (Jvm.Cond.instanceMethod ({ cls := "TraceProver$Talk", name := "begin", desc := "(LTraceProver$Rules;I)V" } : Jvm.MethodName)) ∈ ew_tb := ew_mt (List.mem_append_right _ (List.mem_of_getElem? (i := 393) (by decide +kernel))) rfl
theorem tw_394 : (Jvm.Cond.selects "TraceProver$Talk" ({ cls := "TraceProver$Talk", name := "begin", desc := "(LTraceProver$Rules;I)V" } : Jvm.MethodName) ({ cls := "TraceProver$Talk", name := "begin", desc := "(LTraceProver$Rules;I)V" } : Jvm.MethodName)) ∈ ew_tb := ew_mt (List.mem_append_right _ (List.mem_of_getElem? (i := 394) (by decide +kernel))) rfl
theorem tw_395 : (Jvm.Cond.code ({ cls := "TraceProver$Talk", name := "begin", desc := "(LTraceProver$Rules;I)V" } : Jvm.MethodName) prog_8_method_5_code (3 : Nat) (Option.none : Option Jvm.ClassFile.FieldType)) ∈ ew_tb := ew_mt (List.mem_append_right _ (List.mem_of_getElem? (i := 395) (by decide +kernel))) rfl
theorem tw_396 : (Jvm.Cond.methodLink "TraceProver$Talk" (36 : Nat) ({ cls := "TraceProver$Rules", name := "tellTo", desc := "(LTraceProver$Talk;)V" } : Jvm.MethodName)) ∈ ew_tb := ew_mt (List.mem_append_right _ (List.mem_of_getElem? (i := 396) (by decide +kernel))) rfl
theorem tw_397 : (Jvm.Cond.instanceMethod ({ cls := "TraceProver$Rules", name := "tellTo", desc := "(LTraceProver$Talk;)V" } : Jvm.MethodName)) ∈ ew_tb := ew_mt (List.mem_append_right _ (List.mem_of_getElem? (i := 397) (by decide +kernel))) rfl
theorem tw_398 : (Jvm.Cond.selects "TraceProver$Rules" ({ cls := "TraceProver$Rules", name := "tellTo", desc := "(LTraceProver$Talk;)V" } : Jvm.MethodName) ({ cls := "TraceProver$Rules", name := "tellTo", desc := "(LTraceProver$Talk;)V" } : Jvm.MethodName)) ∈ ew_tb := ew_mt (List.mem_append_right _ (List.mem_of_getElem? (i := 398) (by decide +kernel))) rfl
theorem tw_399 : (Jvm.Cond.code ({ cls := "TraceProver$Rules", name := "tellTo", desc := "(LTraceProver$Talk;)V" } : Jvm.MethodName) prog_6_method_8_code (4 : Nat) (Option.none : Option Jvm.ClassFile.FieldType)) ∈ ew_tb := ew_mt (List.mem_append_right _ (List.mem_of_getElem? (i := 399) (by decide +kernel))) rfl
theorem tw_400 : (Jvm.Cond.methodLink "TraceProver$Rules" (42 : Nat) ({ cls := "TraceProver$Talk", name := "tell", desc := "(I)V" } : Jvm.MethodName)) ∈ ew_tb := ew_mt (List.mem_append_right _ (List.mem_of_getElem? (i := 400) (by decide +kernel))) rfl
theorem tw_401 : (Jvm.Cond.instanceMethod ({ cls := "TraceProver$Talk", name := "tell", desc := "(I)V" } : Jvm.MethodName)) ∈ ew_tb := ew_mt (List.mem_append_right _ (List.mem_of_getElem? (i := 401) (by decide +kernel))) rfl
theorem tw_402 : (Jvm.Cond.selects "TraceProver$Talk" ({ cls := "TraceProver$Talk", name := "tell", desc := "(I)V" } : Jvm.MethodName) ({ cls := "TraceProver$Talk", name := "tell", desc := "(I)V" } : Jvm.MethodName)) ∈ ew_tb := ew_mt (List.mem_append_right _ (List.mem_of_getElem? (i := 402) (by decide +kernel))) rfl
theorem tw_403 : (Jvm.Cond.code ({ cls := "TraceProver$Talk", name := "tell", desc := "(I)V" } : Jvm.MethodName) prog_8_method_2_code (2 : Nat) (Option.none : Option Jvm.ClassFile.FieldType)) ∈ ew_tb := ew_mt (List.mem_append_right _ (List.mem_of_getElem? (i := 403) (by decide +kernel))) rfl
theorem tw_404 : (Jvm.Cond.methodLinkNest "TraceProver$Talk" (22 : Nat) ({ cls := "TraceProver", name := "mix", desc := "(II)I" } : Jvm.MethodName) "TraceProver") ∈ ew_nt := ew_mn (List.mem_append_right _ (List.mem_of_getElem? (i := 404) (by decide +kernel))) rfl
theorem tw_405 : (Jvm.Cond.methodLink "TraceProver$Rules" (48 : Nat) ({ cls := "TraceProver$Rules", name := "tellParts", desc := "(LTraceProver$Talk;[II)V" } : Jvm.MethodName)) ∈ ew_tb := ew_mt (List.mem_append_right _ (List.mem_of_getElem? (i := 405) (by decide +kernel))) rfl
theorem tw_406 : (Jvm.Cond.static ({ cls := "TraceProver$Rules", name := "tellParts", desc := "(LTraceProver$Talk;[II)V" } : Jvm.MethodName)) ∈ ew_tb := ew_mt (List.mem_append_right _ (List.mem_of_getElem? (i := 406) (by decide +kernel))) rfl
theorem tw_407 : (Jvm.Cond.code ({ cls := "TraceProver$Rules", name := "tellParts", desc := "(LTraceProver$Talk;[II)V" } : Jvm.MethodName) prog_6_method_9_code (4 : Nat) (Option.none : Option Jvm.ClassFile.FieldType)) ∈ ew_tb := ew_mt (List.mem_append_right _ (List.mem_of_getElem? (i := 407) (by decide +kernel))) rfl
theorem tw_408 : (Jvm.Cond.methodLink "TraceProver$Talk" (26 : Nat) ({ cls := "TraceProver$Talk", name := "tell", desc := "(I)V" } : Jvm.MethodName)) ∈ ew_tb := ew_mt (List.mem_append_right _ (List.mem_of_getElem? (i := 408) (by decide +kernel))) rfl
theorem tw_409 : (Jvm.Cond.methodLink "TraceProver$Talk" (42 : Nat) ({ cls := "TraceProver$Talk", name := "challenge", desc := "()I" } : Jvm.MethodName)) ∈ ew_tb := ew_mt (List.mem_append_right _ (List.mem_of_getElem? (i := 409) (by decide +kernel))) rfl
theorem tw_411 : (Jvm.Cond.instanceMethod ({ cls := "TraceProver$Talk", name := "challenge", desc := "()I" } : Jvm.MethodName)) ∈ ew_tb := ew_mt (List.mem_append_right _ (List.mem_of_getElem? (i := 411) (by decide +kernel))) rfl
theorem tw_412 : (Jvm.Cond.code ({ cls := "TraceProver$Talk", name := "challenge", desc := "()I" } : Jvm.MethodName) prog_8_method_4_code (1 : Nat) (Option.some Jvm.ClassFile.FieldType.int)) ∈ ew_tb := ew_mt (List.mem_append_right _ (List.mem_of_getElem? (i := 412) (by decide +kernel))) rfl
theorem tw_413 : (Jvm.Cond.methodLink "TraceProver$Talk" (33 : Nat) ({ cls := "TraceProver$Talk", name := "draw", desc := "(II)I" } : Jvm.MethodName)) ∈ ew_tb := ew_mt (List.mem_append_right _ (List.mem_of_getElem? (i := 413) (by decide +kernel))) rfl
theorem tw_415 : (Jvm.Cond.instanceMethod ({ cls := "TraceProver$Talk", name := "draw", desc := "(II)I" } : Jvm.MethodName)) ∈ ew_tb := ew_mt (List.mem_append_right _ (List.mem_of_getElem? (i := 415) (by decide +kernel))) rfl
theorem tw_416 : (Jvm.Cond.code ({ cls := "TraceProver$Talk", name := "draw", desc := "(II)I" } : Jvm.MethodName) prog_8_method_3_code (3 : Nat) (Option.some Jvm.ClassFile.FieldType.int)) ∈ ew_tb := ew_mt (List.mem_append_right _ (List.mem_of_getElem? (i := 416) (by decide +kernel))) rfl
theorem tw_417 : (Jvm.Cond.constant "TraceProver$Talk" (30 : Nat) (2147483647 : Int32)) ∈ ew_tb := ew_mt (List.mem_append_right _ (List.mem_of_getElem? (i := 417) (by decide +kernel))) rfl
theorem tw_418 : (Jvm.Cond.methodLink "TraceProver$Prover" (69 : Nat) ({ cls := "TraceProver$Prover", name := "compose", desc := "()V" } : Jvm.MethodName)) ∈ ew_tb := ew_mt (List.mem_append_right _ (List.mem_of_getElem? (i := 418) (by decide +kernel))) rfl
theorem tw_420 : (Jvm.Cond.instanceMethod ({ cls := "TraceProver$Prover", name := "compose", desc := "()V" } : Jvm.MethodName)) ∈ ew_tb := ew_mt (List.mem_append_right _ (List.mem_of_getElem? (i := 420) (by decide +kernel))) rfl
theorem tw_421 : (Jvm.Cond.code ({ cls := "TraceProver$Prover", name := "compose", desc := "()V" } : Jvm.MethodName) prog_5_method_4_code (3 : Nat) (Option.none : Option Jvm.ClassFile.FieldType)) ∈ ew_tb := ew_mt (List.mem_append_right _ (List.mem_of_getElem? (i := 421) (by decide +kernel))) rfl
theorem tw_422 : (Jvm.Cond.methodLink "TraceProver$Prover" (110 : Nat) ({ cls := "TraceProver$Points", name := "rowBehind", desc := "(I)I" } : Jvm.MethodName)) ∈ ew_tb := ew_mt (List.mem_append_right _ (List.mem_of_getElem? (i := 422) (by decide +kernel))) rfl
theorem tw_423 : (Jvm.Cond.static ({ cls := "TraceProver$Points", name := "rowBehind", desc := "(I)I" } : Jvm.MethodName)) ∈ ew_tb := ew_mt (List.mem_append_right _ (List.mem_of_getElem? (i := 423) (by decide +kernel))) rfl
theorem tw_424 : (Jvm.Cond.code ({ cls := "TraceProver$Points", name := "rowBehind", desc := "(I)I" } : Jvm.MethodName) prog_3_method_7_code (1 : Nat) (Option.some Jvm.ClassFile.FieldType.int)) ∈ ew_tb := ew_mt (List.mem_append_right _ (List.mem_of_getElem? (i := 424) (by decide +kernel))) rfl
theorem tw_425 : (Jvm.Cond.methodLink "TraceProver$Prover" (115 : Nat) ({ cls := "TraceProver$Rules", name := "read", desc := "(IIII)V" } : Jvm.MethodName)) ∈ ew_tb := ew_mt (List.mem_append_right _ (List.mem_of_getElem? (i := 425) (by decide +kernel))) rfl
theorem tw_426 : (Jvm.Cond.methodLink "TraceProver$Prover" (125 : Nat) ({ cls := "TraceProver$Rules", name := "composition", desc := "(II)I" } : Jvm.MethodName)) ∈ ew_tb := ew_mt (List.mem_append_right _ (List.mem_of_getElem? (i := 426) (by decide +kernel))) rfl
theorem tw_427 : (Jvm.Cond.instanceMethod ({ cls := "TraceProver$Rules", name := "composition", desc := "(II)I" } : Jvm.MethodName)) ∈ ew_tb := ew_mt (List.mem_append_right _ (List.mem_of_getElem? (i := 427) (by decide +kernel))) rfl
theorem tw_428 : (Jvm.Cond.selects "TraceProver$Rules" ({ cls := "TraceProver$Rules", name := "composition", desc := "(II)I" } : Jvm.MethodName) ({ cls := "TraceProver$Rules", name := "composition", desc := "(II)I" } : Jvm.MethodName)) ∈ ew_tb := ew_mt (List.mem_append_right _ (List.mem_of_getElem? (i := 428) (by decide +kernel))) rfl
theorem tw_429 : (Jvm.Cond.code ({ cls := "TraceProver$Rules", name := "composition", desc := "(II)I" } : Jvm.MethodName) prog_6_method_15_code (9 : Nat) (Option.some Jvm.ClassFile.FieldType.int)) ∈ ew_tb := ew_mt (List.mem_append_right _ (List.mem_of_getElem? (i := 429) (by decide +kernel))) rfl
theorem tw_430 : (Jvm.Cond.methodLink "TraceProver$Rules" (90 : Nat) ({ cls := "TraceProver$Points", name := "constraintFactor", desc := "(I)I" } : Jvm.MethodName)) ∈ ew_tb := ew_mt (List.mem_append_right _ (List.mem_of_getElem? (i := 430) (by decide +kernel))) rfl
theorem tw_431 : (Jvm.Cond.instanceMethod ({ cls := "TraceProver$Points", name := "constraintFactor", desc := "(I)I" } : Jvm.MethodName)) ∈ ew_tb := ew_mt (List.mem_append_right _ (List.mem_of_getElem? (i := 431) (by decide +kernel))) rfl
theorem tw_432 : (Jvm.Cond.selects "TraceProver$Points" ({ cls := "TraceProver$Points", name := "constraintFactor", desc := "(I)I" } : Jvm.MethodName) ({ cls := "TraceProver$Points", name := "constraintFactor", desc := "(I)I" } : Jvm.MethodName)) ∈ ew_tb := ew_mt (List.mem_append_right _ (List.mem_of_getElem? (i := 432) (by decide +kernel))) rfl
theorem tw_433 : (Jvm.Cond.code ({ cls := "TraceProver$Points", name := "constraintFactor", desc := "(I)I" } : Jvm.MethodName) prog_3_method_3_code (2 : Nat) (Option.some Jvm.ClassFile.FieldType.int)) ∈ ew_tb := ew_mt (List.mem_append_right _ (List.mem_of_getElem? (i := 433) (by decide +kernel))) rfl
theorem tw_434 : (Jvm.Cond.methodLink "TraceProver$Rules" (95 : Nat) ({ cls := "TraceProver$Field", name := "minus", desc := "(II)I" } : Jvm.MethodName)) ∈ ew_tb := ew_mt (List.mem_append_right _ (List.mem_of_getElem? (i := 434) (by decide +kernel))) rfl
theorem tw_435 : (Jvm.Cond.methodLink "TraceProver$Rules" (98 : Nat) ({ cls := "TraceProver$Points", name := "boundFactor", desc := "(II)I" } : Jvm.MethodName)) ∈ ew_tb := ew_mt (List.mem_append_right _ (List.mem_of_getElem? (i := 435) (by decide +kernel))) rfl
theorem tw_436 : (Jvm.Cond.instanceMethod ({ cls := "TraceProver$Points", name := "boundFactor", desc := "(II)I" } : Jvm.MethodName)) ∈ ew_tb := ew_mt (List.mem_append_right _ (List.mem_of_getElem? (i := 436) (by decide +kernel))) rfl
theorem tw_437 : (Jvm.Cond.selects "TraceProver$Points" ({ cls := "TraceProver$Points", name := "boundFactor", desc := "(II)I" } : Jvm.MethodName) ({ cls := "TraceProver$Points", name := "boundFactor", desc := "(II)I" } : Jvm.MethodName)) ∈ ew_tb := ew_mt (List.mem_append_right _ (List.mem_of_getElem? (i := 437) (by decide +kernel))) rfl
theorem tw_438 : (Jvm.Cond.code ({ cls := "TraceProver$Points", name := "boundFactor", desc := "(II)I" } : Jvm.MethodName) prog_3_method_4_code (4 : Nat) (Option.some Jvm.ClassFile.FieldType.int)) ∈ ew_tb := ew_mt (List.mem_append_right _ (List.mem_of_getElem? (i := 438) (by decide +kernel))) rfl
theorem tw_439 : (Jvm.Cond.methodLink "TraceProver$Prover" (72 : Nat) ({ cls := "TraceProver$Prover", name := "foldInto", desc := "(I)V" } : Jvm.MethodName)) ∈ ew_tb := ew_mt (List.mem_append_right _ (List.mem_of_getElem? (i := 439) (by decide +kernel))) rfl
theorem tw_441 : (Jvm.Cond.instanceMethod ({ cls := "TraceProver$Prover", name := "foldInto", desc := "(I)V" } : Jvm.MethodName)) ∈ ew_tb := ew_mt (List.mem_append_right _ (List.mem_of_getElem? (i := 441) (by decide +kernel))) rfl
theorem tw_442 : (Jvm.Cond.code ({ cls := "TraceProver$Prover", name := "foldInto", desc := "(I)V" } : Jvm.MethodName) prog_5_method_5_code (3 : Nat) (Option.none : Option Jvm.ClassFile.FieldType)) ∈ ew_tb := ew_mt (List.mem_append_right _ (List.mem_of_getElem? (i := 442) (by decide +kernel))) rfl
theorem tw_443 : (Jvm.Cond.methodLink "TraceProver$Prover" (82 : Nat) ({ cls := "TraceProver$Prover", name := "folded", desc := "(II)I" } : Jvm.MethodName)) ∈ ew_tb := ew_mt (List.mem_append_right _ (List.mem_of_getElem? (i := 443) (by decide +kernel))) rfl
theorem tw_445 : (Jvm.Cond.instanceMethod ({ cls := "TraceProver$Prover", name := "folded", desc := "(II)I" } : Jvm.MethodName)) ∈ ew_tb := ew_mt (List.mem_append_right _ (List.mem_of_getElem? (i := 445) (by decide +kernel))) rfl
theorem tw_446 : (Jvm.Cond.code ({ cls := "TraceProver$Prover", name := "folded", desc := "(II)I" } : Jvm.MethodName) prog_5_method_6_code (4 : Nat) (Option.some Jvm.ClassFile.FieldType.int)) ∈ ew_tb := ew_mt (List.mem_append_right _ (List.mem_of_getElem? (i := 446) (by decide +kernel))) rfl
theorem tw_447 : (Jvm.Cond.methodLink "TraceProver$Prover" (131 : Nat) ({ cls := "TraceProver$Points", name := "fold", desc := "(IIIII)I" } : Jvm.MethodName)) ∈ ew_tb := ew_mt (List.mem_append_right _ (List.mem_of_getElem? (i := 447) (by decide +kernel))) rfl
theorem tw_448 : (Jvm.Cond.instanceMethod ({ cls := "TraceProver$Points", name := "fold", desc := "(IIIII)I" } : Jvm.MethodName)) ∈ ew_tb := ew_mt (List.mem_append_right _ (List.mem_of_getElem? (i := 448) (by decide +kernel))) rfl
theorem tw_449 : (Jvm.Cond.selects "TraceProver$Points" ({ cls := "TraceProver$Points", name := "fold", desc := "(IIIII)I" } : Jvm.MethodName) ({ cls := "TraceProver$Points", name := "fold", desc := "(IIIII)I" } : Jvm.MethodName)) ∈ ew_tb := ew_mt (List.mem_append_right _ (List.mem_of_getElem? (i := 449) (by decide +kernel))) rfl
theorem tw_450 : (Jvm.Cond.code ({ cls := "TraceProver$Points", name := "fold", desc := "(IIIII)I" } : Jvm.MethodName) prog_3_method_8_code (9 : Nat) (Option.some Jvm.ClassFile.FieldType.int)) ∈ ew_tb := ew_mt (List.mem_append_right _ (List.mem_of_getElem? (i := 450) (by decide +kernel))) rfl
theorem tw_451 : (Jvm.Cond.methodLink "TraceProver$Prover" (75 : Nat) ({ cls := "TraceProver$Prover", name := "commitLayer", desc := "(I)I" } : Jvm.MethodName)) ∈ ew_tb := ew_mt (List.mem_append_right _ (List.mem_of_getElem? (i := 451) (by decide +kernel))) rfl
theorem tw_453 : (Jvm.Cond.instanceMethod ({ cls := "TraceProver$Prover", name := "commitLayer", desc := "(I)I" } : Jvm.MethodName)) ∈ ew_tb := ew_mt (List.mem_append_right _ (List.mem_of_getElem? (i := 453) (by decide +kernel))) rfl
theorem tw_454 : (Jvm.Cond.code ({ cls := "TraceProver$Prover", name := "commitLayer", desc := "(I)I" } : Jvm.MethodName) prog_5_method_7_code (4 : Nat) (Option.some Jvm.ClassFile.FieldType.int)) ∈ ew_tb := ew_mt (List.mem_append_right _ (List.mem_of_getElem? (i := 454) (by decide +kernel))) rfl
theorem tw_455 : (Jvm.Cond.methodLink "TraceProver$Prover" (135 : Nat) ({ cls := "TraceProver$Proof", name := "layerLeaf", desc := "(I)I" } : Jvm.MethodName)) ∈ ew_tb := ew_mt (List.mem_append_right _ (List.mem_of_getElem? (i := 455) (by decide +kernel))) rfl
theorem tw_456 : (Jvm.Cond.static ({ cls := "TraceProver$Proof", name := "layerLeaf", desc := "(I)I" } : Jvm.MethodName)) ∈ ew_tb := ew_mt (List.mem_append_right _ (List.mem_of_getElem? (i := 456) (by decide +kernel))) rfl
theorem tw_457 : (Jvm.Cond.code ({ cls := "TraceProver$Proof", name := "layerLeaf", desc := "(I)I" } : Jvm.MethodName) prog_4_method_8_code (1 : Nat) (Option.some Jvm.ClassFile.FieldType.int)) ∈ ew_tb := ew_mt (List.mem_append_right _ (List.mem_of_getElem? (i := 457) (by decide +kernel))) rfl
theorem tw_458 : (Jvm.Cond.methodLink "TraceProver$Prover" (78 : Nat) ({ cls := "TraceProver$Talk", name := "hearLayer", desc := "(II)V" } : Jvm.MethodName)) ∈ ew_tb := ew_mt (List.mem_append_right _ (List.mem_of_getElem? (i := 458) (by decide +kernel))) rfl
theorem tw_459 : (Jvm.Cond.instanceMethod ({ cls := "TraceProver$Talk", name := "hearLayer", desc := "(II)V" } : Jvm.MethodName)) ∈ ew_tb := ew_mt (List.mem_append_right _ (List.mem_of_getElem? (i := 459) (by decide +kernel))) rfl
theorem tw_460 : (Jvm.Cond.selects "TraceProver$Talk" ({ cls := "TraceProver$Talk", name := "hearLayer", desc := "(II)V" } : Jvm.MethodName) ({ cls := "TraceProver$Talk", name := "hearLayer", desc := "(II)V" } : Jvm.MethodName)) ∈ ew_tb := ew_mt (List.mem_append_right _ (List.mem_of_getElem? (i := 460) (by decide +kernel))) rfl
theorem tw_461 : (Jvm.Cond.code ({ cls := "TraceProver$Talk", name := "hearLayer", desc := "(II)V" } : Jvm.MethodName) prog_8_method_6_code (3 : Nat) (Option.none : Option Jvm.ClassFile.FieldType)) ∈ ew_tb := ew_mt (List.mem_append_right _ (List.mem_of_getElem? (i := 461) (by decide +kernel))) rfl
theorem tw_462 : (Jvm.Cond.methodLink "TraceProver$Prover" (86 : Nat) ({ cls := "TraceProver$Talk", name := "end", desc := "(I)V" } : Jvm.MethodName)) ∈ ew_tb := ew_mt (List.mem_append_right _ (List.mem_of_getElem? (i := 462) (by decide +kernel))) rfl
theorem tw_463 : (Jvm.Cond.instanceMethod ({ cls := "TraceProver$Talk", name := "end", desc := "(I)V" } : Jvm.MethodName)) ∈ ew_tb := ew_mt (List.mem_append_right _ (List.mem_of_getElem? (i := 463) (by decide +kernel))) rfl
theorem tw_464 : (Jvm.Cond.selects "TraceProver$Talk" ({ cls := "TraceProver$Talk", name := "end", desc := "(I)V" } : Jvm.MethodName) ({ cls := "TraceProver$Talk", name := "end", desc := "(I)V" } : Jvm.MethodName)) ∈ ew_tb := ew_mt (List.mem_append_right _ (List.mem_of_getElem? (i := 464) (by decide +kernel))) rfl
theorem tw_465 : (Jvm.Cond.code ({ cls := "TraceProver$Talk", name := "end", desc := "(I)V" } : Jvm.MethodName) prog_8_method_7_code (3 : Nat) (Option.none : Option Jvm.ClassFile.FieldType)) ∈ ew_tb := ew_mt (List.mem_append_right _ (List.mem_of_getElem? (i := 465) (by decide +kernel))) rfl
theorem tw_466 : (Jvm.Cond.methodLink "TraceProver$Prover" (89 : Nat) ({ cls := "TraceProver$Prover", name := "openColumns", desc := "([II)V" } : Jvm.MethodName)) ∈ ew_tb := ew_mt (List.mem_append_right _ (List.mem_of_getElem? (i := 466) (by decide +kernel))) rfl
theorem tw_468 : (Jvm.Cond.instanceMethod ({ cls := "TraceProver$Prover", name := "openColumns", desc := "([II)V" } : Jvm.MethodName)) ∈ ew_tb := ew_mt (List.mem_append_right _ (List.mem_of_getElem? (i := 468) (by decide +kernel))) rfl
theorem tw_469 : (Jvm.Cond.code ({ cls := "TraceProver$Prover", name := "openColumns", desc := "([II)V" } : Jvm.MethodName) prog_5_method_8_code (6 : Nat) (Option.none : Option Jvm.ClassFile.FieldType)) ∈ ew_tb := ew_mt (List.mem_append_right _ (List.mem_of_getElem? (i := 469) (by decide +kernel))) rfl
theorem tw_470 : (Jvm.Cond.methodLink "TraceProver$Prover" (141 : Nat) ({ cls := "TraceProver$Proof", name := "columnIndex", desc := "(II)I" } : Jvm.MethodName)) ∈ ew_tb := ew_mt (List.mem_append_right _ (List.mem_of_getElem? (i := 470) (by decide +kernel))) rfl
theorem tw_471 : (Jvm.Cond.static ({ cls := "TraceProver$Proof", name := "columnIndex", desc := "(II)I" } : Jvm.MethodName)) ∈ ew_tb := ew_mt (List.mem_append_right _ (List.mem_of_getElem? (i := 471) (by decide +kernel))) rfl
theorem tw_472 : (Jvm.Cond.code ({ cls := "TraceProver$Proof", name := "columnIndex", desc := "(II)I" } : Jvm.MethodName) prog_4_method_3_code (2 : Nat) (Option.some Jvm.ClassFile.FieldType.int)) ∈ ew_tb := ew_mt (List.mem_append_right _ (List.mem_of_getElem? (i := 472) (by decide +kernel))) rfl
theorem tw_473 : (Jvm.Cond.fieldLink "TraceProver$Proof" (15 : Nat) "TraceProver$Proof" "COLUMN_STEPS" "[I") ∈ ew_tb := ew_mt (List.mem_append_right _ (List.mem_of_getElem? (i := 473) (by decide +kernel))) rfl
theorem tw_475 : (Jvm.Cond.methodLink "TraceProver$Prover" (144 : Nat) ({ cls := "TraceProver$Proof", name := "columnStart", desc := "(II)I" } : Jvm.MethodName)) ∈ ew_tb := ew_mt (List.mem_append_right _ (List.mem_of_getElem? (i := 475) (by decide +kernel))) rfl
theorem tw_476 : (Jvm.Cond.static ({ cls := "TraceProver$Proof", name := "columnStart", desc := "(II)I" } : Jvm.MethodName)) ∈ ew_tb := ew_mt (List.mem_append_right _ (List.mem_of_getElem? (i := 476) (by decide +kernel))) rfl
theorem tw_477 : (Jvm.Cond.code ({ cls := "TraceProver$Proof", name := "columnStart", desc := "(II)I" } : Jvm.MethodName) prog_4_method_2_code (2 : Nat) (Option.some Jvm.ClassFile.FieldType.int)) ∈ ew_tb := ew_mt (List.mem_append_right _ (List.mem_of_getElem? (i := 477) (by decide +kernel))) rfl
theorem tw_478 : (Jvm.Cond.methodLink "TraceProver$Prover" (147 : Nat) ({ cls := "TraceProver$Tree", name := "copyPath", desc := "(I[II)V" } : Jvm.MethodName)) ∈ ew_tb := ew_mt (List.mem_append_right _ (List.mem_of_getElem? (i := 478) (by decide +kernel))) rfl
theorem tw_479 : (Jvm.Cond.instanceMethod ({ cls := "TraceProver$Tree", name := "copyPath", desc := "(I[II)V" } : Jvm.MethodName)) ∈ ew_tb := ew_mt (List.mem_append_right _ (List.mem_of_getElem? (i := 479) (by decide +kernel))) rfl
theorem tw_480 : (Jvm.Cond.selects "TraceProver$Tree" ({ cls := "TraceProver$Tree", name := "copyPath", desc := "(I[II)V" } : Jvm.MethodName) ({ cls := "TraceProver$Tree", name := "copyPath", desc := "(I[II)V" } : Jvm.MethodName)) ∈ ew_tb := ew_mt (List.mem_append_right _ (List.mem_of_getElem? (i := 480) (by decide +kernel))) rfl
theorem tw_481 : (Jvm.Cond.code ({ cls := "TraceProver$Tree", name := "copyPath", desc := "(I[II)V" } : Jvm.MethodName) prog_9_method_4_code (6 : Nat) (Option.none : Option Jvm.ClassFile.FieldType)) ∈ ew_tb := ew_mt (List.mem_append_right _ (List.mem_of_getElem? (i := 481) (by decide +kernel))) rfl
theorem tw_482 : (Jvm.Cond.methodLink "TraceProver$Prover" (93 : Nat) ({ cls := "TraceProver$Prover", name := "openLayers", desc := "([II)V" } : Jvm.MethodName)) ∈ ew_tb := ew_mt (List.mem_append_right _ (List.mem_of_getElem? (i := 482) (by decide +kernel))) rfl
theorem tw_484 : (Jvm.Cond.instanceMethod ({ cls := "TraceProver$Prover", name := "openLayers", desc := "([II)V" } : Jvm.MethodName)) ∈ ew_tb := ew_mt (List.mem_append_right _ (List.mem_of_getElem? (i := 484) (by decide +kernel))) rfl
theorem tw_485 : (Jvm.Cond.code ({ cls := "TraceProver$Prover", name := "openLayers", desc := "([II)V" } : Jvm.MethodName) prog_5_method_9_code (7 : Nat) (Option.none : Option Jvm.ClassFile.FieldType)) ∈ ew_tb := ew_mt (List.mem_append_right _ (List.mem_of_getElem? (i := 485) (by decide +kernel))) rfl
theorem tw_486 : (Jvm.Cond.methodLink "TraceProver$Prover" (151 : Nat) ({ cls := "TraceProver$Proof", name := "layerIndex", desc := "(III)I" } : Jvm.MethodName)) ∈ ew_tb := ew_mt (List.mem_append_right _ (List.mem_of_getElem? (i := 486) (by decide +kernel))) rfl
theorem tw_487 : (Jvm.Cond.static ({ cls := "TraceProver$Proof", name := "layerIndex", desc := "(III)I" } : Jvm.MethodName)) ∈ ew_tb := ew_mt (List.mem_append_right _ (List.mem_of_getElem? (i := 487) (by decide +kernel))) rfl
theorem tw_488 : (Jvm.Cond.code ({ cls := "TraceProver$Proof", name := "layerIndex", desc := "(III)I" } : Jvm.MethodName) prog_4_method_5_code (4 : Nat) (Option.some Jvm.ClassFile.FieldType.int)) ∈ ew_tb := ew_mt (List.mem_append_right _ (List.mem_of_getElem? (i := 488) (by decide +kernel))) rfl
theorem tw_489 : (Jvm.Cond.methodLink "TraceProver$Proof" (21 : Nat) ({ cls := "TraceProver$Proof", name := "layerSize", desc := "(I)I" } : Jvm.MethodName)) ∈ ew_tb := ew_mt (List.mem_append_right _ (List.mem_of_getElem? (i := 489) (by decide +kernel))) rfl
theorem tw_490 : (Jvm.Cond.methodLink "TraceProver$Prover" (155 : Nat) ({ cls := "TraceProver$Proof", name := "layerStart", desc := "(III)I" } : Jvm.MethodName)) ∈ ew_tb := ew_mt (List.mem_append_right _ (List.mem_of_getElem? (i := 490) (by decide +kernel))) rfl
theorem tw_491 : (Jvm.Cond.static ({ cls := "TraceProver$Proof", name := "layerStart", desc := "(III)I" } : Jvm.MethodName)) ∈ ew_tb := ew_mt (List.mem_append_right _ (List.mem_of_getElem? (i := 491) (by decide +kernel))) rfl
theorem tw_492 : (Jvm.Cond.code ({ cls := "TraceProver$Proof", name := "layerStart", desc := "(III)I" } : Jvm.MethodName) prog_4_method_4_code (3 : Nat) (Option.some Jvm.ClassFile.FieldType.int)) ∈ ew_tb := ew_mt (List.mem_append_right _ (List.mem_of_getElem? (i := 492) (by decide +kernel))) rfl
theorem tw_493 : (Jvm.Cond.fieldLink "TraceProver$Proof" (18 : Nat) "TraceProver$Proof" "LAYER_STARTS" "[I") ∈ ew_tb := ew_mt (List.mem_append_right _ (List.mem_of_getElem? (i := 493) (by decide +kernel))) rfl
theorem tw_495 : (Jvm.Cond.methodLink "TraceProverLaw" (50 : Nat) ({ cls := "TraceProver", name := "proof", desc := "(I)I" } : Jvm.MethodName)) ∈ ew_tb := ew_mt (List.mem_append_right _ (List.mem_of_getElem? (i := 495) (by decide +kernel))) rfl
theorem tw_496 : (Jvm.Cond.instanceMethod ({ cls := "TraceProver", name := "proof", desc := "(I)I" } : Jvm.MethodName)) ∈ ew_tb := ew_mt (List.mem_append_right _ (List.mem_of_getElem? (i := 496) (by decide +kernel))) rfl
theorem tw_497 : (Jvm.Cond.selects "TraceProver" ({ cls := "TraceProver", name := "proof", desc := "(I)I" } : Jvm.MethodName) ({ cls := "TraceProver", name := "proof", desc := "(I)I" } : Jvm.MethodName)) ∈ ew_tb := ew_mt (List.mem_append_right _ (List.mem_of_getElem? (i := 497) (by decide +kernel))) rfl
theorem tw_498 : (Jvm.Cond.code ({ cls := "TraceProver", name := "proof", desc := "(I)I" } : Jvm.MethodName) prog_1_method_10_code (2 : Nat) (Option.some Jvm.ClassFile.FieldType.int)) ∈ ew_tb := ew_mt (List.mem_append_right _ (List.mem_of_getElem? (i := 498) (by decide +kernel))) rfl
theorem tw_499 : (Jvm.Cond.methodLink "TraceProver" (118 : Nat) ({ cls := "TraceProver", name := "isInProof", desc := "(I)Z" } : Jvm.MethodName)) ∈ ew_tb := ew_mt (List.mem_append_right _ (List.mem_of_getElem? (i := 499) (by decide +kernel))) rfl
theorem tw_501 : (Jvm.Cond.instanceMethod ({ cls := "TraceProver", name := "isInProof", desc := "(I)Z" } : Jvm.MethodName)) ∈ ew_tb := ew_mt (List.mem_append_right _ (List.mem_of_getElem? (i := 501) (by decide +kernel))) rfl
theorem tw_502 : (Jvm.Cond.code ({ cls := "TraceProver", name := "isInProof", desc := "(I)Z" } : Jvm.MethodName) prog_1_method_14_code (2 : Nat) (Option.some Jvm.ClassFile.FieldType.boolean)) ∈ ew_tb := ew_mt (List.mem_append_right _ (List.mem_of_getElem? (i := 502) (by decide +kernel))) rfl
theorem tw_503 : (Jvm.Cond.methodLink "TraceProverLaw" (55 : Nat) ({ cls := "TraceProver", name := "alter", desc := "(II)Z" } : Jvm.MethodName)) ∈ ew_tb := ew_mt (List.mem_append_right _ (List.mem_of_getElem? (i := 503) (by decide +kernel))) rfl
theorem tw_504 : (Jvm.Cond.instanceMethod ({ cls := "TraceProver", name := "alter", desc := "(II)Z" } : Jvm.MethodName)) ∈ ew_tb := ew_mt (List.mem_append_right _ (List.mem_of_getElem? (i := 504) (by decide +kernel))) rfl
theorem tw_505 : (Jvm.Cond.selects "TraceProver" ({ cls := "TraceProver", name := "alter", desc := "(II)Z" } : Jvm.MethodName) ({ cls := "TraceProver", name := "alter", desc := "(II)Z" } : Jvm.MethodName)) ∈ ew_tb := ew_mt (List.mem_append_right _ (List.mem_of_getElem? (i := 505) (by decide +kernel))) rfl
theorem tw_506 : (Jvm.Cond.code ({ cls := "TraceProver", name := "alter", desc := "(II)Z" } : Jvm.MethodName) prog_1_method_11_code (3 : Nat) (Option.some Jvm.ClassFile.FieldType.boolean)) ∈ ew_tb := ew_mt (List.mem_append_right _ (List.mem_of_getElem? (i := 506) (by decide +kernel))) rfl
theorem tw_507 : (Jvm.Cond.methodLink "TraceProverLaw" (60 : Nat) ({ cls := "TraceProver", name := "verify", desc := "()I" } : Jvm.MethodName)) ∈ ew_tb := ew_mt (List.mem_append_right _ (List.mem_of_getElem? (i := 507) (by decide +kernel))) rfl
theorem tw_508 : (Jvm.Cond.instanceMethod ({ cls := "TraceProver", name := "verify", desc := "()I" } : Jvm.MethodName)) ∈ ew_tb := ew_mt (List.mem_append_right _ (List.mem_of_getElem? (i := 508) (by decide +kernel))) rfl
theorem tw_509 : (Jvm.Cond.selects "TraceProver" ({ cls := "TraceProver", name := "verify", desc := "()I" } : Jvm.MethodName) ({ cls := "TraceProver", name := "verify", desc := "()I" } : Jvm.MethodName)) ∈ ew_tb := ew_mt (List.mem_append_right _ (List.mem_of_getElem? (i := 509) (by decide +kernel))) rfl
theorem tw_510 : (Jvm.Cond.code ({ cls := "TraceProver", name := "verify", desc := "()I" } : Jvm.MethodName) prog_1_method_12_code (2 : Nat) (Option.some Jvm.ClassFile.FieldType.int)) ∈ ew_tb := ew_mt (List.mem_append_right _ (List.mem_of_getElem? (i := 510) (by decide +kernel))) rfl
theorem tw_511 : (Jvm.Cond.methodLink "TraceProver" (125 : Nat) ({ cls := "TraceProver$Verifier", name := "code", desc := "()I" } : Jvm.MethodName)) ∈ ew_tb := ew_mt (List.mem_append_right _ (List.mem_of_getElem? (i := 511) (by decide +kernel))) rfl
theorem tw_512 : (Jvm.Cond.instanceMethod ({ cls := "TraceProver$Verifier", name := "code", desc := "()I" } : Jvm.MethodName)) ∈ ew_tb := ew_mt (List.mem_append_right _ (List.mem_of_getElem? (i := 512) (by decide +kernel))) rfl
theorem tw_513 : (Jvm.Cond.selects "TraceProver$Verifier" ({ cls := "TraceProver$Verifier", name := "code", desc := "()I" } : Jvm.MethodName) ({ cls := "TraceProver$Verifier", name := "code", desc := "()I" } : Jvm.MethodName)) ∈ ew_tb := ew_mt (List.mem_append_right _ (List.mem_of_getElem? (i := 513) (by decide +kernel))) rfl
theorem tw_514 : (Jvm.Cond.code ({ cls := "TraceProver$Verifier", name := "code", desc := "()I" } : Jvm.MethodName) prog_10_method_3_code (3 : Nat) (Option.some Jvm.ClassFile.FieldType.int)) ∈ ew_tb := ew_mt (List.mem_append_right _ (List.mem_of_getElem? (i := 514) (by decide +kernel))) rfl
theorem tw_515 : (Jvm.Cond.methodLink "TraceProver$Verifier" (40 : Nat) ({ cls := "TraceProver$Proof", name := "isInField", desc := "()Z" } : Jvm.MethodName)) ∈ ew_tb := ew_mt (List.mem_append_right _ (List.mem_of_getElem? (i := 515) (by decide +kernel))) rfl
theorem tw_516 : (Jvm.Cond.instanceMethod ({ cls := "TraceProver$Proof", name := "isInField", desc := "()Z" } : Jvm.MethodName)) ∈ ew_tb := ew_mt (List.mem_append_right _ (List.mem_of_getElem? (i := 516) (by decide +kernel))) rfl
theorem tw_517 : (Jvm.Cond.selects "TraceProver$Proof" ({ cls := "TraceProver$Proof", name := "isInField", desc := "()Z" } : Jvm.MethodName) ({ cls := "TraceProver$Proof", name := "isInField", desc := "()Z" } : Jvm.MethodName)) ∈ ew_tb := ew_mt (List.mem_append_right _ (List.mem_of_getElem? (i := 517) (by decide +kernel))) rfl
theorem tw_518 : (Jvm.Cond.code ({ cls := "TraceProver$Proof", name := "isInField", desc := "()Z" } : Jvm.MethodName) prog_4_method_9_code (2 : Nat) (Option.some Jvm.ClassFile.FieldType.boolean)) ∈ ew_tb := ew_mt (List.mem_append_right _ (List.mem_of_getElem? (i := 518) (by decide +kernel))) rfl
theorem tw_519 : (Jvm.Cond.methodLink "TraceProver$Proof" (31 : Nat) ({ cls := "TraceProver$Field", name := "holds", desc := "(I)Z" } : Jvm.MethodName)) ∈ ew_tb := ew_mt (List.mem_append_right _ (List.mem_of_getElem? (i := 519) (by decide +kernel))) rfl
theorem tw_520 : (Jvm.Cond.methodLink "TraceProver$Proof" (35 : Nat) ({ cls := "TraceProver$Proof", name := "areColumnsInField", desc := "(I)Z" } : Jvm.MethodName)) ∈ ew_tb := ew_mt (List.mem_append_right _ (List.mem_of_getElem? (i := 520) (by decide +kernel))) rfl
theorem tw_522 : (Jvm.Cond.instanceMethod ({ cls := "TraceProver$Proof", name := "areColumnsInField", desc := "(I)Z" } : Jvm.MethodName)) ∈ ew_tb := ew_mt (List.mem_append_right _ (List.mem_of_getElem? (i := 522) (by decide +kernel))) rfl
theorem tw_523 : (Jvm.Cond.code ({ cls := "TraceProver$Proof", name := "areColumnsInField", desc := "(I)Z" } : Jvm.MethodName) prog_4_method_10_code (4 : Nat) (Option.some Jvm.ClassFile.FieldType.boolean)) ∈ ew_tb := ew_mt (List.mem_append_right _ (List.mem_of_getElem? (i := 523) (by decide +kernel))) rfl
theorem tw_524 : (Jvm.Cond.methodLink "TraceProver$Proof" (41 : Nat) ({ cls := "TraceProver$Proof", name := "columnStart", desc := "(II)I" } : Jvm.MethodName)) ∈ ew_tb := ew_mt (List.mem_append_right _ (List.mem_of_getElem? (i := 524) (by decide +kernel))) rfl
theorem tw_525 : (Jvm.Cond.methodLink "TraceProver$Proof" (38 : Nat) ({ cls := "TraceProver$Proof", name := "areLayersInField", desc := "(I)Z" } : Jvm.MethodName)) ∈ ew_tb := ew_mt (List.mem_append_right _ (List.mem_of_getElem? (i := 525) (by decide +kernel))) rfl
theorem tw_527 : (Jvm.Cond.instanceMethod ({ cls := "TraceProver$Proof", name := "areLayersInField", desc := "(I)Z" } : Jvm.MethodName)) ∈ ew_tb := ew_mt (List.mem_append_right _ (List.mem_of_getElem? (i := 527) (by decide +kernel))) rfl
theorem tw_528 : (Jvm.Cond.code ({ cls := "TraceProver$Proof", name := "areLayersInField", desc := "(I)Z" } : Jvm.MethodName) prog_4_method_11_code (4 : Nat) (Option.some Jvm.ClassFile.FieldType.boolean)) ∈ ew_tb := ew_mt (List.mem_append_right _ (List.mem_of_getElem? (i := 528) (by decide +kernel))) rfl
theorem tw_529 : (Jvm.Cond.methodLink "TraceProver$Proof" (44 : Nat) ({ cls := "TraceProver$Proof", name := "layerStart", desc := "(III)I" } : Jvm.MethodName)) ∈ ew_tb := ew_mt (List.mem_append_right _ (List.mem_of_getElem? (i := 529) (by decide +kernel))) rfl
theorem tw_530 : (Jvm.Cond.methodLink "TraceProver$Verifier" (44 : Nat) ({ cls := "TraceProver$Verifier", name := "listen", desc := "()V" } : Jvm.MethodName)) ∈ ew_tb := ew_mt (List.mem_append_right _ (List.mem_of_getElem? (i := 530) (by decide +kernel))) rfl
theorem tw_532 : (Jvm.Cond.instanceMethod ({ cls := "TraceProver$Verifier", name := "listen", desc := "()V" } : Jvm.MethodName)) ∈ ew_tb := ew_mt (List.mem_append_right _ (List.mem_of_getElem? (i := 532) (by decide +kernel))) rfl
theorem tw_533 : (Jvm.Cond.code ({ cls := "TraceProver$Verifier", name := "listen", desc := "()V" } : Jvm.MethodName) prog_10_method_4_code (2 : Nat) (Option.none : Option Jvm.ClassFile.FieldType)) ∈ ew_tb := ew_mt (List.mem_append_right _ (List.mem_of_getElem? (i := 533) (by decide +kernel))) rfl
theorem tw_534 : (Jvm.Cond.methodLink "TraceProver$Verifier" (51 : Nat) ({ cls := "TraceProver$Talk", name := "begin", desc := "(LTraceProver$Rules;I)V" } : Jvm.MethodName)) ∈ ew_tb := ew_mt (List.mem_append_right _ (List.mem_of_getElem? (i := 534) (by decide +kernel))) rfl
theorem tw_535 : (Jvm.Cond.methodLink "TraceProver$Verifier" (55 : Nat) ({ cls := "TraceProver$Talk", name := "hearLayer", desc := "(II)V" } : Jvm.MethodName)) ∈ ew_tb := ew_mt (List.mem_append_right _ (List.mem_of_getElem? (i := 535) (by decide +kernel))) rfl
theorem tw_536 : (Jvm.Cond.methodLink "TraceProver$Verifier" (59 : Nat) ({ cls := "TraceProver$Talk", name := "end", desc := "(I)V" } : Jvm.MethodName)) ∈ ew_tb := ew_mt (List.mem_append_right _ (List.mem_of_getElem? (i := 536) (by decide +kernel))) rfl
theorem tw_537 : (Jvm.Cond.methodLink "TraceProver$Verifier" (47 : Nat) ({ cls := "TraceProver$Verifier", name := "codeOf", desc := "(I)I" } : Jvm.MethodName)) ∈ ew_tb := ew_mt (List.mem_append_right _ (List.mem_of_getElem? (i := 537) (by decide +kernel))) rfl
theorem tw_539 : (Jvm.Cond.instanceMethod ({ cls := "TraceProver$Verifier", name := "codeOf", desc := "(I)I" } : Jvm.MethodName)) ∈ ew_tb := ew_mt (List.mem_append_right _ (List.mem_of_getElem? (i := 539) (by decide +kernel))) rfl
theorem tw_540 : (Jvm.Cond.code ({ cls := "TraceProver$Verifier", name := "codeOf", desc := "(I)I" } : Jvm.MethodName) prog_10_method_5_code (2 : Nat) (Option.some Jvm.ClassFile.FieldType.int)) ∈ ew_tb := ew_mt (List.mem_append_right _ (List.mem_of_getElem? (i := 540) (by decide +kernel))) rfl
theorem tw_541 : (Jvm.Cond.methodLink "TraceProver$Verifier" (63 : Nat) ({ cls := "TraceProver$Verifier", name := "doColumnPathsLead", desc := "(I)Z" } : Jvm.MethodName)) ∈ ew_tb := ew_mt (List.mem_append_right _ (List.mem_of_getElem? (i := 541) (by decide +kernel))) rfl
theorem tw_543 : (Jvm.Cond.instanceMethod ({ cls := "TraceProver$Verifier", name := "doColumnPathsLead", desc := "(I)Z" } : Jvm.MethodName)) ∈ ew_tb := ew_mt (List.mem_append_right _ (List.mem_of_getElem? (i := 543) (by decide +kernel))) rfl
theorem tw_544 : (Jvm.Cond.code ({ cls := "TraceProver$Verifier", name := "doColumnPathsLead", desc := "(I)Z" } : Jvm.MethodName) prog_10_method_6_code (6 : Nat) (Option.some Jvm.ClassFile.FieldType.boolean)) ∈ ew_tb := ew_mt (List.mem_append_right _ (List.mem_of_getElem? (i := 544) (by decide +kernel))) rfl
theorem tw_545 : (Jvm.Cond.methodLink "TraceProver$Verifier" (81 : Nat) ({ cls := "TraceProver$Verifier", name := "place", desc := "(I)I" } : Jvm.MethodName)) ∈ ew_tb := ew_mt (List.mem_append_right _ (List.mem_of_getElem? (i := 545) (by decide +kernel))) rfl
theorem tw_546 : (Jvm.Cond.instanceMethod ({ cls := "TraceProver$Verifier", name := "place", desc := "(I)I" } : Jvm.MethodName)) ∈ ew_tb := ew_mt (List.mem_append_right _ (List.mem_of_getElem? (i := 546) (by decide +kernel))) rfl
theorem tw_547 : (Jvm.Cond.selects "TraceProver$Verifier" ({ cls := "TraceProver$Verifier", name := "place", desc := "(I)I" } : Jvm.MethodName) ({ cls := "TraceProver$Verifier", name := "place", desc := "(I)I" } : Jvm.MethodName)) ∈ ew_tb := ew_mt (List.mem_append_right _ (List.mem_of_getElem? (i := 547) (by decide +kernel))) rfl
theorem tw_548 : (Jvm.Cond.code ({ cls := "TraceProver$Verifier", name := "place", desc := "(I)I" } : Jvm.MethodName) prog_10_method_2_code (2 : Nat) (Option.some Jvm.ClassFile.FieldType.int)) ∈ ew_tb := ew_mt (List.mem_append_right _ (List.mem_of_getElem? (i := 548) (by decide +kernel))) rfl
theorem tw_549 : (Jvm.Cond.methodLink "TraceProver$Verifier" (84 : Nat) ({ cls := "TraceProver$Proof", name := "columnIndex", desc := "(II)I" } : Jvm.MethodName)) ∈ ew_tb := ew_mt (List.mem_append_right _ (List.mem_of_getElem? (i := 549) (by decide +kernel))) rfl
theorem tw_550 : (Jvm.Cond.methodLink "TraceProver$Verifier" (87 : Nat) ({ cls := "TraceProver$Proof", name := "columnStart", desc := "(II)I" } : Jvm.MethodName)) ∈ ew_tb := ew_mt (List.mem_append_right _ (List.mem_of_getElem? (i := 550) (by decide +kernel))) rfl
theorem tw_551 : (Jvm.Cond.methodLink "TraceProver$Verifier" (90 : Nat) ({ cls := "TraceProver$Proof", name := "columnLeaf", desc := "(II)I" } : Jvm.MethodName)) ∈ ew_tb := ew_mt (List.mem_append_right _ (List.mem_of_getElem? (i := 551) (by decide +kernel))) rfl
theorem tw_552 : (Jvm.Cond.methodLink "TraceProver$Verifier" (93 : Nat) ({ cls := "TraceProver$Tree", name := "rootOf", desc := "(III[II)I" } : Jvm.MethodName)) ∈ ew_tb := ew_mt (List.mem_append_right _ (List.mem_of_getElem? (i := 552) (by decide +kernel))) rfl
theorem tw_553 : (Jvm.Cond.static ({ cls := "TraceProver$Tree", name := "rootOf", desc := "(III[II)I" } : Jvm.MethodName)) ∈ ew_tb := ew_mt (List.mem_append_right _ (List.mem_of_getElem? (i := 553) (by decide +kernel))) rfl
theorem tw_554 : (Jvm.Cond.code ({ cls := "TraceProver$Tree", name := "rootOf", desc := "(III[II)I" } : Jvm.MethodName) prog_9_method_5_code (8 : Nat) (Option.some Jvm.ClassFile.FieldType.int)) ∈ ew_tb := ew_mt (List.mem_append_right _ (List.mem_of_getElem? (i := 554) (by decide +kernel))) rfl
theorem tw_555 : (Jvm.Cond.methodLink "TraceProver$Verifier" (67 : Nat) ({ cls := "TraceProver$Verifier", name := "doLayerPathsLead", desc := "(II)Z" } : Jvm.MethodName)) ∈ ew_tb := ew_mt (List.mem_append_right _ (List.mem_of_getElem? (i := 555) (by decide +kernel))) rfl
theorem tw_557 : (Jvm.Cond.instanceMethod ({ cls := "TraceProver$Verifier", name := "doLayerPathsLead", desc := "(II)Z" } : Jvm.MethodName)) ∈ ew_tb := ew_mt (List.mem_append_right _ (List.mem_of_getElem? (i := 557) (by decide +kernel))) rfl
theorem tw_558 : (Jvm.Cond.code ({ cls := "TraceProver$Verifier", name := "doLayerPathsLead", desc := "(II)Z" } : Jvm.MethodName) prog_10_method_7_code (8 : Nat) (Option.some Jvm.ClassFile.FieldType.boolean)) ∈ ew_tb := ew_mt (List.mem_append_right _ (List.mem_of_getElem? (i := 558) (by decide +kernel))) rfl
theorem tw_559 : (Jvm.Cond.methodLink "TraceProver$Verifier" (99 : Nat) ({ cls := "TraceProver$Proof", name := "layerSize", desc := "(I)I" } : Jvm.MethodName)) ∈ ew_tb := ew_mt (List.mem_append_right _ (List.mem_of_getElem? (i := 559) (by decide +kernel))) rfl
theorem tw_560 : (Jvm.Cond.methodLink "TraceProver$Verifier" (102 : Nat) ({ cls := "TraceProver$Proof", name := "layerIndex", desc := "(III)I" } : Jvm.MethodName)) ∈ ew_tb := ew_mt (List.mem_append_right _ (List.mem_of_getElem? (i := 560) (by decide +kernel))) rfl
theorem tw_561 : (Jvm.Cond.methodLink "TraceProver$Verifier" (106 : Nat) ({ cls := "TraceProver$Proof", name := "layerStart", desc := "(III)I" } : Jvm.MethodName)) ∈ ew_tb := ew_mt (List.mem_append_right _ (List.mem_of_getElem? (i := 561) (by decide +kernel))) rfl
theorem tw_562 : (Jvm.Cond.methodLink "TraceProver$Verifier" (109 : Nat) ({ cls := "TraceProver$Proof", name := "layerLeaf", desc := "(I)I" } : Jvm.MethodName)) ∈ ew_tb := ew_mt (List.mem_append_right _ (List.mem_of_getElem? (i := 562) (by decide +kernel))) rfl
theorem tw_563 : (Jvm.Cond.methodLink "TraceProver$Verifier" (71 : Nat) ({ cls := "TraceProver$Verifier", name := "isComposed", desc := "(II)Z" } : Jvm.MethodName)) ∈ ew_tb := ew_mt (List.mem_append_right _ (List.mem_of_getElem? (i := 563) (by decide +kernel))) rfl
theorem tw_565 : (Jvm.Cond.instanceMethod ({ cls := "TraceProver$Verifier", name := "isComposed", desc := "(II)Z" } : Jvm.MethodName)) ∈ ew_tb := ew_mt (List.mem_append_right _ (List.mem_of_getElem? (i := 565) (by decide +kernel))) rfl
theorem tw_566 : (Jvm.Cond.code ({ cls := "TraceProver$Verifier", name := "isComposed", desc := "(II)Z" } : Jvm.MethodName) prog_10_method_8_code (6 : Nat) (Option.some Jvm.ClassFile.FieldType.boolean)) ∈ ew_tb := ew_mt (List.mem_append_right _ (List.mem_of_getElem? (i := 566) (by decide +kernel))) rfl
theorem tw_567 : (Jvm.Cond.methodLink "TraceProver$Verifier" (112 : Nat) ({ cls := "TraceProver$Rules", name := "read", desc := "(IIII)V" } : Jvm.MethodName)) ∈ ew_tb := ew_mt (List.mem_append_right _ (List.mem_of_getElem? (i := 567) (by decide +kernel))) rfl
theorem tw_568 : (Jvm.Cond.methodLink "TraceProver$Verifier" (122 : Nat) ({ cls := "TraceProver$Rules", name := "composition", desc := "(II)I" } : Jvm.MethodName)) ∈ ew_tb := ew_mt (List.mem_append_right _ (List.mem_of_getElem? (i := 568) (by decide +kernel))) rfl
theorem tw_569 : (Jvm.Cond.methodLink "TraceProver$Verifier" (74 : Nat) ({ cls := "TraceProver$Verifier", name := "folded", desc := "(II)I" } : Jvm.MethodName)) ∈ ew_tb := ew_mt (List.mem_append_right _ (List.mem_of_getElem? (i := 569) (by decide +kernel))) rfl
theorem tw_571 : (Jvm.Cond.instanceMethod ({ cls := "TraceProver$Verifier", name := "folded", desc := "(II)I" } : Jvm.MethodName)) ∈ ew_tb := ew_mt (List.mem_append_right _ (List.mem_of_getElem? (i := 571) (by decide +kernel))) rfl
theorem tw_572 : (Jvm.Cond.code ({ cls := "TraceProver$Verifier", name := "folded", desc := "(II)I" } : Jvm.MethodName) prog_10_method_9_code (6 : Nat) (Option.some Jvm.ClassFile.FieldType.int)) ∈ ew_tb := ew_mt (List.mem_append_right _ (List.mem_of_getElem? (i := 572) (by decide +kernel))) rfl
theorem tw_573 : (Jvm.Cond.methodLink "TraceProver$Verifier" (128 : Nat) ({ cls := "TraceProver$Points", name := "fold", desc := "(IIIII)I" } : Jvm.MethodName)) ∈ ew_tb := ew_mt (List.mem_append_right _ (List.mem_of_getElem? (i := 573) (by decide +kernel))) rfl
theorem tw_574 : (Jvm.Cond.methodLink "TraceProver$Verifier" (78 : Nat) ({ cls := "TraceProver$Verifier", name := "valueBehind", desc := "(II)I" } : Jvm.MethodName)) ∈ ew_tb := ew_mt (List.mem_append_right _ (List.mem_of_getElem? (i := 574) (by decide +kernel))) rfl
theorem tw_576 : (Jvm.Cond.instanceMethod ({ cls := "TraceProver$Verifier", name := "valueBehind", desc := "(II)I" } : Jvm.MethodName)) ∈ ew_tb := ew_mt (List.mem_append_right _ (List.mem_of_getElem? (i := 576) (by decide +kernel))) rfl
theorem tw_577 : (Jvm.Cond.code ({ cls := "TraceProver$Verifier", name := "valueBehind", desc := "(II)I" } : Jvm.MethodName) prog_10_method_10_code (6 : Nat) (Option.some Jvm.ClassFile.FieldType.int)) ∈ ew_tb := ew_mt (List.mem_append_right _ (List.mem_of_getElem? (i := 577) (by decide +kernel))) rfl
theorem tw_578 : (Jvm.Cond.methodLink "TraceProverLaw" (64 : Nat) ({ cls := "TraceProver", name := "position", desc := "(I)I" } : Jvm.MethodName)) ∈ ew_tb := ew_mt (List.mem_append_right _ (List.mem_of_getElem? (i := 578) (by decide +kernel))) rfl
theorem tw_579 : (Jvm.Cond.instanceMethod ({ cls := "TraceProver", name := "position", desc := "(I)I" } : Jvm.MethodName)) ∈ ew_tb := ew_mt (List.mem_append_right _ (List.mem_of_getElem? (i := 579) (by decide +kernel))) rfl
theorem tw_580 : (Jvm.Cond.selects "TraceProver" ({ cls := "TraceProver", name := "position", desc := "(I)I" } : Jvm.MethodName) ({ cls := "TraceProver", name := "position", desc := "(I)I" } : Jvm.MethodName)) ∈ ew_tb := ew_mt (List.mem_append_right _ (List.mem_of_getElem? (i := 580) (by decide +kernel))) rfl
theorem tw_581 : (Jvm.Cond.code ({ cls := "TraceProver", name := "position", desc := "(I)I" } : Jvm.MethodName) prog_1_method_13_code (2 : Nat) (Option.some Jvm.ClassFile.FieldType.int)) ∈ ew_tb := ew_mt (List.mem_append_right _ (List.mem_of_getElem? (i := 581) (by decide +kernel))) rfl
theorem tw_582 : (Jvm.Cond.methodLink "TraceProver" (128 : Nat) ({ cls := "TraceProver$Verifier", name := "place", desc := "(I)I" } : Jvm.MethodName)) ∈ ew_tb := ew_mt (List.mem_append_right _ (List.mem_of_getElem? (i := 582) (by decide +kernel))) rfl
theorem tw_583 : (Jvm.Cond.classLink "TraceProverLaw" (10 : Nat) "TraceProverModel") ∈ ew_tb := ew_mt (List.mem_append_right _ (List.mem_of_getElem? (i := 583) (by decide +kernel))) rfl
theorem tw_584 : (Jvm.Cond.instantiable "TraceProverModel" (24 : Nat)) ∈ ew_tb := ew_mt (List.mem_append_right _ (List.mem_of_getElem? (i := 584) (by decide +kernel))) rfl
theorem tw_585 : (Jvm.Cond.methodLink "TraceProverLaw" (12 : Nat) ({ cls := "TraceProverModel", name := "<init>", desc := "()V" } : Jvm.MethodName)) ∈ ew_tb := ew_mt (List.mem_append_right _ (List.mem_of_getElem? (i := 585) (by decide +kernel))) rfl
theorem tw_586 : (Jvm.Cond.instanceMethod ({ cls := "TraceProverModel", name := "<init>", desc := "()V" } : Jvm.MethodName)) ∈ ew_tb := ew_mt (List.mem_append_right _ (List.mem_of_getElem? (i := 586) (by decide +kernel))) rfl
theorem tw_587 : (Jvm.Cond.code ({ cls := "TraceProverModel", name := "<init>", desc := "()V" } : Jvm.MethodName) prog_12_method_1_code (3 : Nat) (Option.none : Option Jvm.ClassFile.FieldType)) ∈ ew_tb := ew_mt (List.mem_append_right _ (List.mem_of_getElem? (i := 587) (by decide +kernel))) rfl
theorem tw_588 : (Jvm.Cond.methodLink "TraceProverModel" (1 : Nat) ({ cls := "java/lang/Object", name := "<init>", desc := "()V" } : Jvm.MethodName)) ∈ ew_tb := ew_mt (List.mem_append_right _ (List.mem_of_getElem? (i := 588) (by decide +kernel))) rfl
theorem tw_589 : (Jvm.Cond.methodLink "TraceProverModel" (61 : Nat) ({ cls := "TraceProverModel", name := "power", desc := "(II)I" } : Jvm.MethodName)) ∈ ew_tb := ew_mt (List.mem_append_right _ (List.mem_of_getElem? (i := 589) (by decide +kernel))) rfl
theorem tw_590 : (Jvm.Cond.static ({ cls := "TraceProverModel", name := "power", desc := "(II)I" } : Jvm.MethodName)) ∈ ew_tb := ew_mt (List.mem_append_right _ (List.mem_of_getElem? (i := 590) (by decide +kernel))) rfl
theorem tw_591 : (Jvm.Cond.code ({ cls := "TraceProverModel", name := "power", desc := "(II)I" } : Jvm.MethodName) prog_12_method_4_code (4 : Nat) (Option.some Jvm.ClassFile.FieldType.int)) ∈ ew_tb := ew_mt (List.mem_append_right _ (List.mem_of_getElem? (i := 591) (by decide +kernel))) rfl
theorem tw_592 : (Jvm.Cond.methodLink "TraceProverModel" (65 : Nat) ({ cls := "TraceProverModel", name := "times", desc := "(II)I" } : Jvm.MethodName)) ∈ ew_tb := ew_mt (List.mem_append_right _ (List.mem_of_getElem? (i := 592) (by decide +kernel))) rfl
theorem tw_593 : (Jvm.Cond.static ({ cls := "TraceProverModel", name := "times", desc := "(II)I" } : Jvm.MethodName)) ∈ ew_tb := ew_mt (List.mem_append_right _ (List.mem_of_getElem? (i := 593) (by decide +kernel))) rfl
theorem tw_594 : (Jvm.Cond.code ({ cls := "TraceProverModel", name := "times", desc := "(II)I" } : Jvm.MethodName) prog_12_method_3_code (2 : Nat) (Option.some Jvm.ClassFile.FieldType.int)) ∈ ew_tb := ew_mt (List.mem_append_right _ (List.mem_of_getElem? (i := 594) (by decide +kernel))) rfl
theorem tw_595 : (Jvm.Cond.fieldLink "TraceProverModel" (7 : Nat) "TraceProverModel" "cells" "[I") ∈ ew_tb := ew_mt (List.mem_append_right _ (List.mem_of_getElem? (i := 595) (by decide +kernel))) rfl
theorem tw_596 : (Jvm.Cond.fieldLink "TraceProverModel" (13 : Nat) "TraceProverModel" "many" "[I") ∈ ew_tb := ew_mt (List.mem_append_right _ (List.mem_of_getElem? (i := 596) (by decide +kernel))) rfl
theorem tw_597 : (Jvm.Cond.fieldLink "TraceProverModel" (16 : Nat) "TraceProverModel" "ks" "[I") ∈ ew_tb := ew_mt (List.mem_append_right _ (List.mem_of_getElem? (i := 597) (by decide +kernel))) rfl
theorem tw_598 : (Jvm.Cond.fieldLink "TraceProverModel" (19 : Nat) "TraceProverModel" "us" "[I") ∈ ew_tb := ew_mt (List.mem_append_right _ (List.mem_of_getElem? (i := 598) (by decide +kernel))) rfl
theorem tw_599 : (Jvm.Cond.fieldLink "TraceProverModel" (22 : Nat) "TraceProverModel" "vs" "[I") ∈ ew_tb := ew_mt (List.mem_append_right _ (List.mem_of_getElem? (i := 599) (by decide +kernel))) rfl
theorem tw_600 : (Jvm.Cond.fieldLink "TraceProverModel" (84 : Nat) "TraceProverModel" "bounds" "I") ∈ ew_tb := ew_mt (List.mem_append_right _ (List.mem_of_getElem? (i := 600) (by decide +kernel))) rfl
theorem tw_601 : (Jvm.Cond.fieldLink "TraceProverModel" (25 : Nat) "TraceProverModel" "boundC" "[I") ∈ ew_tb := ew_mt (List.mem_append_right _ (List.mem_of_getElem? (i := 601) (by decide +kernel))) rfl
theorem tw_602 : (Jvm.Cond.fieldLink "TraceProverModel" (28 : Nat) "TraceProverModel" "boundR" "[I") ∈ ew_tb := ew_mt (List.mem_append_right _ (List.mem_of_getElem? (i := 602) (by decide +kernel))) rfl
theorem tw_603 : (Jvm.Cond.fieldLink "TraceProverModel" (31 : Nat) "TraceProverModel" "boundV" "[I") ∈ ew_tb := ew_mt (List.mem_append_right _ (List.mem_of_getElem? (i := 603) (by decide +kernel))) rfl
theorem tw_604 : (Jvm.Cond.fieldLink "TraceProverModel" (178 : Nat) "TraceProverModel" "made" "Z") ∈ ew_tb := ew_mt (List.mem_append_right _ (List.mem_of_getElem? (i := 604) (by decide +kernel))) rfl
theorem tw_605 : (Jvm.Cond.fieldLink "TraceProverModel" (34 : Nat) "TraceProverModel" "row" "[I") ∈ ew_tb := ew_mt (List.mem_append_right _ (List.mem_of_getElem? (i := 605) (by decide +kernel))) rfl
theorem tw_606 : (Jvm.Cond.fieldLink "TraceProverModel" (140 : Nat) "TraceProverModel" "written" "I") ∈ ew_tb := ew_mt (List.mem_append_right _ (List.mem_of_getElem? (i := 606) (by decide +kernel))) rfl
theorem tw_607 : (Jvm.Cond.fieldLink "TraceProverModel" (120 : Nat) "TraceProverModel" "transcript" "I") ∈ ew_tb := ew_mt (List.mem_append_right _ (List.mem_of_getElem? (i := 607) (by decide +kernel))) rfl
theorem tw_608 : (Jvm.Cond.fieldLink "TraceProverModel" (117 : Nat) "TraceProverModel" "mixing" "I") ∈ ew_tb := ew_mt (List.mem_append_right _ (List.mem_of_getElem? (i := 608) (by decide +kernel))) rfl
theorem tw_609 : (Jvm.Cond.fieldLink "TraceProverModel" (37 : Nat) "TraceProverModel" "folding" "[I") ∈ ew_tb := ew_mt (List.mem_append_right _ (List.mem_of_getElem? (i := 609) (by decide +kernel))) rfl
theorem tw_610 : (Jvm.Cond.fieldLink "TraceProverModel" (40 : Nat) "TraceProverModel" "positions" "[I") ∈ ew_tb := ew_mt (List.mem_append_right _ (List.mem_of_getElem? (i := 610) (by decide +kernel))) rfl
theorem tw_611 : (Jvm.Cond.fieldLink "TraceProverModel" (43 : Nat) "TraceProverModel" "latest" "[I") ∈ ew_tb := ew_mt (List.mem_append_right _ (List.mem_of_getElem? (i := 611) (by decide +kernel))) rfl
theorem tw_612 : (Jvm.Cond.fieldLink "TraceProverModel" (203 : Nat) "TraceProverModel" "seen" "Z") ∈ ew_tb := ew_mt (List.mem_append_right _ (List.mem_of_getElem? (i := 612) (by decide +kernel))) rfl
theorem tw_613 : (Jvm.Cond.fieldLink "TraceProverModel" (46 : Nat) "TraceProverModel" "roots" "[I") ∈ ew_tb := ew_mt (List.mem_append_right _ (List.mem_of_getElem? (i := 613) (by decide +kernel))) rfl
theorem tw_614 : (Jvm.Cond.fieldLink "TraceProverModel" (49 : Nat) "TraceProverModel" "poly" "[I") ∈ ew_tb := ew_mt (List.mem_append_right _ (List.mem_of_getElem? (i := 614) (by decide +kernel))) rfl
theorem tw_615 : (Jvm.Cond.fieldLink "TraceProverModel" (52 : Nat) "TraceProverModel" "layer" "[I") ∈ ew_tb := ew_mt (List.mem_append_right _ (List.mem_of_getElem? (i := 615) (by decide +kernel))) rfl
theorem tw_616 : (Jvm.Cond.fieldLink "TraceProverModel" (55 : Nat) "TraceProverModel" "node" "[I") ∈ ew_tb := ew_mt (List.mem_append_right _ (List.mem_of_getElem? (i := 616) (by decide +kernel))) rfl
theorem tw_617 : (Jvm.Cond.fieldLink "TraceProverModel" (58 : Nat) "TraceProverModel" "letter" "[I") ∈ ew_tb := ew_mt (List.mem_append_right _ (List.mem_of_getElem? (i := 617) (by decide +kernel))) rfl
theorem tw_667 : (Jvm.Cond.methodLink "TraceProverLaw" (17 : Nat) ({ cls := "TraceProverModel", name := "term", desc := "(IIII)I" } : Jvm.MethodName)) ∈ ew_tb := ew_mt (List.mem_append_right _ (List.mem_of_getElem? (i := 667) (by decide +kernel))) rfl
theorem tw_668 : (Jvm.Cond.instanceMethod ({ cls := "TraceProverModel", name := "term", desc := "(IIII)I" } : Jvm.MethodName)) ∈ ew_tb := ew_mt (List.mem_append_right _ (List.mem_of_getElem? (i := 668) (by decide +kernel))) rfl
theorem tw_669 : (Jvm.Cond.selects "TraceProverModel" ({ cls := "TraceProverModel", name := "term", desc := "(IIII)I" } : Jvm.MethodName) ({ cls := "TraceProverModel", name := "term", desc := "(IIII)I" } : Jvm.MethodName)) ∈ ew_tb := ew_mt (List.mem_append_right _ (List.mem_of_getElem? (i := 669) (by decide +kernel))) rfl
theorem tw_670 : (Jvm.Cond.code ({ cls := "TraceProverModel", name := "term", desc := "(IIII)I" } : Jvm.MethodName) prog_12_method_13_code (5 : Nat) (Option.some Jvm.ClassFile.FieldType.int)) ∈ ew_tb := ew_mt (List.mem_append_right _ (List.mem_of_getElem? (i := 670) (by decide +kernel))) rfl
theorem tw_671 : (Jvm.Cond.methodLink "TraceProverModel" (74 : Nat) ({ cls := "TraceProverModel", name := "isColumn", desc := "(I)Z" } : Jvm.MethodName)) ∈ ew_tb := ew_mt (List.mem_append_right _ (List.mem_of_getElem? (i := 671) (by decide +kernel))) rfl
theorem tw_672 : (Jvm.Cond.static ({ cls := "TraceProverModel", name := "isColumn", desc := "(I)Z" } : Jvm.MethodName)) ∈ ew_tb := ew_mt (List.mem_append_right _ (List.mem_of_getElem? (i := 672) (by decide +kernel))) rfl
theorem tw_673 : (Jvm.Cond.code ({ cls := "TraceProverModel", name := "isColumn", desc := "(I)Z" } : Jvm.MethodName) prog_12_method_11_code (1 : Nat) (Option.some Jvm.ClassFile.FieldType.boolean)) ∈ ew_tb := ew_mt (List.mem_append_right _ (List.mem_of_getElem? (i := 673) (by decide +kernel))) rfl
theorem tw_674 : (Jvm.Cond.methodLink "TraceProverModel" (78 : Nat) ({ cls := "TraceProverModel", name := "isNumber", desc := "(I)Z" } : Jvm.MethodName)) ∈ ew_tb := ew_mt (List.mem_append_right _ (List.mem_of_getElem? (i := 674) (by decide +kernel))) rfl
theorem tw_675 : (Jvm.Cond.static ({ cls := "TraceProverModel", name := "isNumber", desc := "(I)Z" } : Jvm.MethodName)) ∈ ew_tb := ew_mt (List.mem_append_right _ (List.mem_of_getElem? (i := 675) (by decide +kernel))) rfl
theorem tw_676 : (Jvm.Cond.code ({ cls := "TraceProverModel", name := "isNumber", desc := "(I)Z" } : Jvm.MethodName) prog_12_method_6_code (1 : Nat) (Option.some Jvm.ClassFile.FieldType.boolean)) ∈ ew_tb := ew_mt (List.mem_append_right _ (List.mem_of_getElem? (i := 676) (by decide +kernel))) rfl
theorem tw_677 : (Jvm.Cond.methodLink "TraceProverLaw" (22 : Nat) ({ cls := "TraceProverModel", name := "bound", desc := "(III)I" } : Jvm.MethodName)) ∈ ew_tb := ew_mt (List.mem_append_right _ (List.mem_of_getElem? (i := 677) (by decide +kernel))) rfl
theorem tw_678 : (Jvm.Cond.instanceMethod ({ cls := "TraceProverModel", name := "bound", desc := "(III)I" } : Jvm.MethodName)) ∈ ew_tb := ew_mt (List.mem_append_right _ (List.mem_of_getElem? (i := 678) (by decide +kernel))) rfl
theorem tw_679 : (Jvm.Cond.selects "TraceProverModel" ({ cls := "TraceProverModel", name := "bound", desc := "(III)I" } : Jvm.MethodName) ({ cls := "TraceProverModel", name := "bound", desc := "(III)I" } : Jvm.MethodName)) ∈ ew_tb := ew_mt (List.mem_append_right _ (List.mem_of_getElem? (i := 679) (by decide +kernel))) rfl
theorem tw_680 : (Jvm.Cond.code ({ cls := "TraceProverModel", name := "bound", desc := "(III)I" } : Jvm.MethodName) prog_12_method_14_code (4 : Nat) (Option.some Jvm.ClassFile.FieldType.int)) ∈ ew_tb := ew_mt (List.mem_append_right _ (List.mem_of_getElem? (i := 680) (by decide +kernel))) rfl
theorem tw_681 : (Jvm.Cond.methodLink "TraceProverModel" (81 : Nat) ({ cls := "TraceProverModel", name := "isRow", desc := "(I)Z" } : Jvm.MethodName)) ∈ ew_tb := ew_mt (List.mem_append_right _ (List.mem_of_getElem? (i := 681) (by decide +kernel))) rfl
theorem tw_682 : (Jvm.Cond.static ({ cls := "TraceProverModel", name := "isRow", desc := "(I)Z" } : Jvm.MethodName)) ∈ ew_tb := ew_mt (List.mem_append_right _ (List.mem_of_getElem? (i := 682) (by decide +kernel))) rfl
theorem tw_683 : (Jvm.Cond.code ({ cls := "TraceProverModel", name := "isRow", desc := "(I)Z" } : Jvm.MethodName) prog_12_method_12_code (1 : Nat) (Option.some Jvm.ClassFile.FieldType.boolean)) ∈ ew_tb := ew_mt (List.mem_append_right _ (List.mem_of_getElem? (i := 683) (by decide +kernel))) rfl
theorem tw_684 : (Jvm.Cond.methodLink "TraceProverLaw" (26 : Nat) ({ cls := "TraceProverModel", name := "clear", desc := "()V" } : Jvm.MethodName)) ∈ ew_tb := ew_mt (List.mem_append_right _ (List.mem_of_getElem? (i := 684) (by decide +kernel))) rfl
theorem tw_685 : (Jvm.Cond.instanceMethod ({ cls := "TraceProverModel", name := "clear", desc := "()V" } : Jvm.MethodName)) ∈ ew_tb := ew_mt (List.mem_append_right _ (List.mem_of_getElem? (i := 685) (by decide +kernel))) rfl
theorem tw_686 : (Jvm.Cond.selects "TraceProverModel" ({ cls := "TraceProverModel", name := "clear", desc := "()V" } : Jvm.MethodName) ({ cls := "TraceProverModel", name := "clear", desc := "()V" } : Jvm.MethodName)) ∈ ew_tb := ew_mt (List.mem_append_right _ (List.mem_of_getElem? (i := 686) (by decide +kernel))) rfl
theorem tw_687 : (Jvm.Cond.code ({ cls := "TraceProverModel", name := "clear", desc := "()V" } : Jvm.MethodName) prog_12_method_15_code (1 : Nat) (Option.none : Option Jvm.ClassFile.FieldType)) ∈ ew_tb := ew_mt (List.mem_append_right _ (List.mem_of_getElem? (i := 687) (by decide +kernel))) rfl
theorem tw_688 : (Jvm.Cond.methodLink "TraceProverLaw" (31 : Nat) ({ cls := "TraceProverModel", name := "set", desc := "(III)Z" } : Jvm.MethodName)) ∈ ew_tb := ew_mt (List.mem_append_right _ (List.mem_of_getElem? (i := 688) (by decide +kernel))) rfl
theorem tw_689 : (Jvm.Cond.instanceMethod ({ cls := "TraceProverModel", name := "set", desc := "(III)Z" } : Jvm.MethodName)) ∈ ew_tb := ew_mt (List.mem_append_right _ (List.mem_of_getElem? (i := 689) (by decide +kernel))) rfl
theorem tw_690 : (Jvm.Cond.selects "TraceProverModel" ({ cls := "TraceProverModel", name := "set", desc := "(III)Z" } : Jvm.MethodName) ({ cls := "TraceProverModel", name := "set", desc := "(III)Z" } : Jvm.MethodName)) ∈ ew_tb := ew_mt (List.mem_append_right _ (List.mem_of_getElem? (i := 690) (by decide +kernel))) rfl
theorem tw_691 : (Jvm.Cond.code ({ cls := "TraceProverModel", name := "set", desc := "(III)Z" } : Jvm.MethodName) prog_12_method_16_code (4 : Nat) (Option.some Jvm.ClassFile.FieldType.boolean)) ∈ ew_tb := ew_mt (List.mem_append_right _ (List.mem_of_getElem? (i := 691) (by decide +kernel))) rfl
theorem tw_692 : (Jvm.Cond.methodLink "TraceProverLaw" (36 : Nat) ({ cls := "TraceProverModel", name := "cell", desc := "(II)I" } : Jvm.MethodName)) ∈ ew_tb := ew_mt (List.mem_append_right _ (List.mem_of_getElem? (i := 692) (by decide +kernel))) rfl
theorem tw_693 : (Jvm.Cond.instanceMethod ({ cls := "TraceProverModel", name := "cell", desc := "(II)I" } : Jvm.MethodName)) ∈ ew_tb := ew_mt (List.mem_append_right _ (List.mem_of_getElem? (i := 693) (by decide +kernel))) rfl
theorem tw_694 : (Jvm.Cond.selects "TraceProverModel" ({ cls := "TraceProverModel", name := "cell", desc := "(II)I" } : Jvm.MethodName) ({ cls := "TraceProverModel", name := "cell", desc := "(II)I" } : Jvm.MethodName)) ∈ ew_tb := ew_mt (List.mem_append_right _ (List.mem_of_getElem? (i := 694) (by decide +kernel))) rfl
theorem tw_695 : (Jvm.Cond.code ({ cls := "TraceProverModel", name := "cell", desc := "(II)I" } : Jvm.MethodName) prog_12_method_17_code (3 : Nat) (Option.some Jvm.ClassFile.FieldType.int)) ∈ ew_tb := ew_mt (List.mem_append_right _ (List.mem_of_getElem? (i := 695) (by decide +kernel))) rfl
theorem tw_696 : (Jvm.Cond.methodLink "TraceProverLaw" (40 : Nat) ({ cls := "TraceProverModel", name := "at", desc := "(II)I" } : Jvm.MethodName)) ∈ ew_tb := ew_mt (List.mem_append_right _ (List.mem_of_getElem? (i := 696) (by decide +kernel))) rfl
theorem tw_697 : (Jvm.Cond.instanceMethod ({ cls := "TraceProverModel", name := "at", desc := "(II)I" } : Jvm.MethodName)) ∈ ew_tb := ew_mt (List.mem_append_right _ (List.mem_of_getElem? (i := 697) (by decide +kernel))) rfl
theorem tw_698 : (Jvm.Cond.selects "TraceProverModel" ({ cls := "TraceProverModel", name := "at", desc := "(II)I" } : Jvm.MethodName) ({ cls := "TraceProverModel", name := "at", desc := "(II)I" } : Jvm.MethodName)) ∈ ew_tb := ew_mt (List.mem_append_right _ (List.mem_of_getElem? (i := 698) (by decide +kernel))) rfl
theorem tw_699 : (Jvm.Cond.code ({ cls := "TraceProverModel", name := "at", desc := "(II)I" } : Jvm.MethodName) prog_12_method_20_code (3 : Nat) (Option.some Jvm.ClassFile.FieldType.int)) ∈ ew_tb := ew_mt (List.mem_append_right _ (List.mem_of_getElem? (i := 699) (by decide +kernel))) rfl
theorem tw_700 : (Jvm.Cond.methodLink "TraceProverModel" (97 : Nat) ({ cls := "TraceProverModel", name := "x", desc := "(I)I" } : Jvm.MethodName)) ∈ ew_tb := ew_mt (List.mem_append_right _ (List.mem_of_getElem? (i := 700) (by decide +kernel))) rfl
theorem tw_702 : (Jvm.Cond.instanceMethod ({ cls := "TraceProverModel", name := "x", desc := "(I)I" } : Jvm.MethodName)) ∈ ew_tb := ew_mt (List.mem_append_right _ (List.mem_of_getElem? (i := 702) (by decide +kernel))) rfl
theorem tw_703 : (Jvm.Cond.code ({ cls := "TraceProverModel", name := "x", desc := "(I)I" } : Jvm.MethodName) prog_12_method_8_code (2 : Nat) (Option.some Jvm.ClassFile.FieldType.int)) ∈ ew_tb := ew_mt (List.mem_append_right _ (List.mem_of_getElem? (i := 703) (by decide +kernel))) rfl
theorem tw_704 : (Jvm.Cond.methodLink "TraceProverModel" (68 : Nat) ({ cls := "TraceProverModel", name := "w", desc := "(I)I" } : Jvm.MethodName)) ∈ ew_tb := ew_mt (List.mem_append_right _ (List.mem_of_getElem? (i := 704) (by decide +kernel))) rfl
theorem tw_706 : (Jvm.Cond.instanceMethod ({ cls := "TraceProverModel", name := "w", desc := "(I)I" } : Jvm.MethodName)) ∈ ew_tb := ew_mt (List.mem_append_right _ (List.mem_of_getElem? (i := 706) (by decide +kernel))) rfl
theorem tw_707 : (Jvm.Cond.code ({ cls := "TraceProverModel", name := "w", desc := "(I)I" } : Jvm.MethodName) prog_12_method_7_code (2 : Nat) (Option.some Jvm.ClassFile.FieldType.int)) ∈ ew_tb := ew_mt (List.mem_append_right _ (List.mem_of_getElem? (i := 707) (by decide +kernel))) rfl
theorem tw_708 : (Jvm.Cond.methodLink "TraceProverModel" (100 : Nat) ({ cls := "TraceProverModel", name := "valueAt", desc := "(II)I" } : Jvm.MethodName)) ∈ ew_tb := ew_mt (List.mem_append_right _ (List.mem_of_getElem? (i := 708) (by decide +kernel))) rfl
theorem tw_710 : (Jvm.Cond.instanceMethod ({ cls := "TraceProverModel", name := "valueAt", desc := "(II)I" } : Jvm.MethodName)) ∈ ew_tb := ew_mt (List.mem_append_right _ (List.mem_of_getElem? (i := 710) (by decide +kernel))) rfl
theorem tw_711 : (Jvm.Cond.code ({ cls := "TraceProverModel", name := "valueAt", desc := "(II)I" } : Jvm.MethodName) prog_12_method_19_code (8 : Nat) (Option.some Jvm.ClassFile.FieldType.int)) ∈ ew_tb := ew_mt (List.mem_append_right _ (List.mem_of_getElem? (i := 711) (by decide +kernel))) rfl
theorem tw_712 : (Jvm.Cond.methodLink "TraceProverModel" (88 : Nat) ({ cls := "TraceProverModel", name := "h", desc := "(I)I" } : Jvm.MethodName)) ∈ ew_tb := ew_mt (List.mem_append_right _ (List.mem_of_getElem? (i := 712) (by decide +kernel))) rfl
theorem tw_714 : (Jvm.Cond.instanceMethod ({ cls := "TraceProverModel", name := "h", desc := "(I)I" } : Jvm.MethodName)) ∈ ew_tb := ew_mt (List.mem_append_right _ (List.mem_of_getElem? (i := 714) (by decide +kernel))) rfl
theorem tw_715 : (Jvm.Cond.code ({ cls := "TraceProverModel", name := "h", desc := "(I)I" } : Jvm.MethodName) prog_12_method_9_code (2 : Nat) (Option.some Jvm.ClassFile.FieldType.int)) ∈ ew_tb := ew_mt (List.mem_append_right _ (List.mem_of_getElem? (i := 715) (by decide +kernel))) rfl
theorem tw_716 : (Jvm.Cond.methodLink "TraceProverModel" (91 : Nat) ({ cls := "TraceProverModel", name := "mod", desc := "(I)I" } : Jvm.MethodName)) ∈ ew_tb := ew_mt (List.mem_append_right _ (List.mem_of_getElem? (i := 716) (by decide +kernel))) rfl
theorem tw_717 : (Jvm.Cond.static ({ cls := "TraceProverModel", name := "mod", desc := "(I)I" } : Jvm.MethodName)) ∈ ew_tb := ew_mt (List.mem_append_right _ (List.mem_of_getElem? (i := 717) (by decide +kernel))) rfl
theorem tw_718 : (Jvm.Cond.code ({ cls := "TraceProverModel", name := "mod", desc := "(I)I" } : Jvm.MethodName) prog_12_method_2_code (2 : Nat) (Option.some Jvm.ClassFile.FieldType.int)) ∈ ew_tb := ew_mt (List.mem_append_right _ (List.mem_of_getElem? (i := 718) (by decide +kernel))) rfl
theorem tw_719 : (Jvm.Cond.methodLink "TraceProverModel" (94 : Nat) ({ cls := "TraceProverModel", name := "inverse", desc := "(I)I" } : Jvm.MethodName)) ∈ ew_tb := ew_mt (List.mem_append_right _ (List.mem_of_getElem? (i := 719) (by decide +kernel))) rfl
theorem tw_720 : (Jvm.Cond.static ({ cls := "TraceProverModel", name := "inverse", desc := "(I)I" } : Jvm.MethodName)) ∈ ew_tb := ew_mt (List.mem_append_right _ (List.mem_of_getElem? (i := 720) (by decide +kernel))) rfl
theorem tw_721 : (Jvm.Cond.code ({ cls := "TraceProverModel", name := "inverse", desc := "(I)I" } : Jvm.MethodName) prog_12_method_5_code (4 : Nat) (Option.some Jvm.ClassFile.FieldType.int)) ∈ ew_tb := ew_mt (List.mem_append_right _ (List.mem_of_getElem? (i := 721) (by decide +kernel))) rfl
theorem tw_722 : (Jvm.Cond.methodLink "TraceProverLaw" (45 : Nat) ({ cls := "TraceProverModel", name := "wrong", desc := "()I" } : Jvm.MethodName)) ∈ ew_tb := ew_mt (List.mem_append_right _ (List.mem_of_getElem? (i := 722) (by decide +kernel))) rfl
theorem tw_723 : (Jvm.Cond.instanceMethod ({ cls := "TraceProverModel", name := "wrong", desc := "()I" } : Jvm.MethodName)) ∈ ew_tb := ew_mt (List.mem_append_right _ (List.mem_of_getElem? (i := 723) (by decide +kernel))) rfl
theorem tw_724 : (Jvm.Cond.selects "TraceProverModel" ({ cls := "TraceProverModel", name := "wrong", desc := "()I" } : Jvm.MethodName) ({ cls := "TraceProverModel", name := "wrong", desc := "()I" } : Jvm.MethodName)) ∈ ew_tb := ew_mt (List.mem_append_right _ (List.mem_of_getElem? (i := 724) (by decide +kernel))) rfl
theorem tw_725 : (Jvm.Cond.code ({ cls := "TraceProverModel", name := "wrong", desc := "()I" } : Jvm.MethodName) prog_12_method_24_code (2 : Nat) (Option.some Jvm.ClassFile.FieldType.int)) ∈ ew_tb := ew_mt (List.mem_append_right _ (List.mem_of_getElem? (i := 725) (by decide +kernel))) rfl
theorem tw_726 : (Jvm.Cond.methodLink "TraceProverModel" (110 : Nat) ({ cls := "TraceProverModel", name := "isWrong", desc := "(I)Z" } : Jvm.MethodName)) ∈ ew_tb := ew_mt (List.mem_append_right _ (List.mem_of_getElem? (i := 726) (by decide +kernel))) rfl
theorem tw_728 : (Jvm.Cond.instanceMethod ({ cls := "TraceProverModel", name := "isWrong", desc := "(I)Z" } : Jvm.MethodName)) ∈ ew_tb := ew_mt (List.mem_append_right _ (List.mem_of_getElem? (i := 728) (by decide +kernel))) rfl
theorem tw_729 : (Jvm.Cond.code ({ cls := "TraceProverModel", name := "isWrong", desc := "(I)Z" } : Jvm.MethodName) prog_12_method_23_code (4 : Nat) (Option.some Jvm.ClassFile.FieldType.boolean)) ∈ ew_tb := ew_mt (List.mem_append_right _ (List.mem_of_getElem? (i := 729) (by decide +kernel))) rfl
theorem tw_730 : (Jvm.Cond.methodLink "TraceProverModel" (103 : Nat) ({ cls := "TraceProverModel", name := "letters", desc := "(IIII)V" } : Jvm.MethodName)) ∈ ew_tb := ew_mt (List.mem_append_right _ (List.mem_of_getElem? (i := 730) (by decide +kernel))) rfl
theorem tw_732 : (Jvm.Cond.instanceMethod ({ cls := "TraceProverModel", name := "letters", desc := "(IIII)V" } : Jvm.MethodName)) ∈ ew_tb := ew_mt (List.mem_append_right _ (List.mem_of_getElem? (i := 732) (by decide +kernel))) rfl
theorem tw_733 : (Jvm.Cond.code ({ cls := "TraceProverModel", name := "letters", desc := "(IIII)V" } : Jvm.MethodName) prog_12_method_22_code (5 : Nat) (Option.none : Option Jvm.ClassFile.FieldType)) ∈ ew_tb := ew_mt (List.mem_append_right _ (List.mem_of_getElem? (i := 733) (by decide +kernel))) rfl
theorem tw_734 : (Jvm.Cond.methodLink "TraceProverModel" (107 : Nat) ({ cls := "TraceProverModel", name := "summed", desc := "(I)I" } : Jvm.MethodName)) ∈ ew_tb := ew_mt (List.mem_append_right _ (List.mem_of_getElem? (i := 734) (by decide +kernel))) rfl
theorem tw_736 : (Jvm.Cond.instanceMethod ({ cls := "TraceProverModel", name := "summed", desc := "(I)I" } : Jvm.MethodName)) ∈ ew_tb := ew_mt (List.mem_append_right _ (List.mem_of_getElem? (i := 736) (by decide +kernel))) rfl
theorem tw_737 : (Jvm.Cond.code ({ cls := "TraceProverModel", name := "summed", desc := "(I)I" } : Jvm.MethodName) prog_12_method_21_code (4 : Nat) (Option.some Jvm.ClassFile.FieldType.int)) ∈ ew_tb := ew_mt (List.mem_append_right _ (List.mem_of_getElem? (i := 737) (by decide +kernel))) rfl
theorem tw_738 : (Jvm.Cond.methodLink "TraceProverLaw" (49 : Nat) ({ cls := "TraceProverModel", name := "prove", desc := "()I" } : Jvm.MethodName)) ∈ ew_tb := ew_mt (List.mem_append_right _ (List.mem_of_getElem? (i := 738) (by decide +kernel))) rfl
theorem tw_739 : (Jvm.Cond.instanceMethod ({ cls := "TraceProverModel", name := "prove", desc := "()I" } : Jvm.MethodName)) ∈ ew_tb := ew_mt (List.mem_append_right _ (List.mem_of_getElem? (i := 739) (by decide +kernel))) rfl
theorem tw_740 : (Jvm.Cond.selects "TraceProverModel" ({ cls := "TraceProverModel", name := "prove", desc := "()I" } : Jvm.MethodName) ({ cls := "TraceProverModel", name := "prove", desc := "()I" } : Jvm.MethodName)) ∈ ew_tb := ew_mt (List.mem_append_right _ (List.mem_of_getElem? (i := 740) (by decide +kernel))) rfl
theorem tw_741 : (Jvm.Cond.code ({ cls := "TraceProverModel", name := "prove", desc := "()I" } : Jvm.MethodName) prog_12_method_39_code (4 : Nat) (Option.some Jvm.ClassFile.FieldType.int)) ∈ ew_tb := ew_mt (List.mem_append_right _ (List.mem_of_getElem? (i := 741) (by decide +kernel))) rfl
theorem tw_742 : (Jvm.Cond.methodLink "TraceProverModel" (113 : Nat) ({ cls := "TraceProverModel", name := "constraints", desc := "()I" } : Jvm.MethodName)) ∈ ew_tb := ew_mt (List.mem_append_right _ (List.mem_of_getElem? (i := 742) (by decide +kernel))) rfl
theorem tw_744 : (Jvm.Cond.instanceMethod ({ cls := "TraceProverModel", name := "constraints", desc := "()I" } : Jvm.MethodName)) ∈ ew_tb := ew_mt (List.mem_append_right _ (List.mem_of_getElem? (i := 744) (by decide +kernel))) rfl
theorem tw_745 : (Jvm.Cond.code ({ cls := "TraceProverModel", name := "constraints", desc := "()I" } : Jvm.MethodName) prog_12_method_18_code (1 : Nat) (Option.some Jvm.ClassFile.FieldType.int)) ∈ ew_tb := ew_mt (List.mem_append_right _ (List.mem_of_getElem? (i := 745) (by decide +kernel))) rfl
theorem tw_746 : (Jvm.Cond.methodLink "TraceProverModel" (154 : Nat) ({ cls := "TraceProverModel", name := "wrong", desc := "()I" } : Jvm.MethodName)) ∈ ew_tb := ew_mt (List.mem_append_right _ (List.mem_of_getElem? (i := 746) (by decide +kernel))) rfl
theorem tw_747 : (Jvm.Cond.methodLink "TraceProverModel" (157 : Nat) ({ cls := "TraceProverModel", name := "tellRules", desc := "()V" } : Jvm.MethodName)) ∈ ew_tb := ew_mt (List.mem_append_right _ (List.mem_of_getElem? (i := 747) (by decide +kernel))) rfl
theorem tw_749 : (Jvm.Cond.instanceMethod ({ cls := "TraceProverModel", name := "tellRules", desc := "()V" } : Jvm.MethodName)) ∈ ew_tb := ew_mt (List.mem_append_right _ (List.mem_of_getElem? (i := 749) (by decide +kernel))) rfl
theorem tw_750 : (Jvm.Cond.code ({ cls := "TraceProverModel", name := "tellRules", desc := "()V" } : Jvm.MethodName) prog_12_method_29_code (3 : Nat) (Option.none : Option Jvm.ClassFile.FieldType)) ∈ ew_tb := ew_mt (List.mem_append_right _ (List.mem_of_getElem? (i := 750) (by decide +kernel))) rfl
theorem tw_751 : (Jvm.Cond.methodLink "TraceProverModel" (126 : Nat) ({ cls := "TraceProverModel", name := "tell", desc := "(I)V" } : Jvm.MethodName)) ∈ ew_tb := ew_mt (List.mem_append_right _ (List.mem_of_getElem? (i := 751) (by decide +kernel))) rfl
theorem tw_753 : (Jvm.Cond.instanceMethod ({ cls := "TraceProverModel", name := "tell", desc := "(I)V" } : Jvm.MethodName)) ∈ ew_tb := ew_mt (List.mem_append_right _ (List.mem_of_getElem? (i := 753) (by decide +kernel))) rfl
theorem tw_754 : (Jvm.Cond.code ({ cls := "TraceProverModel", name := "tell", desc := "(I)V" } : Jvm.MethodName) prog_12_method_27_code (2 : Nat) (Option.none : Option Jvm.ClassFile.FieldType)) ∈ ew_tb := ew_mt (List.mem_append_right _ (List.mem_of_getElem? (i := 754) (by decide +kernel))) rfl
theorem tw_755 : (Jvm.Cond.methodLink "TraceProverModel" (123 : Nat) ({ cls := "TraceProverModel", name := "mix", desc := "(II)I" } : Jvm.MethodName)) ∈ ew_tb := ew_mt (List.mem_append_right _ (List.mem_of_getElem? (i := 755) (by decide +kernel))) rfl
theorem tw_756 : (Jvm.Cond.static ({ cls := "TraceProverModel", name := "mix", desc := "(II)I" } : Jvm.MethodName)) ∈ ew_tb := ew_mt (List.mem_append_right _ (List.mem_of_getElem? (i := 756) (by decide +kernel))) rfl
theorem tw_757 : (Jvm.Cond.code ({ cls := "TraceProverModel", name := "mix", desc := "(II)I" } : Jvm.MethodName) prog_12_method_10_code (3 : Nat) (Option.some Jvm.ClassFile.FieldType.int)) ∈ ew_tb := ew_mt (List.mem_append_right _ (List.mem_of_getElem? (i := 757) (by decide +kernel))) rfl
theorem tw_758 : (Jvm.Cond.constant "TraceProverModel" (72 : Nat) (40503 : Int32)) ∈ ew_tb := ew_mt (List.mem_append_right _ (List.mem_of_getElem? (i := 758) (by decide +kernel))) rfl
theorem tw_759 : (Jvm.Cond.constant "TraceProverModel" (73 : Nat) (16777619 : Int32)) ∈ ew_tb := ew_mt (List.mem_append_right _ (List.mem_of_getElem? (i := 759) (by decide +kernel))) rfl
theorem tw_760 : (Jvm.Cond.methodLink "TraceProverModel" (160 : Nat) ({ cls := "TraceProverModel", name := "grow", desc := "(I)I" } : Jvm.MethodName)) ∈ ew_tb := ew_mt (List.mem_append_right _ (List.mem_of_getElem? (i := 760) (by decide +kernel))) rfl
theorem tw_762 : (Jvm.Cond.instanceMethod ({ cls := "TraceProverModel", name := "grow", desc := "(I)I" } : Jvm.MethodName)) ∈ ew_tb := ew_mt (List.mem_append_right _ (List.mem_of_getElem? (i := 762) (by decide +kernel))) rfl
theorem tw_763 : (Jvm.Cond.code ({ cls := "TraceProverModel", name := "grow", desc := "(I)I" } : Jvm.MethodName) prog_12_method_34_code (5 : Nat) (Option.some Jvm.ClassFile.FieldType.int)) ∈ ew_tb := ew_mt (List.mem_append_right _ (List.mem_of_getElem? (i := 763) (by decide +kernel))) rfl
theorem tw_764 : (Jvm.Cond.methodLink "TraceProverModel" (131 : Nat) ({ cls := "TraceProverModel", name := "treeFrom", desc := "(I)I" } : Jvm.MethodName)) ∈ ew_tb := ew_mt (List.mem_append_right _ (List.mem_of_getElem? (i := 764) (by decide +kernel))) rfl
theorem tw_765 : (Jvm.Cond.static ({ cls := "TraceProverModel", name := "treeFrom", desc := "(I)I" } : Jvm.MethodName)) ∈ ew_tb := ew_mt (List.mem_append_right _ (List.mem_of_getElem? (i := 765) (by decide +kernel))) rfl
theorem tw_766 : (Jvm.Cond.code ({ cls := "TraceProverModel", name := "treeFrom", desc := "(I)I" } : Jvm.MethodName) prog_12_method_31_code (1 : Nat) (Option.some Jvm.ClassFile.FieldType.int)) ∈ ew_tb := ew_mt (List.mem_append_right _ (List.mem_of_getElem? (i := 766) (by decide +kernel))) rfl
theorem tw_767 : (Jvm.Cond.methodLink "TraceProverModel" (134 : Nat) ({ cls := "TraceProverModel", name := "leavesOf", desc := "(I)I" } : Jvm.MethodName)) ∈ ew_tb := ew_mt (List.mem_append_right _ (List.mem_of_getElem? (i := 767) (by decide +kernel))) rfl
theorem tw_768 : (Jvm.Cond.static ({ cls := "TraceProverModel", name := "leavesOf", desc := "(I)I" } : Jvm.MethodName)) ∈ ew_tb := ew_mt (List.mem_append_right _ (List.mem_of_getElem? (i := 768) (by decide +kernel))) rfl
theorem tw_769 : (Jvm.Cond.code ({ cls := "TraceProverModel", name := "leavesOf", desc := "(I)I" } : Jvm.MethodName) prog_12_method_32_code (1 : Nat) (Option.some Jvm.ClassFile.FieldType.int)) ∈ ew_tb := ew_mt (List.mem_append_right _ (List.mem_of_getElem? (i := 769) (by decide +kernel))) rfl
theorem tw_770 : (Jvm.Cond.methodLink "TraceProverModel" (137 : Nat) ({ cls := "TraceProverModel", name := "layerFrom", desc := "(I)I" } : Jvm.MethodName)) ∈ ew_tb := ew_mt (List.mem_append_right _ (List.mem_of_getElem? (i := 770) (by decide +kernel))) rfl
theorem tw_771 : (Jvm.Cond.static ({ cls := "TraceProverModel", name := "layerFrom", desc := "(I)I" } : Jvm.MethodName)) ∈ ew_tb := ew_mt (List.mem_append_right _ (List.mem_of_getElem? (i := 771) (by decide +kernel))) rfl
theorem tw_772 : (Jvm.Cond.code ({ cls := "TraceProverModel", name := "layerFrom", desc := "(I)I" } : Jvm.MethodName) prog_12_method_33_code (1 : Nat) (Option.some Jvm.ClassFile.FieldType.int)) ∈ ew_tb := ew_mt (List.mem_append_right _ (List.mem_of_getElem? (i := 772) (by decide +kernel))) rfl
theorem tw_773 : (Jvm.Cond.methodLink "TraceProverModel" (163 : Nat) ({ cls := "TraceProverModel", name := "challenge", desc := "()I" } : Jvm.MethodName)) ∈ ew_tb := ew_mt (List.mem_append_right _ (List.mem_of_getElem? (i := 773) (by decide +kernel))) rfl
theorem tw_775 : (Jvm.Cond.instanceMethod ({ cls := "TraceProverModel", name := "challenge", desc := "()I" } : Jvm.MethodName)) ∈ ew_tb := ew_mt (List.mem_append_right _ (List.mem_of_getElem? (i := 775) (by decide +kernel))) rfl
theorem tw_776 : (Jvm.Cond.code ({ cls := "TraceProverModel", name := "challenge", desc := "()I" } : Jvm.MethodName) prog_12_method_28_code (1 : Nat) (Option.some Jvm.ClassFile.FieldType.int)) ∈ ew_tb := ew_mt (List.mem_append_right _ (List.mem_of_getElem? (i := 776) (by decide +kernel))) rfl
theorem tw_777 : (Jvm.Cond.constant "TraceProverModel" (130 : Nat) (2147483647 : Int32)) ∈ ew_tb := ew_mt (List.mem_append_right _ (List.mem_of_getElem? (i := 777) (by decide +kernel))) rfl
theorem tw_778 : (Jvm.Cond.methodLink "TraceProverModel" (166 : Nat) ({ cls := "TraceProverModel", name := "composition", desc := "(I)I" } : Jvm.MethodName)) ∈ ew_tb := ew_mt (List.mem_append_right _ (List.mem_of_getElem? (i := 778) (by decide +kernel))) rfl
theorem tw_780 : (Jvm.Cond.instanceMethod ({ cls := "TraceProverModel", name := "composition", desc := "(I)I" } : Jvm.MethodName)) ∈ ew_tb := ew_mt (List.mem_append_right _ (List.mem_of_getElem? (i := 780) (by decide +kernel))) rfl
theorem tw_781 : (Jvm.Cond.code ({ cls := "TraceProverModel", name := "composition", desc := "(I)I" } : Jvm.MethodName) prog_12_method_25_code (7 : Nat) (Option.some Jvm.ClassFile.FieldType.int)) ∈ ew_tb := ew_mt (List.mem_append_right _ (List.mem_of_getElem? (i := 781) (by decide +kernel))) rfl
theorem tw_782 : (Jvm.Cond.methodLink "TraceProverModel" (169 : Nat) ({ cls := "TraceProverModel", name := "nextLayer", desc := "(I)V" } : Jvm.MethodName)) ∈ ew_tb := ew_mt (List.mem_append_right _ (List.mem_of_getElem? (i := 782) (by decide +kernel))) rfl
theorem tw_784 : (Jvm.Cond.instanceMethod ({ cls := "TraceProverModel", name := "nextLayer", desc := "(I)V" } : Jvm.MethodName)) ∈ ew_tb := ew_mt (List.mem_append_right _ (List.mem_of_getElem? (i := 784) (by decide +kernel))) rfl
theorem tw_785 : (Jvm.Cond.code ({ cls := "TraceProverModel", name := "nextLayer", desc := "(I)V" } : Jvm.MethodName) prog_12_method_38_code (5 : Nat) (Option.none : Option Jvm.ClassFile.FieldType)) ∈ ew_tb := ew_mt (List.mem_append_right _ (List.mem_of_getElem? (i := 785) (by decide +kernel))) rfl
theorem tw_786 : (Jvm.Cond.methodLink "TraceProverModel" (150 : Nat) ({ cls := "TraceProverModel", name := "folded", desc := "(IIII)I" } : Jvm.MethodName)) ∈ ew_tb := ew_mt (List.mem_append_right _ (List.mem_of_getElem? (i := 786) (by decide +kernel))) rfl
theorem tw_788 : (Jvm.Cond.instanceMethod ({ cls := "TraceProverModel", name := "folded", desc := "(IIII)I" } : Jvm.MethodName)) ∈ ew_tb := ew_mt (List.mem_append_right _ (List.mem_of_getElem? (i := 788) (by decide +kernel))) rfl
theorem tw_789 : (Jvm.Cond.code ({ cls := "TraceProverModel", name := "folded", desc := "(IIII)I" } : Jvm.MethodName) prog_12_method_26_code (7 : Nat) (Option.some Jvm.ClassFile.FieldType.int)) ∈ ew_tb := ew_mt (List.mem_append_right _ (List.mem_of_getElem? (i := 789) (by decide +kernel))) rfl
theorem tw_790 : (Jvm.Cond.methodLink "TraceProverModel" (172 : Nat) ({ cls := "TraceProverModel", name := "tellRest", desc := "(I)V" } : Jvm.MethodName)) ∈ ew_tb := ew_mt (List.mem_append_right _ (List.mem_of_getElem? (i := 790) (by decide +kernel))) rfl
theorem tw_792 : (Jvm.Cond.instanceMethod ({ cls := "TraceProverModel", name := "tellRest", desc := "(I)V" } : Jvm.MethodName)) ∈ ew_tb := ew_mt (List.mem_append_right _ (List.mem_of_getElem? (i := 792) (by decide +kernel))) rfl
theorem tw_793 : (Jvm.Cond.code ({ cls := "TraceProverModel", name := "tellRest", desc := "(I)V" } : Jvm.MethodName) prog_12_method_30_code (3 : Nat) (Option.none : Option Jvm.ClassFile.FieldType)) ∈ ew_tb := ew_mt (List.mem_append_right _ (List.mem_of_getElem? (i := 793) (by decide +kernel))) rfl
theorem tw_794 : (Jvm.Cond.methodLink "TraceProverModel" (175 : Nat) ({ cls := "TraceProverModel", name := "writeOpening", desc := "(I)V" } : Jvm.MethodName)) ∈ ew_tb := ew_mt (List.mem_append_right _ (List.mem_of_getElem? (i := 794) (by decide +kernel))) rfl
theorem tw_796 : (Jvm.Cond.instanceMethod ({ cls := "TraceProverModel", name := "writeOpening", desc := "(I)V" } : Jvm.MethodName)) ∈ ew_tb := ew_mt (List.mem_append_right _ (List.mem_of_getElem? (i := 796) (by decide +kernel))) rfl
theorem tw_797 : (Jvm.Cond.code ({ cls := "TraceProverModel", name := "writeOpening", desc := "(I)V" } : Jvm.MethodName) prog_12_method_37_code (6 : Nat) (Option.none : Option Jvm.ClassFile.FieldType)) ∈ ew_tb := ew_mt (List.mem_append_right _ (List.mem_of_getElem? (i := 797) (by decide +kernel))) rfl
theorem tw_798 : (Jvm.Cond.methodLink "TraceProverModel" (143 : Nat) ({ cls := "TraceProverModel", name := "write", desc := "(I)V" } : Jvm.MethodName)) ∈ ew_tb := ew_mt (List.mem_append_right _ (List.mem_of_getElem? (i := 798) (by decide +kernel))) rfl
theorem tw_800 : (Jvm.Cond.instanceMethod ({ cls := "TraceProverModel", name := "write", desc := "(I)V" } : Jvm.MethodName)) ∈ ew_tb := ew_mt (List.mem_append_right _ (List.mem_of_getElem? (i := 800) (by decide +kernel))) rfl
theorem tw_801 : (Jvm.Cond.code ({ cls := "TraceProverModel", name := "write", desc := "(I)V" } : Jvm.MethodName) prog_12_method_35_code (2 : Nat) (Option.none : Option Jvm.ClassFile.FieldType)) ∈ ew_tb := ew_mt (List.mem_append_right _ (List.mem_of_getElem? (i := 801) (by decide +kernel))) rfl
theorem tw_802 : (Jvm.Cond.methodLink "TraceProverModel" (146 : Nat) ({ cls := "TraceProverModel", name := "writePath", desc := "(II)V" } : Jvm.MethodName)) ∈ ew_tb := ew_mt (List.mem_append_right _ (List.mem_of_getElem? (i := 802) (by decide +kernel))) rfl
theorem tw_804 : (Jvm.Cond.instanceMethod ({ cls := "TraceProverModel", name := "writePath", desc := "(II)V" } : Jvm.MethodName)) ∈ ew_tb := ew_mt (List.mem_append_right _ (List.mem_of_getElem? (i := 804) (by decide +kernel))) rfl
theorem tw_805 : (Jvm.Cond.code ({ cls := "TraceProverModel", name := "writePath", desc := "(II)V" } : Jvm.MethodName) prog_12_method_36_code (4 : Nat) (Option.none : Option Jvm.ClassFile.FieldType)) ∈ ew_tb := ew_mt (List.mem_append_right _ (List.mem_of_getElem? (i := 805) (by decide +kernel))) rfl
theorem tw_806 : (Jvm.Cond.methodLink "TraceProverLaw" (54 : Nat) ({ cls := "TraceProverModel", name := "proof", desc := "(I)I" } : Jvm.MethodName)) ∈ ew_tb := ew_mt (List.mem_append_right _ (List.mem_of_getElem? (i := 806) (by decide +kernel))) rfl
theorem tw_807 : (Jvm.Cond.instanceMethod ({ cls := "TraceProverModel", name := "proof", desc := "(I)I" } : Jvm.MethodName)) ∈ ew_tb := ew_mt (List.mem_append_right _ (List.mem_of_getElem? (i := 807) (by decide +kernel))) rfl
theorem tw_808 : (Jvm.Cond.selects "TraceProverModel" ({ cls := "TraceProverModel", name := "proof", desc := "(I)I" } : Jvm.MethodName) ({ cls := "TraceProverModel", name := "proof", desc := "(I)I" } : Jvm.MethodName)) ∈ ew_tb := ew_mt (List.mem_append_right _ (List.mem_of_getElem? (i := 808) (by decide +kernel))) rfl
theorem tw_809 : (Jvm.Cond.code ({ cls := "TraceProverModel", name := "proof", desc := "(I)I" } : Jvm.MethodName) prog_12_method_40_code (2 : Nat) (Option.some Jvm.ClassFile.FieldType.int)) ∈ ew_tb := ew_mt (List.mem_append_right _ (List.mem_of_getElem? (i := 809) (by decide +kernel))) rfl
theorem tw_810 : (Jvm.Cond.methodLink "TraceProverLaw" (59 : Nat) ({ cls := "TraceProverModel", name := "alter", desc := "(II)Z" } : Jvm.MethodName)) ∈ ew_tb := ew_mt (List.mem_append_right _ (List.mem_of_getElem? (i := 810) (by decide +kernel))) rfl
theorem tw_811 : (Jvm.Cond.instanceMethod ({ cls := "TraceProverModel", name := "alter", desc := "(II)Z" } : Jvm.MethodName)) ∈ ew_tb := ew_mt (List.mem_append_right _ (List.mem_of_getElem? (i := 811) (by decide +kernel))) rfl
theorem tw_812 : (Jvm.Cond.selects "TraceProverModel" ({ cls := "TraceProverModel", name := "alter", desc := "(II)Z" } : Jvm.MethodName) ({ cls := "TraceProverModel", name := "alter", desc := "(II)Z" } : Jvm.MethodName)) ∈ ew_tb := ew_mt (List.mem_append_right _ (List.mem_of_getElem? (i := 812) (by decide +kernel))) rfl
theorem tw_813 : (Jvm.Cond.code ({ cls := "TraceProverModel", name := "alter", desc := "(II)Z" } : Jvm.MethodName) prog_12_method_41_code (3 : Nat) (Option.some Jvm.ClassFile.FieldType.boolean)) ∈ ew_tb := ew_mt (List.mem_append_right _ (List.mem_of_getElem? (i := 813) (by decide +kernel))) rfl
theorem tw_814 : (Jvm.Cond.methodLink "TraceProverLaw" (63 : Nat) ({ cls := "TraceProverModel", name := "verify", desc := "()I" } : Jvm.MethodName)) ∈ ew_tb := ew_mt (List.mem_append_right _ (List.mem_of_getElem? (i := 814) (by decide +kernel))) rfl
theorem tw_815 : (Jvm.Cond.instanceMethod ({ cls := "TraceProverModel", name := "verify", desc := "()I" } : Jvm.MethodName)) ∈ ew_tb := ew_mt (List.mem_append_right _ (List.mem_of_getElem? (i := 815) (by decide +kernel))) rfl
theorem tw_816 : (Jvm.Cond.selects "TraceProverModel" ({ cls := "TraceProverModel", name := "verify", desc := "()I" } : Jvm.MethodName) ({ cls := "TraceProverModel", name := "verify", desc := "()I" } : Jvm.MethodName)) ∈ ew_tb := ew_mt (List.mem_append_right _ (List.mem_of_getElem? (i := 816) (by decide +kernel))) rfl
theorem tw_817 : (Jvm.Cond.code ({ cls := "TraceProverModel", name := "verify", desc := "()I" } : Jvm.MethodName) prog_12_method_50_code (3 : Nat) (Option.some Jvm.ClassFile.FieldType.int)) ∈ ew_tb := ew_mt (List.mem_append_right _ (List.mem_of_getElem? (i := 817) (by decide +kernel))) rfl
theorem tw_818 : (Jvm.Cond.methodLink "TraceProverModel" (206 : Nat) ({ cls := "TraceProverModel", name := "allNumbers", desc := "()Z" } : Jvm.MethodName)) ∈ ew_tb := ew_mt (List.mem_append_right _ (List.mem_of_getElem? (i := 818) (by decide +kernel))) rfl
theorem tw_820 : (Jvm.Cond.instanceMethod ({ cls := "TraceProverModel", name := "allNumbers", desc := "()Z" } : Jvm.MethodName)) ∈ ew_tb := ew_mt (List.mem_append_right _ (List.mem_of_getElem? (i := 820) (by decide +kernel))) rfl
theorem tw_821 : (Jvm.Cond.code ({ cls := "TraceProverModel", name := "allNumbers", desc := "()Z" } : Jvm.MethodName) prog_12_method_43_code (4 : Nat) (Option.some Jvm.ClassFile.FieldType.boolean)) ∈ ew_tb := ew_mt (List.mem_append_right _ (List.mem_of_getElem? (i := 821) (by decide +kernel))) rfl
theorem tw_822 : (Jvm.Cond.methodLink "TraceProverModel" (182 : Nat) ({ cls := "TraceProverModel", name := "placeOf", desc := "(II)I" } : Jvm.MethodName)) ∈ ew_tb := ew_mt (List.mem_append_right _ (List.mem_of_getElem? (i := 822) (by decide +kernel))) rfl
theorem tw_823 : (Jvm.Cond.static ({ cls := "TraceProverModel", name := "placeOf", desc := "(II)I" } : Jvm.MethodName)) ∈ ew_tb := ew_mt (List.mem_append_right _ (List.mem_of_getElem? (i := 823) (by decide +kernel))) rfl
theorem tw_824 : (Jvm.Cond.code ({ cls := "TraceProverModel", name := "placeOf", desc := "(II)I" } : Jvm.MethodName) prog_12_method_42_code (3 : Nat) (Option.some Jvm.ClassFile.FieldType.int)) ∈ ew_tb := ew_mt (List.mem_append_right _ (List.mem_of_getElem? (i := 824) (by decide +kernel))) rfl
theorem tw_825 : (Jvm.Cond.methodLink "TraceProverModel" (210 : Nat) ({ cls := "TraceProverModel", name := "code", desc := "(I)I" } : Jvm.MethodName)) ∈ ew_tb := ew_mt (List.mem_append_right _ (List.mem_of_getElem? (i := 825) (by decide +kernel))) rfl
theorem tw_827 : (Jvm.Cond.instanceMethod ({ cls := "TraceProverModel", name := "code", desc := "(I)I" } : Jvm.MethodName)) ∈ ew_tb := ew_mt (List.mem_append_right _ (List.mem_of_getElem? (i := 827) (by decide +kernel))) rfl
theorem tw_828 : (Jvm.Cond.code ({ cls := "TraceProverModel", name := "code", desc := "(I)I" } : Jvm.MethodName) prog_12_method_49_code (3 : Nat) (Option.some Jvm.ClassFile.FieldType.int)) ∈ ew_tb := ew_mt (List.mem_append_right _ (List.mem_of_getElem? (i := 828) (by decide +kernel))) rfl
theorem tw_829 : (Jvm.Cond.methodLink "TraceProverModel" (189 : Nat) ({ cls := "TraceProverModel", name := "opens", desc := "(II)Z" } : Jvm.MethodName)) ∈ ew_tb := ew_mt (List.mem_append_right _ (List.mem_of_getElem? (i := 829) (by decide +kernel))) rfl
theorem tw_831 : (Jvm.Cond.instanceMethod ({ cls := "TraceProverModel", name := "opens", desc := "(II)Z" } : Jvm.MethodName)) ∈ ew_tb := ew_mt (List.mem_append_right _ (List.mem_of_getElem? (i := 831) (by decide +kernel))) rfl
theorem tw_832 : (Jvm.Cond.code ({ cls := "TraceProverModel", name := "opens", desc := "(II)Z" } : Jvm.MethodName) prog_12_method_45_code (6 : Nat) (Option.some Jvm.ClassFile.FieldType.boolean)) ∈ ew_tb := ew_mt (List.mem_append_right _ (List.mem_of_getElem? (i := 832) (by decide +kernel))) rfl
theorem tw_833 : (Jvm.Cond.methodLink "TraceProverModel" (185 : Nat) ({ cls := "TraceProverModel", name := "leads", desc := "(IIII)Z" } : Jvm.MethodName)) ∈ ew_tb := ew_mt (List.mem_append_right _ (List.mem_of_getElem? (i := 833) (by decide +kernel))) rfl
theorem tw_835 : (Jvm.Cond.instanceMethod ({ cls := "TraceProverModel", name := "leads", desc := "(IIII)Z" } : Jvm.MethodName)) ∈ ew_tb := ew_mt (List.mem_append_right _ (List.mem_of_getElem? (i := 835) (by decide +kernel))) rfl
theorem tw_836 : (Jvm.Cond.code ({ cls := "TraceProverModel", name := "leads", desc := "(IIII)Z" } : Jvm.MethodName) prog_12_method_44_code (8 : Nat) (Option.some Jvm.ClassFile.FieldType.boolean)) ∈ ew_tb := ew_mt (List.mem_append_right _ (List.mem_of_getElem? (i := 836) (by decide +kernel))) rfl
theorem tw_837 : (Jvm.Cond.methodLink "TraceProverModel" (193 : Nat) ({ cls := "TraceProverModel", name := "opensLayer", desc := "(III)Z" } : Jvm.MethodName)) ∈ ew_tb := ew_mt (List.mem_append_right _ (List.mem_of_getElem? (i := 837) (by decide +kernel))) rfl
theorem tw_839 : (Jvm.Cond.instanceMethod ({ cls := "TraceProverModel", name := "opensLayer", desc := "(III)Z" } : Jvm.MethodName)) ∈ ew_tb := ew_mt (List.mem_append_right _ (List.mem_of_getElem? (i := 839) (by decide +kernel))) rfl
theorem tw_840 : (Jvm.Cond.code ({ cls := "TraceProverModel", name := "opensLayer", desc := "(III)Z" } : Jvm.MethodName) prog_12_method_46_code (8 : Nat) (Option.some Jvm.ClassFile.FieldType.boolean)) ∈ ew_tb := ew_mt (List.mem_append_right _ (List.mem_of_getElem? (i := 840) (by decide +kernel))) rfl
theorem tw_841 : (Jvm.Cond.methodLink "TraceProverModel" (197 : Nat) ({ cls := "TraceProverModel", name := "composes", desc := "(II)Z" } : Jvm.MethodName)) ∈ ew_tb := ew_mt (List.mem_append_right _ (List.mem_of_getElem? (i := 841) (by decide +kernel))) rfl
theorem tw_843 : (Jvm.Cond.instanceMethod ({ cls := "TraceProverModel", name := "composes", desc := "(II)Z" } : Jvm.MethodName)) ∈ ew_tb := ew_mt (List.mem_append_right _ (List.mem_of_getElem? (i := 843) (by decide +kernel))) rfl
theorem tw_844 : (Jvm.Cond.code ({ cls := "TraceProverModel", name := "composes", desc := "(II)Z" } : Jvm.MethodName) prog_12_method_47_code (7 : Nat) (Option.some Jvm.ClassFile.FieldType.boolean)) ∈ ew_tb := ew_mt (List.mem_append_right _ (List.mem_of_getElem? (i := 844) (by decide +kernel))) rfl
theorem tw_845 : (Jvm.Cond.methodLink "TraceProverModel" (200 : Nat) ({ cls := "TraceProverModel", name := "folds", desc := "(III)Z" } : Jvm.MethodName)) ∈ ew_tb := ew_mt (List.mem_append_right _ (List.mem_of_getElem? (i := 845) (by decide +kernel))) rfl
theorem tw_847 : (Jvm.Cond.instanceMethod ({ cls := "TraceProverModel", name := "folds", desc := "(III)Z" } : Jvm.MethodName)) ∈ ew_tb := ew_mt (List.mem_append_right _ (List.mem_of_getElem? (i := 847) (by decide +kernel))) rfl
theorem tw_848 : (Jvm.Cond.code ({ cls := "TraceProverModel", name := "folds", desc := "(III)Z" } : Jvm.MethodName) prog_12_method_48_code (7 : Nat) (Option.some Jvm.ClassFile.FieldType.boolean)) ∈ ew_tb := ew_mt (List.mem_append_right _ (List.mem_of_getElem? (i := 848) (by decide +kernel))) rfl
theorem tw_849 : (Jvm.Cond.methodLink "TraceProverLaw" (67 : Nat) ({ cls := "TraceProverModel", name := "position", desc := "(I)I" } : Jvm.MethodName)) ∈ ew_tb := ew_mt (List.mem_append_right _ (List.mem_of_getElem? (i := 849) (by decide +kernel))) rfl
theorem tw_850 : (Jvm.Cond.instanceMethod ({ cls := "TraceProverModel", name := "position", desc := "(I)I" } : Jvm.MethodName)) ∈ ew_tb := ew_mt (List.mem_append_right _ (List.mem_of_getElem? (i := 850) (by decide +kernel))) rfl
theorem tw_851 : (Jvm.Cond.selects "TraceProverModel" ({ cls := "TraceProverModel", name := "position", desc := "(I)I" } : Jvm.MethodName) ({ cls := "TraceProverModel", name := "position", desc := "(I)I" } : Jvm.MethodName)) ∈ ew_tb := ew_mt (List.mem_append_right _ (List.mem_of_getElem? (i := 851) (by decide +kernel))) rfl
theorem tw_852 : (Jvm.Cond.code ({ cls := "TraceProverModel", name := "position", desc := "(I)I" } : Jvm.MethodName) prog_12_method_51_code (2 : Nat) (Option.some Jvm.ClassFile.FieldType.int)) ∈ ew_tb := ew_mt (List.mem_append_right _ (List.mem_of_getElem? (i := 852) (by decide +kernel))) rfl
theorem tp_0 : Cond.selects "TraceProver$Points" ⟨"TraceProver$Points", "rowPoint", "(I)I"⟩ ⟨"TraceProver$Points", "rowPoint", "(I)I"⟩ ∈ ew_tb := ew_mt (List.mem_append_left _ (List.mem_of_getElem? (i := 0) (by decide +kernel))) rfl
theorem tp_1 : Cond.selects "TraceProver$Rules" ⟨"TraceProver$Rules", "isStepBroken", "(LTraceProver$Table;I)Z"⟩ ⟨"TraceProver$Rules", "isStepBroken", "(LTraceProver$Table;I)Z"⟩ ∈ ew_tb := ew_mt (List.mem_append_left _ (List.mem_of_getElem? (i := 1) (by decide +kernel))) rfl
theorem tp_2 : Cond.selects "TraceProver$Rules" ⟨"TraceProver$Rules", "termSum", "(I)I"⟩ ⟨"TraceProver$Rules", "termSum", "(I)I"⟩ ∈ ew_tb := ew_mt (List.mem_append_left _ (List.mem_of_getElem? (i := 2) (by decide +kernel))) rfl
theorem tp_3 : Cond.selects "TraceProver$Rules" ⟨"TraceProver$Rules", "isBoundBroken", "(LTraceProver$Table;I)Z"⟩ ⟨"TraceProver$Rules", "isBoundBroken", "(LTraceProver$Table;I)Z"⟩ ∈ ew_tb := ew_mt (List.mem_append_left _ (List.mem_of_getElem? (i := 3) (by decide +kernel))) rfl
theorem tp_4 : Cond.selects "TraceProver$Rules" ⟨"TraceProver$Rules", "boundRow", "(I)I"⟩ ⟨"TraceProver$Rules", "boundRow", "(I)I"⟩ ∈ ew_tb := ew_mt (List.mem_append_left _ (List.mem_of_getElem? (i := 4) (by decide +kernel))) rfl
theorem tp_5 : Cond.selects "TraceProver$Rules" ⟨"TraceProver$Rules", "boundColumn", "(I)I"⟩ ⟨"TraceProver$Rules", "boundColumn", "(I)I"⟩ ∈ ew_tb := ew_mt (List.mem_append_left _ (List.mem_of_getElem? (i := 5) (by decide +kernel))) rfl
theorem tp_6 : Cond.selects "TraceProver$Rules" ⟨"TraceProver$Rules", "boundValue", "(I)I"⟩ ⟨"TraceProver$Rules", "boundValue", "(I)I"⟩ ∈ ew_tb := ew_mt (List.mem_append_left _ (List.mem_of_getElem? (i := 6) (by decide +kernel))) rfl
theorem tp_7 : Cond.selects "TraceProver$Rules" ⟨"TraceProver$Rules", "constraintCount", "()I"⟩ ⟨"TraceProver$Rules", "constraintCount", "()I"⟩ ∈ ew_tb := ew_mt (List.mem_append_left _ (List.mem_of_getElem? (i := 7) (by decide +kernel))) rfl
theorem tp_8 : Cond.selects "TraceProver$Prover" ⟨"TraceProver$Prover", "commitColumns", "()I"⟩ ⟨"TraceProver$Prover", "commitColumns", "()I"⟩ ∈ ew_tb := ew_mt (List.mem_append_left _ (List.mem_of_getElem? (i := 8) (by decide +kernel))) rfl
theorem tp_9 : Cond.selects "TraceProver$Talk" ⟨"TraceProver$Talk", "challenge", "()I"⟩ ⟨"TraceProver$Talk", "challenge", "()I"⟩ ∈ ew_tb := ew_mt (List.mem_append_left _ (List.mem_of_getElem? (i := 9) (by decide +kernel))) rfl
theorem tp_10 : Cond.selects "TraceProver$Talk" ⟨"TraceProver$Talk", "draw", "(II)I"⟩ ⟨"TraceProver$Talk", "draw", "(II)I"⟩ ∈ ew_tb := ew_mt (List.mem_append_left _ (List.mem_of_getElem? (i := 10) (by decide +kernel))) rfl
theorem tp_11 : Cond.selects "TraceProver$Prover" ⟨"TraceProver$Prover", "compose", "()V"⟩ ⟨"TraceProver$Prover", "compose", "()V"⟩ ∈ ew_tb := ew_mt (List.mem_append_left _ (List.mem_of_getElem? (i := 11) (by decide +kernel))) rfl
theorem tp_12 : Cond.selects "TraceProver$Prover" ⟨"TraceProver$Prover", "foldInto", "(I)V"⟩ ⟨"TraceProver$Prover", "foldInto", "(I)V"⟩ ∈ ew_tb := ew_mt (List.mem_append_left _ (List.mem_of_getElem? (i := 12) (by decide +kernel))) rfl
theorem tp_13 : Cond.selects "TraceProver$Prover" ⟨"TraceProver$Prover", "folded", "(II)I"⟩ ⟨"TraceProver$Prover", "folded", "(II)I"⟩ ∈ ew_tb := ew_mt (List.mem_append_left _ (List.mem_of_getElem? (i := 13) (by decide +kernel))) rfl
theorem tp_14 : Cond.selects "TraceProver$Prover" ⟨"TraceProver$Prover", "commitLayer", "(I)I"⟩ ⟨"TraceProver$Prover", "commitLayer", "(I)I"⟩ ∈ ew_tb := ew_mt (List.mem_append_left _ (List.mem_of_getElem? (i := 14) (by decide +kernel))) rfl
theorem tp_15 : Cond.selects "TraceProver$Prover" ⟨"TraceProver$Prover", "openColumns", "([II)V"⟩ ⟨"TraceProver$Prover", "openColumns", "([II)V"⟩ ∈ ew_tb := ew_mt (List.mem_append_left _ (List.mem_of_getElem? (i := 15) (by decide +kernel))) rfl
theorem tp_16 : Cond.selects "TraceProver$Prover" ⟨"TraceProver$Prover", "openLayers", "([II)V"⟩ ⟨"TraceProver$Prover", "openLayers", "([II)V"⟩ ∈ ew_tb := ew_mt (List.mem_append_left _ (List.mem_of_getElem? (i := 16) (by decide +kernel))) rfl
theorem tp_17 : Cond.selects "TraceProver" ⟨"TraceProver", "isInProof", "(I)Z"⟩ ⟨"TraceProver", "isInProof", "(I)Z"⟩ ∈ ew_tb := ew_mt (List.mem_append_left _ (List.mem_of_getElem? (i := 17) (by decide +kernel))) rfl
theorem tp_18 : Cond.selects "TraceProver$Proof" ⟨"TraceProver$Proof", "areColumnsInField", "(I)Z"⟩ ⟨"TraceProver$Proof", "areColumnsInField", "(I)Z"⟩ ∈ ew_tb := ew_mt (List.mem_append_left _ (List.mem_of_getElem? (i := 18) (by decide +kernel))) rfl
theorem tp_19 : Cond.selects "TraceProver$Proof" ⟨"TraceProver$Proof", "areLayersInField", "(I)Z"⟩ ⟨"TraceProver$Proof", "areLayersInField", "(I)Z"⟩ ∈ ew_tb := ew_mt (List.mem_append_left _ (List.mem_of_getElem? (i := 19) (by decide +kernel))) rfl
theorem tp_20 : Cond.selects "TraceProver$Verifier" ⟨"TraceProver$Verifier", "listen", "()V"⟩ ⟨"TraceProver$Verifier", "listen", "()V"⟩ ∈ ew_tb := ew_mt (List.mem_append_left _ (List.mem_of_getElem? (i := 20) (by decide +kernel))) rfl
theorem tp_21 : Cond.selects "TraceProver$Verifier" ⟨"TraceProver$Verifier", "codeOf", "(I)I"⟩ ⟨"TraceProver$Verifier", "codeOf", "(I)I"⟩ ∈ ew_tb := ew_mt (List.mem_append_left _ (List.mem_of_getElem? (i := 21) (by decide +kernel))) rfl
theorem tp_22 : Cond.selects "TraceProver$Verifier" ⟨"TraceProver$Verifier", "doColumnPathsLead", "(I)Z"⟩ ⟨"TraceProver$Verifier", "doColumnPathsLead", "(I)Z"⟩ ∈ ew_tb := ew_mt (List.mem_append_left _ (List.mem_of_getElem? (i := 22) (by decide +kernel))) rfl
theorem tp_23 : Cond.selects "TraceProver$Verifier" ⟨"TraceProver$Verifier", "doLayerPathsLead", "(II)Z"⟩ ⟨"TraceProver$Verifier", "doLayerPathsLead", "(II)Z"⟩ ∈ ew_tb := ew_mt (List.mem_append_left _ (List.mem_of_getElem? (i := 23) (by decide +kernel))) rfl
theorem tp_24 : Cond.selects "TraceProver$Verifier" ⟨"TraceProver$Verifier", "isComposed", "(II)Z"⟩ ⟨"TraceProver$Verifier", "isComposed", "(II)Z"⟩ ∈ ew_tb := ew_mt (List.mem_append_left _ (List.mem_of_getElem? (i := 24) (by decide +kernel))) rfl
theorem tp_25 : Cond.selects "TraceProver$Verifier" ⟨"TraceProver$Verifier", "folded", "(II)I"⟩ ⟨"TraceProver$Verifier", "folded", "(II)I"⟩ ∈ ew_tb := ew_mt (List.mem_append_left _ (List.mem_of_getElem? (i := 25) (by decide +kernel))) rfl
theorem tp_26 : Cond.selects "TraceProver$Verifier" ⟨"TraceProver$Verifier", "valueBehind", "(II)I"⟩ ⟨"TraceProver$Verifier", "valueBehind", "(II)I"⟩ ∈ ew_tb := ew_mt (List.mem_append_left _ (List.mem_of_getElem? (i := 26) (by decide +kernel))) rfl
theorem tp_27 : Cond.selects "TraceProverModel" ⟨"TraceProverModel", "x", "(I)I"⟩ ⟨"TraceProverModel", "x", "(I)I"⟩ ∈ ew_tb := ew_mt (List.mem_append_left _ (List.mem_of_getElem? (i := 27) (by decide +kernel))) rfl
theorem tp_28 : Cond.selects "TraceProverModel" ⟨"TraceProverModel", "w", "(I)I"⟩ ⟨"TraceProverModel", "w", "(I)I"⟩ ∈ ew_tb := ew_mt (List.mem_append_left _ (List.mem_of_getElem? (i := 28) (by decide +kernel))) rfl
theorem tp_29 : Cond.selects "TraceProverModel" ⟨"TraceProverModel", "valueAt", "(II)I"⟩ ⟨"TraceProverModel", "valueAt", "(II)I"⟩ ∈ ew_tb := ew_mt (List.mem_append_left _ (List.mem_of_getElem? (i := 29) (by decide +kernel))) rfl
theorem tp_30 : Cond.selects "TraceProverModel" ⟨"TraceProverModel", "h", "(I)I"⟩ ⟨"TraceProverModel", "h", "(I)I"⟩ ∈ ew_tb := ew_mt (List.mem_append_left _ (List.mem_of_getElem? (i := 30) (by decide +kernel))) rfl
theorem tp_31 : Cond.selects "TraceProverModel" ⟨"TraceProverModel", "isWrong", "(I)Z"⟩ ⟨"TraceProverModel", "isWrong", "(I)Z"⟩ ∈ ew_tb := ew_mt (List.mem_append_left _ (List.mem_of_getElem? (i := 31) (by decide +kernel))) rfl
theorem tp_32 : Cond.selects "TraceProverModel" ⟨"TraceProverModel", "letters", "(IIII)V"⟩ ⟨"TraceProverModel", "letters", "(IIII)V"⟩ ∈ ew_tb := ew_mt (List.mem_append_left _ (List.mem_of_getElem? (i := 32) (by decide +kernel))) rfl
theorem tp_33 : Cond.selects "TraceProverModel" ⟨"TraceProverModel", "summed", "(I)I"⟩ ⟨"TraceProverModel", "summed", "(I)I"⟩ ∈ ew_tb := ew_mt (List.mem_append_left _ (List.mem_of_getElem? (i := 33) (by decide +kernel))) rfl
theorem tp_34 : Cond.selects "TraceProverModel" ⟨"TraceProverModel", "constraints", "()I"⟩ ⟨"TraceProverModel", "constraints", "()I"⟩ ∈ ew_tb := ew_mt (List.mem_append_left _ (List.mem_of_getElem? (i := 34) (by decide +kernel))) rfl
theorem tp_35 : Cond.selects "TraceProverModel" ⟨"TraceProverModel", "tellRules", "()V"⟩ ⟨"TraceProverModel", "tellRules", "()V"⟩ ∈ ew_tb := ew_mt (List.mem_append_left _ (List.mem_of_getElem? (i := 35) (by decide +kernel))) rfl
theorem tp_36 : Cond.selects "TraceProverModel" ⟨"TraceProverModel", "tell", "(I)V"⟩ ⟨"TraceProverModel", "tell", "(I)V"⟩ ∈ ew_tb := ew_mt (List.mem_append_left _ (List.mem_of_getElem? (i := 36) (by decide +kernel))) rfl
theorem tp_37 : Cond.selects "TraceProverModel" ⟨"TraceProverModel", "grow", "(I)I"⟩ ⟨"TraceProverModel", "grow", "(I)I"⟩ ∈ ew_tb := ew_mt (List.mem_append_left _ (List.mem_of_getElem? (i := 37) (by decide +kernel))) rfl
theorem tp_38 : Cond.selects "TraceProverModel" ⟨"TraceProverModel", "challenge", "()I"⟩ ⟨"TraceProverModel", "challenge", "()I"⟩ ∈ ew_tb := ew_mt (List.mem_append_left _ (List.mem_of_getElem? (i := 38) (by decide +kernel))) rfl
theorem tp_39 : Cond.selects "TraceProverModel" ⟨"TraceProverModel", "composition", "(I)I"⟩ ⟨"TraceProverModel", "composition", "(I)I"⟩ ∈ ew_tb := ew_mt (List.mem_append_left _ (List.mem_of_getElem? (i := 39) (by decide +kernel))) rfl
theorem tp_40 : Cond.selects "TraceProverModel" ⟨"TraceProverModel", "nextLayer", "(I)V"⟩ ⟨"TraceProverModel", "nextLayer", "(I)V"⟩ ∈ ew_tb := ew_mt (List.mem_append_left _ (List.mem_of_getElem? (i := 40) (by decide +kernel))) rfl
theorem tp_41 : Cond.selects "TraceProverModel" ⟨"TraceProverModel", "folded", "(IIII)I"⟩ ⟨"TraceProverModel", "folded", "(IIII)I"⟩ ∈ ew_tb := ew_mt (List.mem_append_left _ (List.mem_of_getElem? (i := 41) (by decide +kernel))) rfl
theorem tp_42 : Cond.selects "TraceProverModel" ⟨"TraceProverModel", "tellRest", "(I)V"⟩ ⟨"TraceProverModel", "tellRest", "(I)V"⟩ ∈ ew_tb := ew_mt (List.mem_append_left _ (List.mem_of_getElem? (i := 42) (by decide +kernel))) rfl
theorem tp_43 : Cond.selects "TraceProverModel" ⟨"TraceProverModel", "writeOpening", "(I)V"⟩ ⟨"TraceProverModel", "writeOpening", "(I)V"⟩ ∈ ew_tb := ew_mt (List.mem_append_left _ (List.mem_of_getElem? (i := 43) (by decide +kernel))) rfl
theorem tp_44 : Cond.selects "TraceProverModel" ⟨"TraceProverModel", "write", "(I)V"⟩ ⟨"TraceProverModel", "write", "(I)V"⟩ ∈ ew_tb := ew_mt (List.mem_append_left _ (List.mem_of_getElem? (i := 44) (by decide +kernel))) rfl
theorem tp_45 : Cond.selects "TraceProverModel" ⟨"TraceProverModel", "writePath", "(II)V"⟩ ⟨"TraceProverModel", "writePath", "(II)V"⟩ ∈ ew_tb := ew_mt (List.mem_append_left _ (List.mem_of_getElem? (i := 45) (by decide +kernel))) rfl
theorem tp_46 : Cond.selects "TraceProverModel" ⟨"TraceProverModel", "allNumbers", "()Z"⟩ ⟨"TraceProverModel", "allNumbers", "()Z"⟩ ∈ ew_tb := ew_mt (List.mem_append_left _ (List.mem_of_getElem? (i := 46) (by decide +kernel))) rfl
theorem tp_47 : Cond.selects "TraceProverModel" ⟨"TraceProverModel", "code", "(I)I"⟩ ⟨"TraceProverModel", "code", "(I)I"⟩ ∈ ew_tb := ew_mt (List.mem_append_left _ (List.mem_of_getElem? (i := 47) (by decide +kernel))) rfl
theorem tp_48 : Cond.selects "TraceProverModel" ⟨"TraceProverModel", "opens", "(II)Z"⟩ ⟨"TraceProverModel", "opens", "(II)Z"⟩ ∈ ew_tb := ew_mt (List.mem_append_left _ (List.mem_of_getElem? (i := 48) (by decide +kernel))) rfl
theorem tp_49 : Cond.selects "TraceProverModel" ⟨"TraceProverModel", "leads", "(IIII)Z"⟩ ⟨"TraceProverModel", "leads", "(IIII)Z"⟩ ∈ ew_tb := ew_mt (List.mem_append_left _ (List.mem_of_getElem? (i := 49) (by decide +kernel))) rfl
theorem tp_50 : Cond.selects "TraceProverModel" ⟨"TraceProverModel", "opensLayer", "(III)Z"⟩ ⟨"TraceProverModel", "opensLayer", "(III)Z"⟩ ∈ ew_tb := ew_mt (List.mem_append_left _ (List.mem_of_getElem? (i := 50) (by decide +kernel))) rfl
theorem tp_51 : Cond.selects "TraceProverModel" ⟨"TraceProverModel", "composes", "(II)Z"⟩ ⟨"TraceProverModel", "composes", "(II)Z"⟩ ∈ ew_tb := ew_mt (List.mem_append_left _ (List.mem_of_getElem? (i := 51) (by decide +kernel))) rfl
theorem tp_52 : Cond.selects "TraceProverModel" ⟨"TraceProverModel", "folds", "(III)Z"⟩ ⟨"TraceProverModel", "folds", "(III)Z"⟩ ∈ ew_tb := ew_mt (List.mem_append_left _ (List.mem_of_getElem? (i := 52) (by decide +kernel))) rfl
end
section
theorem k_P_init : ew_ok m_P_init 0 := ⟨tw_16, tw_1, by decide, ⟨by decide, by decide, by decide +kernel⟩, by decide, rfl⟩
theorem k_P_term : ew_ok m_P_term 4 := ⟨tw_241, tw_1, by decide, ⟨by decide, by decide, by decide +kernel⟩, by decide, rfl⟩
theorem k_P_bound : ew_ok m_P_bound 3 := ⟨tw_261, tw_1, by decide, ⟨by decide, by decide, by decide +kernel⟩, by decide, rfl⟩
theorem k_P_clear : ew_ok m_P_clear 0 := ⟨tw_272, tw_1, by decide, ⟨by decide, by decide, by decide +kernel⟩, by decide, rfl⟩
theorem k_P_set : ew_ok m_P_set 3 := ⟨tw_280, tw_1, by decide, ⟨by decide, by decide, by decide +kernel⟩, by decide, rfl⟩
theorem k_P_cell : ew_ok m_P_cell 2 := ⟨tw_288, tw_1, by decide, ⟨by decide, by decide, by decide +kernel⟩, by decide, rfl⟩
theorem k_P_at : ew_ok m_P_at 2 := ⟨tw_296, tw_1, by decide, ⟨by decide, by decide, by decide +kernel⟩, by decide, rfl⟩
theorem k_P_wrong : ew_ok m_P_wrong 0 := ⟨tw_314, tw_1, by decide, ⟨by decide, by decide, by decide +kernel⟩, by decide, rfl⟩
theorem k_P_prove : ew_ok m_P_prove 0 := ⟨tw_353, tw_1, by decide, ⟨by decide, by decide, by decide +kernel⟩, by decide, rfl⟩
theorem k_P_proof : ew_ok m_P_proof 1 := ⟨tw_498, tw_1, by decide, ⟨by decide, by decide, by decide +kernel⟩, by decide, rfl⟩
theorem k_P_alter : ew_ok m_P_alter 2 := ⟨tw_506, tw_1, by decide, ⟨by decide, by decide, by decide +kernel⟩, by decide, rfl⟩
theorem k_P_verify : ew_ok m_P_verify 0 := ⟨tw_510, tw_1, by decide, ⟨by decide, by decide, by decide +kernel⟩, by decide, rfl⟩
theorem k_P_position : ew_ok m_P_position 1 := ⟨tw_581, tw_1, by decide, ⟨by decide, by decide, by decide +kernel⟩, by decide, rfl⟩
theorem k_P_isInProof : ew_ok m_P_isInProof 1 := ⟨tw_502, tw_1, by decide, ⟨by decide, by decide, by decide +kernel⟩, by decide, rfl⟩
theorem k_P_isColumn : ew_ok m_P_isColumn 1 := ⟨tw_244, tw_1, by decide, ⟨by decide, by decide, by decide +kernel⟩, by decide, rfl⟩
theorem k_P_isCell : ew_ok m_P_isCell 2 := ⟨tw_264, tw_1, by decide, ⟨by decide, by decide, by decide +kernel⟩, by decide, rfl⟩
theorem k_P_isLetter : ew_ok m_P_isLetter 1 := ⟨tw_250, tw_1, by decide, ⟨by decide, by decide, by decide +kernel⟩, by decide, rfl⟩
theorem k_P_mix : ew_ok m_P_mix 2 := ⟨tw_377, tw_1, by decide, ⟨by decide, by decide, by decide +kernel⟩, by decide, rfl⟩
theorem k_P_stir : ew_ok m_P_stir 2 := ⟨tw_381, tw_1, by decide, ⟨by decide, by decide, by decide +kernel⟩, by decide, rfl⟩
theorem k_Mo_init : ew_ok m_Mo_init 0 := ⟨tw_587, tw_11, by decide, ⟨by decide, by decide, by decide +kernel⟩, by decide, rfl⟩
theorem k_Mo_mod : ew_ok m_Mo_mod 1 := ⟨tw_718, tw_11, by decide, ⟨by decide, by decide, by decide +kernel⟩, by decide, rfl⟩
theorem k_Mo_times : ew_ok m_Mo_times 2 := ⟨tw_594, tw_11, by decide, ⟨by decide, by decide, by decide +kernel⟩, by decide, rfl⟩
theorem k_Mo_power : ew_ok m_Mo_power 2 := ⟨tw_591, tw_11, by decide, ⟨by decide, by decide, by decide +kernel⟩, by decide, rfl⟩
theorem k_Mo_inverse : ew_ok m_Mo_inverse 1 := ⟨tw_721, tw_11, by decide, ⟨by decide, by decide, by decide +kernel⟩, by decide, rfl⟩
theorem k_Mo_isNumber : ew_ok m_Mo_isNumber 1 := ⟨tw_676, tw_11, by decide, ⟨by decide, by decide, by decide +kernel⟩, by decide, rfl⟩
theorem k_Mo_w : ew_ok m_Mo_w 1 := ⟨tw_707, tw_11, by decide, ⟨by decide, by decide, by decide +kernel⟩, by decide, rfl⟩
theorem k_Mo_x : ew_ok m_Mo_x 1 := ⟨tw_703, tw_11, by decide, ⟨by decide, by decide, by decide +kernel⟩, by decide, rfl⟩
theorem k_Mo_h : ew_ok m_Mo_h 1 := ⟨tw_715, tw_11, by decide, ⟨by decide, by decide, by decide +kernel⟩, by decide, rfl⟩
theorem k_Mo_mix : ew_ok m_Mo_mix 2 := ⟨tw_757, tw_11, by decide, ⟨by decide, by decide, by decide +kernel⟩, by decide, rfl⟩
theorem k_Mo_isColumn : ew_ok m_Mo_isColumn 1 := ⟨tw_673, tw_11, by decide, ⟨by decide, by decide, by decide +kernel⟩, by decide, rfl⟩
theorem k_Mo_isRow : ew_ok m_Mo_isRow 1 := ⟨tw_683, tw_11, by decide, ⟨by decide, by decide, by decide +kernel⟩, by decide, rfl⟩
theorem k_Mo_term : ew_ok m_Mo_term 4 := ⟨tw_670, tw_11, by decide, ⟨by decide, by decide, by decide +kernel⟩, by decide, rfl⟩
theorem k_Mo_bound : ew_ok m_Mo_bound 3 := ⟨tw_680, tw_11, by decide, ⟨by decide, by decide, by decide +kernel⟩, by decide, rfl⟩
theorem k_Mo_clear : ew_ok m_Mo_clear 0 := ⟨tw_687, tw_11, by decide, ⟨by decide, by decide, by decide +kernel⟩, by decide, rfl⟩
theorem k_Mo_set : ew_ok m_Mo_set 3 := ⟨tw_691, tw_11, by decide, ⟨by decide, by decide, by decide +kernel⟩, by decide, rfl⟩
theorem k_Mo_cell : ew_ok m_Mo_cell 2 := ⟨tw_695, tw_11, by decide, ⟨by decide, by decide, by decide +kernel⟩, by decide, rfl⟩
theorem k_Mo_constraints : ew_ok m_Mo_constraints 0 := ⟨tw_745, tw_11, by decide, ⟨by decide, by decide, by decide +kernel⟩, by decide, rfl⟩
theorem k_Mo_valueAt : ew_ok m_Mo_valueAt 2 := ⟨tw_711, tw_11, by decide, ⟨by decide, by decide, by decide +kernel⟩, by decide, rfl⟩
theorem k_Mo_at : ew_ok m_Mo_at 2 := ⟨tw_699, tw_11, by decide, ⟨by decide, by decide, by decide +kernel⟩, by decide, rfl⟩
theorem k_Mo_summed : ew_ok m_Mo_summed 1 := ⟨tw_737, tw_11, by decide, ⟨by decide, by decide, by decide +kernel⟩, by decide, rfl⟩
theorem k_Mo_letters : ew_ok m_Mo_letters 4 := ⟨tw_733, tw_11, by decide, ⟨by decide, by decide, by decide +kernel⟩, by decide, rfl⟩
theorem k_Mo_isWrong : ew_ok m_Mo_isWrong 1 := ⟨tw_729, tw_11, by decide, ⟨by decide, by decide, by decide +kernel⟩, by decide, rfl⟩
theorem k_Mo_wrong : ew_ok m_Mo_wrong 0 := ⟨tw_725, tw_11, by decide, ⟨by decide, by decide, by decide +kernel⟩, by decide, rfl⟩
theorem k_Mo_composition : ew_ok m_Mo_composition 1 := ⟨tw_781, tw_11, by decide, ⟨by decide, by decide, by decide +kernel⟩, by decide, rfl⟩
theorem k_Mo_folded : ew_ok m_Mo_folded 4 := ⟨tw_789, tw_11, by decide, ⟨by decide, by decide, by decide +kernel⟩, by decide, rfl⟩
theorem k_Mo_tell : ew_ok m_Mo_tell 1 := ⟨tw_754, tw_11, by decide, ⟨by decide, by decide, by decide +kernel⟩, by decide, rfl⟩
theorem k_Mo_challenge : ew_ok m_Mo_challenge 0 := ⟨tw_776, tw_11, by decide, ⟨by decide, by decide, by decide +kernel⟩, by decide, rfl⟩
theorem k_Mo_tellRules : ew_ok m_Mo_tellRules 0 := ⟨tw_750, tw_11, by decide, ⟨by decide, by decide, by decide +kernel⟩, by decide, rfl⟩
theorem k_Mo_tellRest : ew_ok m_Mo_tellRest 1 := ⟨tw_793, tw_11, by decide, ⟨by decide, by decide, by decide +kernel⟩, by decide, rfl⟩
theorem k_Mo_treeFrom : ew_ok m_Mo_treeFrom 1 := ⟨tw_766, tw_11, by decide, ⟨by decide, by decide, by decide +kernel⟩, by decide, rfl⟩
theorem k_Mo_leavesOf : ew_ok m_Mo_leavesOf 1 := ⟨tw_769, tw_11, by decide, ⟨by decide, by decide, by decide +kernel⟩, by decide, rfl⟩
theorem k_Mo_layerFrom : ew_ok m_Mo_layerFrom 1 := ⟨tw_772, tw_11, by decide, ⟨by decide, by decide, by decide +kernel⟩, by decide, rfl⟩
theorem k_Mo_grow : ew_ok m_Mo_grow 1 := ⟨tw_763, tw_11, by decide, ⟨by decide, by decide, by decide +kernel⟩, by decide, rfl⟩
theorem k_Mo_write : ew_ok m_Mo_write 1 := ⟨tw_801, tw_11, by decide, ⟨by decide, by decide, by decide +kernel⟩, by decide, rfl⟩
theorem k_Mo_writePath : ew_ok m_Mo_writePath 2 := ⟨tw_805, tw_11, by decide, ⟨by decide, by decide, by decide +kernel⟩, by decide, rfl⟩
theorem k_Mo_writeOpening : ew_ok m_Mo_writeOpening 1 := ⟨tw_797, tw_11, by decide, ⟨by decide, by decide, by decide +kernel⟩, by decide, rfl⟩
theorem k_Mo_nextLayer : ew_ok m_Mo_nextLayer 1 := ⟨tw_785, tw_11, by decide, ⟨by decide, by decide, by decide +kernel⟩, by decide, rfl⟩
theorem k_Mo_prove : ew_ok m_Mo_prove 0 := ⟨tw_741, tw_11, by decide, ⟨by decide, by decide, by decide +kernel⟩, by decide, rfl⟩
theorem k_Mo_proof : ew_ok m_Mo_proof 1 := ⟨tw_809, tw_11, by decide, ⟨by decide, by decide, by decide +kernel⟩, by decide, rfl⟩
theorem k_Mo_alter : ew_ok m_Mo_alter 2 := ⟨tw_813, tw_11, by decide, ⟨by decide, by decide, by decide +kernel⟩, by decide, rfl⟩
theorem k_Mo_placeOf : ew_ok m_Mo_placeOf 2 := ⟨tw_824, tw_11, by decide, ⟨by decide, by decide, by decide +kernel⟩, by decide, rfl⟩
theorem k_Mo_allNumbers : ew_ok m_Mo_allNumbers 0 := ⟨tw_821, tw_11, by decide, ⟨by decide, by decide, by decide +kernel⟩, by decide, rfl⟩
theorem k_Mo_leads : ew_ok m_Mo_leads 4 := ⟨tw_836, tw_11, by decide, ⟨by decide, by decide, by decide +kernel⟩, by decide, rfl⟩
theorem k_Mo_opens : ew_ok m_Mo_opens 2 := ⟨tw_832, tw_11, by decide, ⟨by decide, by decide, by decide +kernel⟩, by decide, rfl⟩
theorem k_Mo_opensLayer : ew_ok m_Mo_opensLayer 3 := ⟨tw_840, tw_11, by decide, ⟨by decide, by decide, by decide +kernel⟩, by decide, rfl⟩
theorem k_Mo_composes : ew_ok m_Mo_composes 2 := ⟨tw_844, tw_11, by decide, ⟨by decide, by decide, by decide +kernel⟩, by decide, rfl⟩
theorem k_Mo_folds : ew_ok m_Mo_folds 3 := ⟨tw_848, tw_11, by decide, ⟨by decide, by decide, by decide +kernel⟩, by decide, rfl⟩
theorem k_Mo_code : ew_ok m_Mo_code 1 := ⟨tw_828, tw_11, by decide, ⟨by decide, by decide, by decide +kernel⟩, by decide, rfl⟩
theorem k_Mo_verify : ew_ok m_Mo_verify 0 := ⟨tw_817, tw_11, by decide, ⟨by decide, by decide, by decide +kernel⟩, by decide, rfl⟩
theorem k_Mo_position : ew_ok m_Mo_position 1 := ⟨tw_852, tw_11, by decide, ⟨by decide, by decide, by decide +kernel⟩, by decide, rfl⟩
theorem k_Fi_holds : ew_ok m_Fi_holds 1 := ⟨tw_247, tw_3, by decide, ⟨by decide, by decide, by decide +kernel⟩, by decide, rfl⟩
theorem k_Fi_plus : ew_ok m_Fi_plus 2 := ⟨tw_310, tw_3, by decide, ⟨by decide, by decide, by decide +kernel⟩, by decide, rfl⟩
theorem k_Fi_minus : ew_ok m_Fi_minus 2 := ⟨tw_39, tw_3, by decide, ⟨by decide, by decide, by decide +kernel⟩, by decide, rfl⟩
theorem k_Fi_times : ew_ok m_Fi_times 2 := ⟨tw_31, tw_3, by decide, ⟨by decide, by decide, by decide +kernel⟩, by decide, rfl⟩
theorem k_Fi_power : ew_ok m_Fi_power 2 := ⟨tw_28, tw_3, by decide, ⟨by decide, by decide, by decide +kernel⟩, by decide, rfl⟩
theorem k_Fi_inverse : ew_ok m_Fi_inverse 1 := ⟨tw_35, tw_3, by decide, ⟨by decide, by decide, by decide +kernel⟩, by decide, rfl⟩
theorem k_Pt_init : ew_ok m_Pt_init 0 := ⟨tw_24, tw_2, by decide, ⟨by decide, by decide, by decide +kernel⟩, by decide, rfl⟩
theorem k_Pt_rowPoint : ew_ok m_Pt_rowPoint 1 := ⟨tw_43, tw_2, by decide, ⟨by decide, by decide, by decide +kernel⟩, by decide, rfl⟩
theorem k_Pt_constraintFactor : ew_ok m_Pt_constraintFactor 1 := ⟨tw_433, tw_2, by decide, ⟨by decide, by decide, by decide +kernel⟩, by decide, rfl⟩
theorem k_Pt_boundFactor : ew_ok m_Pt_boundFactor 2 := ⟨tw_438, tw_2, by decide, ⟨by decide, by decide, by decide +kernel⟩, by decide, rfl⟩
theorem k_Pt_interpolate : ew_ok m_Pt_interpolate 2 := ⟨tw_304, tw_2, by decide, ⟨by decide, by decide, by decide +kernel⟩, by decide, rfl⟩
theorem k_Pt_rowsBefore : ew_ok m_Pt_rowsBefore 2 := ⟨tw_307, tw_2, by decide, ⟨by decide, by decide, by decide +kernel⟩, by decide, rfl⟩
theorem k_Pt_rowBehind : ew_ok m_Pt_rowBehind 1 := ⟨tw_424, tw_2, by decide, ⟨by decide, by decide, by decide +kernel⟩, by decide, rfl⟩
theorem k_Pt_fold : ew_ok m_Pt_fold 5 := ⟨tw_450, tw_2, by decide, ⟨by decide, by decide, by decide +kernel⟩, by decide, rfl⟩
theorem k_Pf_init : ew_ok m_Pf_init 0 := ⟨tw_106, tw_6, by decide, ⟨by decide, by decide, by decide +kernel⟩, by decide, rfl⟩
theorem k_Pf_columnStart : ew_ok m_Pf_columnStart 2 := ⟨tw_477, tw_6, by decide, ⟨by decide, by decide, by decide +kernel⟩, by decide, rfl⟩
theorem k_Pf_columnIndex : ew_ok m_Pf_columnIndex 2 := ⟨tw_472, tw_6, by decide, ⟨by decide, by decide, by decide +kernel⟩, by decide, rfl⟩
theorem k_Pf_layerStart : ew_ok m_Pf_layerStart 3 := ⟨tw_492, tw_6, by decide, ⟨by decide, by decide, by decide +kernel⟩, by decide, rfl⟩
theorem k_Pf_layerIndex : ew_ok m_Pf_layerIndex 3 := ⟨tw_488, tw_6, by decide, ⟨by decide, by decide, by decide +kernel⟩, by decide, rfl⟩
theorem k_Pf_layerSize : ew_ok m_Pf_layerSize 1 := ⟨tw_163, tw_6, by decide, ⟨by decide, by decide, by decide +kernel⟩, by decide, rfl⟩
theorem k_Pf_columnLeaf : ew_ok m_Pf_columnLeaf 2 := ⟨tw_374, tw_6, by decide, ⟨by decide, by decide, by decide +kernel⟩, by decide, rfl⟩
theorem k_Pf_layerLeaf : ew_ok m_Pf_layerLeaf 1 := ⟨tw_457, tw_6, by decide, ⟨by decide, by decide, by decide +kernel⟩, by decide, rfl⟩
theorem k_Pf_isInField : ew_ok m_Pf_isInField 0 := ⟨tw_518, tw_6, by decide, ⟨by decide, by decide, by decide +kernel⟩, by decide, rfl⟩
theorem k_Pf_areColumnsInField : ew_ok m_Pf_areColumnsInField 1 := ⟨tw_523, tw_6, by decide, ⟨by decide, by decide, by decide +kernel⟩, by decide, rfl⟩
theorem k_Pf_areLayersInField : ew_ok m_Pf_areLayersInField 1 := ⟨tw_528, tw_6, by decide, ⟨by decide, by decide, by decide +kernel⟩, by decide, rfl⟩
theorem k_Pr_init : ew_ok m_Pr_init 3 := ⟨tw_119, tw_7, by decide, ⟨by decide, by decide, by decide +kernel⟩, by decide, rfl⟩
theorem k_Pr_writeTo : ew_ok m_Pr_writeTo 1 := ⟨tw_366, tw_7, by decide, ⟨by decide, by decide, by decide +kernel⟩, by decide, rfl⟩
theorem k_Pr_commitColumns : ew_ok m_Pr_commitColumns 0 := ⟨tw_370, tw_7, by decide, ⟨by decide, by decide, by decide +kernel⟩, by decide, rfl⟩
theorem k_Pr_compose : ew_ok m_Pr_compose 0 := ⟨tw_421, tw_7, by decide, ⟨by decide, by decide, by decide +kernel⟩, by decide, rfl⟩
theorem k_Pr_foldInto : ew_ok m_Pr_foldInto 1 := ⟨tw_442, tw_7, by decide, ⟨by decide, by decide, by decide +kernel⟩, by decide, rfl⟩
theorem k_Pr_folded : ew_ok m_Pr_folded 2 := ⟨tw_446, tw_7, by decide, ⟨by decide, by decide, by decide +kernel⟩, by decide, rfl⟩
theorem k_Pr_commitLayer : ew_ok m_Pr_commitLayer 1 := ⟨tw_454, tw_7, by decide, ⟨by decide, by decide, by decide +kernel⟩, by decide, rfl⟩
theorem k_Pr_openColumns : ew_ok m_Pr_openColumns 2 := ⟨tw_469, tw_7, by decide, ⟨by decide, by decide, by decide +kernel⟩, by decide, rfl⟩
theorem k_Pr_openLayers : ew_ok m_Pr_openLayers 2 := ⟨tw_485, tw_7, by decide, ⟨by decide, by decide, by decide +kernel⟩, by decide, rfl⟩
theorem k_Ru_init : ew_ok m_Ru_init 1 := ⟨tw_65, tw_4, by decide, ⟨by decide, by decide, by decide +kernel⟩, by decide, rfl⟩
theorem k_Ru_addTerm : ew_ok m_Ru_addTerm 4 := ⟨tw_254, tw_4, by decide, ⟨by decide, by decide, by decide +kernel⟩, by decide, rfl⟩
theorem k_Ru_addBound : ew_ok m_Ru_addBound 3 := ⟨tw_268, tw_4, by decide, ⟨by decide, by decide, by decide +kernel⟩, by decide, rfl⟩
theorem k_Ru_write : ew_ok m_Ru_write 5 := ⟨tw_257, tw_4, by decide, ⟨by decide, by decide, by decide +kernel⟩, by decide, rfl⟩
theorem k_Ru_dropAll : ew_ok m_Ru_dropAll 0 := ⟨tw_276, tw_4, by decide, ⟨by decide, by decide, by decide +kernel⟩, by decide, rfl⟩
theorem k_Ru_areNone : ew_ok m_Ru_areNone 0 := ⟨tw_357, tw_4, by decide, ⟨by decide, by decide, by decide +kernel⟩, by decide, rfl⟩
theorem k_Ru_constraintCount : ew_ok m_Ru_constraintCount 0 := ⟨tw_361, tw_4, by decide, ⟨by decide, by decide, by decide +kernel⟩, by decide, rfl⟩
theorem k_Ru_tellTo : ew_ok m_Ru_tellTo 1 := ⟨tw_399, tw_4, by decide, ⟨by decide, by decide, by decide +kernel⟩, by decide, rfl⟩
theorem k_Ru_tellParts : ew_ok m_Ru_tellParts 3 := ⟨tw_407, tw_4, by decide, ⟨by decide, by decide, by decide +kernel⟩, by decide, rfl⟩
theorem k_Ru_areBrokenIn : ew_ok m_Ru_areBrokenIn 2 := ⟨tw_318, tw_4, by decide, ⟨by decide, by decide, by decide +kernel⟩, by decide, rfl⟩
theorem k_Ru_isStepBroken : ew_ok m_Ru_isStepBroken 2 := ⟨tw_322, tw_4, by decide, ⟨by decide, by decide, by decide +kernel⟩, by decide, rfl⟩
theorem k_Ru_isBoundBroken : ew_ok m_Ru_isBoundBroken 2 := ⟨tw_337, tw_4, by decide, ⟨by decide, by decide, by decide +kernel⟩, by decide, rfl⟩
theorem k_Ru_read : ew_ok m_Ru_read 4 := ⟨tw_327, tw_4, by decide, ⟨by decide, by decide, by decide +kernel⟩, by decide, rfl⟩
theorem k_Ru_termSum : ew_ok m_Ru_termSum 1 := ⟨tw_331, tw_4, by decide, ⟨by decide, by decide, by decide +kernel⟩, by decide, rfl⟩
theorem k_Ru_composition : ew_ok m_Ru_composition 2 := ⟨tw_429, tw_4, by decide, ⟨by decide, by decide, by decide +kernel⟩, by decide, rfl⟩
theorem k_Ru_boundColumn : ew_ok m_Ru_boundColumn 1 := ⟨tw_345, tw_4, by decide, ⟨by decide, by decide, by decide +kernel⟩, by decide, rfl⟩
theorem k_Ru_boundRow : ew_ok m_Ru_boundRow 1 := ⟨tw_341, tw_4, by decide, ⟨by decide, by decide, by decide +kernel⟩, by decide, rfl⟩
theorem k_Ru_boundValue : ew_ok m_Ru_boundValue 1 := ⟨tw_349, tw_4, by decide, ⟨by decide, by decide, by decide +kernel⟩, by decide, rfl⟩
theorem k_Ta_init : ew_ok m_Ta_init 1 := ⟨tw_92, tw_5, by decide, ⟨by decide, by decide, by decide +kernel⟩, by decide, rfl⟩
theorem k_Ta_put : ew_ok m_Ta_put 3 := ⟨tw_284, tw_5, by decide, ⟨by decide, by decide, by decide +kernel⟩, by decide, rfl⟩
theorem k_Ta_get : ew_ok m_Ta_get 2 := ⟨tw_292, tw_5, by decide, ⟨by decide, by decide, by decide +kernel⟩, by decide, rfl⟩
theorem k_Ta_polynomial : ew_ok m_Ta_polynomial 2 := ⟨tw_300, tw_5, by decide, ⟨by decide, by decide, by decide +kernel⟩, by decide, rfl⟩
theorem k_Tk_init : ew_ok m_Tk_init 0 := ⟨tw_125, tw_8, by decide, ⟨by decide, by decide, by decide +kernel⟩, by decide, rfl⟩
theorem k_Tk_tell : ew_ok m_Tk_tell 1 := ⟨tw_403, tw_8, by decide, ⟨by decide, by decide, by decide +kernel⟩, by decide, rfl⟩
theorem k_Tk_draw : ew_ok m_Tk_draw 2 := ⟨tw_416, tw_8, by decide, ⟨by decide, by decide, by decide +kernel⟩, by decide, rfl⟩
theorem k_Tk_challenge : ew_ok m_Tk_challenge 0 := ⟨tw_412, tw_8, by decide, ⟨by decide, by decide, by decide +kernel⟩, by decide, rfl⟩
theorem k_Tk_begin : ew_ok m_Tk_begin 2 := ⟨tw_395, tw_8, by decide, ⟨by decide, by decide, by decide +kernel⟩, by decide, rfl⟩
theorem k_Tk_hearLayer : ew_ok m_Tk_hearLayer 2 := ⟨tw_461, tw_8, by decide, ⟨by decide, by decide, by decide +kernel⟩, by decide, rfl⟩
theorem k_Tk_end : ew_ok m_Tk_end 1 := ⟨tw_465, tw_8, by decide, ⟨by decide, by decide, by decide +kernel⟩, by decide, rfl⟩
theorem k_Tr_init : ew_ok m_Tr_init 1 := ⟨tw_151, tw_9, by decide, ⟨by decide, by decide, by decide +kernel⟩, by decide, rfl⟩
theorem k_Tr_plant : ew_ok m_Tr_plant 2 := ⟨tw_386, tw_9, by decide, ⟨by decide, by decide, by decide +kernel⟩, by decide, rfl⟩
theorem k_Tr_grow : ew_ok m_Tr_grow 0 := ⟨tw_390, tw_9, by decide, ⟨by decide, by decide, by decide +kernel⟩, by decide, rfl⟩
theorem k_Tr_copyPath : ew_ok m_Tr_copyPath 3 := ⟨tw_481, tw_9, by decide, ⟨by decide, by decide, by decide +kernel⟩, by decide, rfl⟩
theorem k_Tr_rootOf : ew_ok m_Tr_rootOf 5 := ⟨tw_554, tw_9, by decide, ⟨by decide, by decide, by decide +kernel⟩, by decide, rfl⟩
theorem k_Ve_init : ew_ok m_Ve_init 3 := ⟨tw_193, tw_10, by decide, ⟨by decide, by decide, by decide +kernel⟩, by decide, rfl⟩
theorem k_Ve_place : ew_ok m_Ve_place 1 := ⟨tw_548, tw_10, by decide, ⟨by decide, by decide, by decide +kernel⟩, by decide, rfl⟩
theorem k_Ve_code : ew_ok m_Ve_code 0 := ⟨tw_514, tw_10, by decide, ⟨by decide, by decide, by decide +kernel⟩, by decide, rfl⟩
theorem k_Ve_listen : ew_ok m_Ve_listen 0 := ⟨tw_533, tw_10, by decide, ⟨by decide, by decide, by decide +kernel⟩, by decide, rfl⟩
theorem k_Ve_codeOf : ew_ok m_Ve_codeOf 1 := ⟨tw_540, tw_10, by decide, ⟨by decide, by decide, by decide +kernel⟩, by decide, rfl⟩
theorem k_Ve_doColumnPathsLead : ew_ok m_Ve_doColumnPathsLead 1 := ⟨tw_544, tw_10, by decide, ⟨by decide, by decide, by decide +kernel⟩, by decide, rfl⟩
theorem k_Ve_doLayerPathsLead : ew_ok m_Ve_doLayerPathsLead 2 := ⟨tw_558, tw_10, by decide, ⟨by decide, by decide, by decide +kernel⟩, by decide, rfl⟩
theorem k_Ve_isComposed : ew_ok m_Ve_isComposed 2 := ⟨tw_566, tw_10, by decide, ⟨by decide, by decide, by decide +kernel⟩, by decide, rfl⟩
theorem k_Ve_folded : ew_ok m_Ve_folded 2 := ⟨tw_572, tw_10, by decide, ⟨by decide, by decide, by decide +kernel⟩, by decide, rfl⟩
theorem k_Ve_valueBehind : ew_ok m_Ve_valueBehind 2 := ⟨tw_577, tw_10, by decide, ⟨by decide, by decide, by decide +kernel⟩, by decide, rfl⟩
end
section
theorem d_P_init_0 : decode m_P_init.2.2.1 0 = .ok (.aload_n 0, 1) := by decide +kernel
theorem d_P_init_1 : decode m_P_init.2.2.1 1 = .ok (.invokespecial 1, 3) := by decide +kernel
theorem d_P_init_4 : decode m_P_init.2.2.1 4 = .ok (.aload_n 0, 1) := by decide +kernel
theorem d_P_init_5 : decode m_P_init.2.2.1 5 = .ok (.new 7, 3) := by decide +kernel
theorem d_P_init_8 : decode m_P_init.2.2.1 8 = .ok (.dup, 1) := by decide +kernel
theorem d_P_init_9 : decode m_P_init.2.2.1 9 = .ok (.invokespecial 9, 3) := by decide +kernel
theorem d_P_init_12 : decode m_P_init.2.2.1 12 = .ok (.putfield 10, 3) := by decide +kernel
theorem d_P_init_15 : decode m_P_init.2.2.1 15 = .ok (.aload_n 0, 1) := by decide +kernel
theorem d_P_init_16 : decode m_P_init.2.2.1 16 = .ok (.new 16, 3) := by decide +kernel
theorem d_P_init_19 : decode m_P_init.2.2.1 19 = .ok (.dup, 1) := by decide +kernel
theorem d_P_init_20 : decode m_P_init.2.2.1 20 = .ok (.aload_n 0, 1) := by decide +kernel
theorem d_P_init_21 : decode m_P_init.2.2.1 21 = .ok (.getfield 10, 3) := by decide +kernel
theorem d_P_init_24 : decode m_P_init.2.2.1 24 = .ok (.invokespecial 18, 3) := by decide +kernel
theorem d_P_init_27 : decode m_P_init.2.2.1 27 = .ok (.putfield 21, 3) := by decide +kernel
theorem d_P_init_30 : decode m_P_init.2.2.1 30 = .ok (.aload_n 0, 1) := by decide +kernel
theorem d_P_init_31 : decode m_P_init.2.2.1 31 = .ok (.new 25, 3) := by decide +kernel
theorem d_P_init_34 : decode m_P_init.2.2.1 34 = .ok (.dup, 1) := by decide +kernel
theorem d_P_init_35 : decode m_P_init.2.2.1 35 = .ok (.aload_n 0, 1) := by decide +kernel
theorem d_P_init_36 : decode m_P_init.2.2.1 36 = .ok (.getfield 10, 3) := by decide +kernel
theorem d_P_init_39 : decode m_P_init.2.2.1 39 = .ok (.invokespecial 27, 3) := by decide +kernel
theorem d_P_init_42 : decode m_P_init.2.2.1 42 = .ok (.putfield 28, 3) := by decide +kernel
theorem d_P_init_45 : decode m_P_init.2.2.1 45 = .ok (.aload_n 0, 1) := by decide +kernel
theorem d_P_init_46 : decode m_P_init.2.2.1 46 = .ok (.new 32, 3) := by decide +kernel
theorem d_P_init_49 : decode m_P_init.2.2.1 49 = .ok (.dup, 1) := by decide +kernel
theorem d_P_init_50 : decode m_P_init.2.2.1 50 = .ok (.invokespecial 34, 3) := by decide +kernel
theorem d_P_init_53 : decode m_P_init.2.2.1 53 = .ok (.putfield 35, 3) := by decide +kernel
theorem d_P_init_56 : decode m_P_init.2.2.1 56 = .ok (.aload_n 0, 1) := by decide +kernel
theorem d_P_init_57 : decode m_P_init.2.2.1 57 = .ok (.new 39, 3) := by decide +kernel
theorem d_P_init_60 : decode m_P_init.2.2.1 60 = .ok (.dup, 1) := by decide +kernel
theorem d_P_init_61 : decode m_P_init.2.2.1 61 = .ok (.aload_n 0, 1) := by decide +kernel
theorem d_P_init_62 : decode m_P_init.2.2.1 62 = .ok (.getfield 10, 3) := by decide +kernel
theorem d_P_init_65 : decode m_P_init.2.2.1 65 = .ok (.aload_n 0, 1) := by decide +kernel
theorem d_P_init_66 : decode m_P_init.2.2.1 66 = .ok (.getfield 21, 3) := by decide +kernel
theorem d_P_init_69 : decode m_P_init.2.2.1 69 = .ok (.aload_n 0, 1) := by decide +kernel
theorem d_P_init_70 : decode m_P_init.2.2.1 70 = .ok (.getfield 28, 3) := by decide +kernel
theorem d_P_init_73 : decode m_P_init.2.2.1 73 = .ok (.invokespecial 41, 3) := by decide +kernel
theorem d_P_init_76 : decode m_P_init.2.2.1 76 = .ok (.putfield 44, 3) := by decide +kernel
theorem d_P_init_79 : decode m_P_init.2.2.1 79 = .ok (.aload_n 0, 1) := by decide +kernel
theorem d_P_init_80 : decode m_P_init.2.2.1 80 = .ok (.new 48, 3) := by decide +kernel
theorem d_P_init_83 : decode m_P_init.2.2.1 83 = .ok (.dup, 1) := by decide +kernel
theorem d_P_init_84 : decode m_P_init.2.2.1 84 = .ok (.aload_n 0, 1) := by decide +kernel
theorem d_P_init_85 : decode m_P_init.2.2.1 85 = .ok (.getfield 10, 3) := by decide +kernel
theorem d_P_init_88 : decode m_P_init.2.2.1 88 = .ok (.aload_n 0, 1) := by decide +kernel
theorem d_P_init_89 : decode m_P_init.2.2.1 89 = .ok (.getfield 21, 3) := by decide +kernel
theorem d_P_init_92 : decode m_P_init.2.2.1 92 = .ok (.aload_n 0, 1) := by decide +kernel
theorem d_P_init_93 : decode m_P_init.2.2.1 93 = .ok (.getfield 35, 3) := by decide +kernel
theorem d_P_init_96 : decode m_P_init.2.2.1 96 = .ok (.invokespecial 50, 3) := by decide +kernel
theorem d_P_init_99 : decode m_P_init.2.2.1 99 = .ok (.putfield 53, 3) := by decide +kernel
theorem d_P_init_102 : decode m_P_init.2.2.1 102 = .ok (.aload_n 0, 1) := by decide +kernel
theorem d_P_init_103 : decode m_P_init.2.2.1 103 = .ok (.iconst 0, 1) := by decide +kernel
theorem d_P_init_104 : decode m_P_init.2.2.1 104 = .ok (.putfield 57, 3) := by decide +kernel
theorem d_P_init_107 : decode m_P_init.2.2.1 107 = .ok (.aload_n 0, 1) := by decide +kernel
theorem d_P_init_108 : decode m_P_init.2.2.1 108 = .ok (.iconst 0, 1) := by decide +kernel
theorem d_P_init_109 : decode m_P_init.2.2.1 109 = .ok (.putfield 61, 3) := by decide +kernel
theorem d_P_init_112 : decode m_P_init.2.2.1 112 = .ok (.return_, 1) := by decide +kernel
theorem d_P_term_0 : decode m_P_term.2.2.1 0 = .ok (.iload_n 1, 1) := by decide +kernel
theorem d_P_term_1 : decode m_P_term.2.2.1 1 = .ok (.invokestatic 64, 3) := by decide +kernel
theorem d_P_term_4 : decode m_P_term.2.2.1 4 = .ok (.ifCond .eq (25), 3) := by decide +kernel
theorem d_P_term_7 : decode m_P_term.2.2.1 7 = .ok (.iload_n 2, 1) := by decide +kernel
theorem d_P_term_8 : decode m_P_term.2.2.1 8 = .ok (.invokestatic 68, 3) := by decide +kernel
theorem d_P_term_11 : decode m_P_term.2.2.1 11 = .ok (.ifCond .eq (18), 3) := by decide +kernel
theorem d_P_term_14 : decode m_P_term.2.2.1 14 = .ok (.iload_n 3, 1) := by decide +kernel
theorem d_P_term_15 : decode m_P_term.2.2.1 15 = .ok (.invokestatic 73, 3) := by decide +kernel
theorem d_P_term_18 : decode m_P_term.2.2.1 18 = .ok (.ifCond .eq (11), 3) := by decide +kernel
theorem d_P_term_21 : decode m_P_term.2.2.1 21 = .ok (.iload 4, 2) := by decide +kernel
theorem d_P_term_23 : decode m_P_term.2.2.1 23 = .ok (.invokestatic 73, 3) := by decide +kernel
theorem d_P_term_26 : decode m_P_term.2.2.1 26 = .ok (.ifCond .ne (5), 3) := by decide +kernel
theorem d_P_term_29 : decode m_P_term.2.2.1 29 = .ok (.iconst (-1), 1) := by decide +kernel
theorem d_P_term_30 : decode m_P_term.2.2.1 30 = .ok (.ireturn, 1) := by decide +kernel
theorem d_P_term_31 : decode m_P_term.2.2.1 31 = .ok (.aload_n 0, 1) := by decide +kernel
theorem d_P_term_32 : decode m_P_term.2.2.1 32 = .ok (.getfield 21, 3) := by decide +kernel
theorem d_P_term_35 : decode m_P_term.2.2.1 35 = .ok (.iload_n 1, 1) := by decide +kernel
theorem d_P_term_36 : decode m_P_term.2.2.1 36 = .ok (.iload_n 2, 1) := by decide +kernel
theorem d_P_term_37 : decode m_P_term.2.2.1 37 = .ok (.iload_n 3, 1) := by decide +kernel
theorem d_P_term_38 : decode m_P_term.2.2.1 38 = .ok (.iload 4, 2) := by decide +kernel
theorem d_P_term_40 : decode m_P_term.2.2.1 40 = .ok (.invokevirtual 76, 3) := by decide +kernel
theorem d_P_term_43 : decode m_P_term.2.2.1 43 = .ok (.ireturn, 1) := by decide +kernel
theorem d_P_bound_0 : decode m_P_bound.2.2.1 0 = .ok (.iload_n 1, 1) := by decide +kernel
theorem d_P_bound_1 : decode m_P_bound.2.2.1 1 = .ok (.iload_n 2, 1) := by decide +kernel
theorem d_P_bound_2 : decode m_P_bound.2.2.1 2 = .ok (.invokestatic 80, 3) := by decide +kernel
theorem d_P_bound_5 : decode m_P_bound.2.2.1 5 = .ok (.ifCond .eq (10), 3) := by decide +kernel
theorem d_P_bound_8 : decode m_P_bound.2.2.1 8 = .ok (.iload_n 3, 1) := by decide +kernel
theorem d_P_bound_9 : decode m_P_bound.2.2.1 9 = .ok (.invokestatic 68, 3) := by decide +kernel
theorem d_P_bound_12 : decode m_P_bound.2.2.1 12 = .ok (.ifCond .ne (5), 3) := by decide +kernel
theorem d_P_bound_15 : decode m_P_bound.2.2.1 15 = .ok (.iconst (-1), 1) := by decide +kernel
theorem d_P_bound_16 : decode m_P_bound.2.2.1 16 = .ok (.ireturn, 1) := by decide +kernel
theorem d_P_bound_17 : decode m_P_bound.2.2.1 17 = .ok (.aload_n 0, 1) := by decide +kernel
theorem d_P_bound_18 : decode m_P_bound.2.2.1 18 = .ok (.getfield 21, 3) := by decide +kernel
theorem d_P_bound_21 : decode m_P_bound.2.2.1 21 = .ok (.iload_n 1, 1) := by decide +kernel
theorem d_P_bound_22 : decode m_P_bound.2.2.1 22 = .ok (.iload_n 2, 1) := by decide +kernel
theorem d_P_bound_23 : decode m_P_bound.2.2.1 23 = .ok (.iload_n 3, 1) := by decide +kernel
theorem d_P_bound_24 : decode m_P_bound.2.2.1 24 = .ok (.invokevirtual 84, 3) := by decide +kernel
theorem d_P_bound_27 : decode m_P_bound.2.2.1 27 = .ok (.ireturn, 1) := by decide +kernel
theorem d_P_clear_0 : decode m_P_clear.2.2.1 0 = .ok (.aload_n 0, 1) := by decide +kernel
theorem d_P_clear_1 : decode m_P_clear.2.2.1 1 = .ok (.getfield 21, 3) := by decide +kernel
theorem d_P_clear_4 : decode m_P_clear.2.2.1 4 = .ok (.invokevirtual 88, 3) := by decide +kernel
theorem d_P_clear_7 : decode m_P_clear.2.2.1 7 = .ok (.return_, 1) := by decide +kernel
theorem d_P_set_0 : decode m_P_set.2.2.1 0 = .ok (.iload_n 1, 1) := by decide +kernel
theorem d_P_set_1 : decode m_P_set.2.2.1 1 = .ok (.iload_n 2, 1) := by decide +kernel
theorem d_P_set_2 : decode m_P_set.2.2.1 2 = .ok (.invokestatic 80, 3) := by decide +kernel
theorem d_P_set_5 : decode m_P_set.2.2.1 5 = .ok (.ifCond .eq (10), 3) := by decide +kernel
theorem d_P_set_8 : decode m_P_set.2.2.1 8 = .ok (.iload_n 3, 1) := by decide +kernel
theorem d_P_set_9 : decode m_P_set.2.2.1 9 = .ok (.invokestatic 68, 3) := by decide +kernel
theorem d_P_set_12 : decode m_P_set.2.2.1 12 = .ok (.ifCond .ne (5), 3) := by decide +kernel
theorem d_P_set_15 : decode m_P_set.2.2.1 15 = .ok (.iconst 0, 1) := by decide +kernel
theorem d_P_set_16 : decode m_P_set.2.2.1 16 = .ok (.ireturn, 1) := by decide +kernel
theorem d_P_set_17 : decode m_P_set.2.2.1 17 = .ok (.aload_n 0, 1) := by decide +kernel
theorem d_P_set_18 : decode m_P_set.2.2.1 18 = .ok (.getfield 28, 3) := by decide +kernel
theorem d_P_set_21 : decode m_P_set.2.2.1 21 = .ok (.iload_n 1, 1) := by decide +kernel
theorem d_P_set_22 : decode m_P_set.2.2.1 22 = .ok (.iload_n 2, 1) := by decide +kernel
theorem d_P_set_23 : decode m_P_set.2.2.1 23 = .ok (.iload_n 3, 1) := by decide +kernel
theorem d_P_set_24 : decode m_P_set.2.2.1 24 = .ok (.invokevirtual 91, 3) := by decide +kernel
theorem d_P_set_27 : decode m_P_set.2.2.1 27 = .ok (.iconst 1, 1) := by decide +kernel
theorem d_P_set_28 : decode m_P_set.2.2.1 28 = .ok (.ireturn, 1) := by decide +kernel
theorem d_P_cell_0 : decode m_P_cell.2.2.1 0 = .ok (.iload_n 1, 1) := by decide +kernel
theorem d_P_cell_1 : decode m_P_cell.2.2.1 1 = .ok (.iload_n 2, 1) := by decide +kernel
theorem d_P_cell_2 : decode m_P_cell.2.2.1 2 = .ok (.invokestatic 80, 3) := by decide +kernel
theorem d_P_cell_5 : decode m_P_cell.2.2.1 5 = .ok (.ifCond .eq (15), 3) := by decide +kernel
theorem d_P_cell_8 : decode m_P_cell.2.2.1 8 = .ok (.aload_n 0, 1) := by decide +kernel
theorem d_P_cell_9 : decode m_P_cell.2.2.1 9 = .ok (.getfield 28, 3) := by decide +kernel
theorem d_P_cell_12 : decode m_P_cell.2.2.1 12 = .ok (.iload_n 1, 1) := by decide +kernel
theorem d_P_cell_13 : decode m_P_cell.2.2.1 13 = .ok (.iload_n 2, 1) := by decide +kernel
theorem d_P_cell_14 : decode m_P_cell.2.2.1 14 = .ok (.invokevirtual 95, 3) := by decide +kernel
theorem d_P_cell_17 : decode m_P_cell.2.2.1 17 = .ok (.goto (4), 3) := by decide +kernel
theorem d_P_cell_20 : decode m_P_cell.2.2.1 20 = .ok (.iconst (-1), 1) := by decide +kernel
theorem d_P_cell_21 : decode m_P_cell.2.2.1 21 = .ok (.ireturn, 1) := by decide +kernel
theorem d_P_at_0 : decode m_P_at.2.2.1 0 = .ok (.iload_n 1, 1) := by decide +kernel
theorem d_P_at_1 : decode m_P_at.2.2.1 1 = .ok (.invokestatic 64, 3) := by decide +kernel
theorem d_P_at_4 : decode m_P_at.2.2.1 4 = .ok (.ifCond .eq (13), 3) := by decide +kernel
theorem d_P_at_7 : decode m_P_at.2.2.1 7 = .ok (.iload_n 2, 1) := by decide +kernel
theorem d_P_at_8 : decode m_P_at.2.2.1 8 = .ok (.ifCond .lt (9), 3) := by decide +kernel
theorem d_P_at_11 : decode m_P_at.2.2.1 11 = .ok (.iload_n 2, 1) := by decide +kernel
theorem d_P_at_12 : decode m_P_at.2.2.1 12 = .ok (.bipush (32), 2) := by decide +kernel
theorem d_P_at_14 : decode m_P_at.2.2.1 14 = .ok (.if_icmp .lt (5), 3) := by decide +kernel
theorem d_P_at_17 : decode m_P_at.2.2.1 17 = .ok (.iconst (-1), 1) := by decide +kernel
theorem d_P_at_18 : decode m_P_at.2.2.1 18 = .ok (.ireturn, 1) := by decide +kernel
theorem d_P_at_19 : decode m_P_at.2.2.1 19 = .ok (.aload_n 0, 1) := by decide +kernel
theorem d_P_at_20 : decode m_P_at.2.2.1 20 = .ok (.getfield 28, 3) := by decide +kernel
theorem d_P_at_23 : decode m_P_at.2.2.1 23 = .ok (.iload_n 1, 1) := by decide +kernel
theorem d_P_at_24 : decode m_P_at.2.2.1 24 = .ok (.iload_n 2, 1) := by decide +kernel
theorem d_P_at_25 : decode m_P_at.2.2.1 25 = .ok (.invokevirtual 99, 3) := by decide +kernel
theorem d_P_at_28 : decode m_P_at.2.2.1 28 = .ok (.ireturn, 1) := by decide +kernel
theorem d_P_wrong_0 : decode m_P_wrong.2.2.1 0 = .ok (.iconst 0, 1) := by decide +kernel
theorem d_P_wrong_1 : decode m_P_wrong.2.2.1 1 = .ok (.istore_n 1, 1) := by decide +kernel
theorem d_P_wrong_2 : decode m_P_wrong.2.2.1 2 = .ok (.iload_n 1, 1) := by decide +kernel
theorem d_P_wrong_3 : decode m_P_wrong.2.2.1 3 = .ok (.bipush (8), 2) := by decide +kernel
theorem d_P_wrong_5 : decode m_P_wrong.2.2.1 5 = .ok (.if_icmp .ge (26), 3) := by decide +kernel
theorem d_P_wrong_8 : decode m_P_wrong.2.2.1 8 = .ok (.aload_n 0, 1) := by decide +kernel
theorem d_P_wrong_9 : decode m_P_wrong.2.2.1 9 = .ok (.getfield 21, 3) := by decide +kernel
theorem d_P_wrong_12 : decode m_P_wrong.2.2.1 12 = .ok (.aload_n 0, 1) := by decide +kernel
theorem d_P_wrong_13 : decode m_P_wrong.2.2.1 13 = .ok (.getfield 28, 3) := by decide +kernel
theorem d_P_wrong_16 : decode m_P_wrong.2.2.1 16 = .ok (.iload_n 1, 1) := by decide +kernel
theorem d_P_wrong_17 : decode m_P_wrong.2.2.1 17 = .ok (.invokevirtual 102, 3) := by decide +kernel
theorem d_P_wrong_20 : decode m_P_wrong.2.2.1 20 = .ok (.ifCond .eq (5), 3) := by decide +kernel
theorem d_P_wrong_23 : decode m_P_wrong.2.2.1 23 = .ok (.iload_n 1, 1) := by decide +kernel
theorem d_P_wrong_24 : decode m_P_wrong.2.2.1 24 = .ok (.ireturn, 1) := by decide +kernel
theorem d_P_wrong_25 : decode m_P_wrong.2.2.1 25 = .ok (.iinc 1 (1), 3) := by decide +kernel
theorem d_P_wrong_28 : decode m_P_wrong.2.2.1 28 = .ok (.goto (-26), 3) := by decide +kernel
theorem d_P_wrong_31 : decode m_P_wrong.2.2.1 31 = .ok (.bipush (-2), 2) := by decide +kernel
theorem d_P_wrong_33 : decode m_P_wrong.2.2.1 33 = .ok (.ireturn, 1) := by decide +kernel
theorem d_P_prove_0 : decode m_P_prove.2.2.1 0 = .ok (.aload_n 0, 1) := by decide +kernel
theorem d_P_prove_1 : decode m_P_prove.2.2.1 1 = .ok (.getfield 21, 3) := by decide +kernel
theorem d_P_prove_4 : decode m_P_prove.2.2.1 4 = .ok (.invokevirtual 106, 3) := by decide +kernel
theorem d_P_prove_7 : decode m_P_prove.2.2.1 7 = .ok (.ifCond .eq (5), 3) := by decide +kernel
theorem d_P_prove_10 : decode m_P_prove.2.2.1 10 = .ok (.iconst (-1), 1) := by decide +kernel
theorem d_P_prove_11 : decode m_P_prove.2.2.1 11 = .ok (.ireturn, 1) := by decide +kernel
theorem d_P_prove_12 : decode m_P_prove.2.2.1 12 = .ok (.aload_n 0, 1) := by decide +kernel
theorem d_P_prove_13 : decode m_P_prove.2.2.1 13 = .ok (.invokevirtual 110, 3) := by decide +kernel
theorem d_P_prove_16 : decode m_P_prove.2.2.1 16 = .ok (.istore_n 1, 1) := by decide +kernel
theorem d_P_prove_17 : decode m_P_prove.2.2.1 17 = .ok (.iload_n 1, 1) := by decide +kernel
theorem d_P_prove_18 : decode m_P_prove.2.2.1 18 = .ok (.bipush (-2), 2) := by decide +kernel
theorem d_P_prove_20 : decode m_P_prove.2.2.1 20 = .ok (.if_icmp .eq (8), 3) := by decide +kernel
theorem d_P_prove_23 : decode m_P_prove.2.2.1 23 = .ok (.bipush (-10), 2) := by decide +kernel
theorem d_P_prove_25 : decode m_P_prove.2.2.1 25 = .ok (.iload_n 1, 1) := by decide +kernel
theorem d_P_prove_26 : decode m_P_prove.2.2.1 26 = .ok (.isub, 1) := by decide +kernel
theorem d_P_prove_27 : decode m_P_prove.2.2.1 27 = .ok (.ireturn, 1) := by decide +kernel
theorem d_P_prove_28 : decode m_P_prove.2.2.1 28 = .ok (.aload_n 0, 1) := by decide +kernel
theorem d_P_prove_29 : decode m_P_prove.2.2.1 29 = .ok (.getfield 44, 3) := by decide +kernel
theorem d_P_prove_32 : decode m_P_prove.2.2.1 32 = .ok (.aload_n 0, 1) := by decide +kernel
theorem d_P_prove_33 : decode m_P_prove.2.2.1 33 = .ok (.getfield 35, 3) := by decide +kernel
theorem d_P_prove_36 : decode m_P_prove.2.2.1 36 = .ok (.invokevirtual 114, 3) := by decide +kernel
theorem d_P_prove_39 : decode m_P_prove.2.2.1 39 = .ok (.aload_n 0, 1) := by decide +kernel
theorem d_P_prove_40 : decode m_P_prove.2.2.1 40 = .ok (.iconst 1, 1) := by decide +kernel
theorem d_P_prove_41 : decode m_P_prove.2.2.1 41 = .ok (.putfield 57, 3) := by decide +kernel
theorem d_P_prove_44 : decode m_P_prove.2.2.1 44 = .ok (.iconst 0, 1) := by decide +kernel
theorem d_P_prove_45 : decode m_P_prove.2.2.1 45 = .ok (.ireturn, 1) := by decide +kernel
theorem d_P_proof_0 : decode m_P_proof.2.2.1 0 = .ok (.aload_n 0, 1) := by decide +kernel
theorem d_P_proof_1 : decode m_P_proof.2.2.1 1 = .ok (.iload_n 1, 1) := by decide +kernel
theorem d_P_proof_2 : decode m_P_proof.2.2.1 2 = .ok (.invokevirtual 118, 3) := by decide +kernel
theorem d_P_proof_5 : decode m_P_proof.2.2.1 5 = .ok (.ifCond .eq (15), 3) := by decide +kernel
theorem d_P_proof_8 : decode m_P_proof.2.2.1 8 = .ok (.aload_n 0, 1) := by decide +kernel
theorem d_P_proof_9 : decode m_P_proof.2.2.1 9 = .ok (.getfield 35, 3) := by decide +kernel
theorem d_P_proof_12 : decode m_P_proof.2.2.1 12 = .ok (.getfield 121, 3) := by decide +kernel
theorem d_P_proof_15 : decode m_P_proof.2.2.1 15 = .ok (.iload_n 1, 1) := by decide +kernel
theorem d_P_proof_16 : decode m_P_proof.2.2.1 16 = .ok (.iaload, 1) := by decide +kernel
theorem d_P_proof_17 : decode m_P_proof.2.2.1 17 = .ok (.goto (4), 3) := by decide +kernel
theorem d_P_proof_20 : decode m_P_proof.2.2.1 20 = .ok (.iconst 0, 1) := by decide +kernel
theorem d_P_proof_21 : decode m_P_proof.2.2.1 21 = .ok (.ireturn, 1) := by decide +kernel
theorem d_P_alter_0 : decode m_P_alter.2.2.1 0 = .ok (.aload_n 0, 1) := by decide +kernel
theorem d_P_alter_1 : decode m_P_alter.2.2.1 1 = .ok (.iload_n 1, 1) := by decide +kernel
theorem d_P_alter_2 : decode m_P_alter.2.2.1 2 = .ok (.invokevirtual 118, 3) := by decide +kernel
theorem d_P_alter_5 : decode m_P_alter.2.2.1 5 = .ok (.ifCond .ne (5), 3) := by decide +kernel
theorem d_P_alter_8 : decode m_P_alter.2.2.1 8 = .ok (.iconst 0, 1) := by decide +kernel
theorem d_P_alter_9 : decode m_P_alter.2.2.1 9 = .ok (.ireturn, 1) := by decide +kernel
theorem d_P_alter_10 : decode m_P_alter.2.2.1 10 = .ok (.aload_n 0, 1) := by decide +kernel
theorem d_P_alter_11 : decode m_P_alter.2.2.1 11 = .ok (.getfield 35, 3) := by decide +kernel
theorem d_P_alter_14 : decode m_P_alter.2.2.1 14 = .ok (.getfield 121, 3) := by decide +kernel
theorem d_P_alter_17 : decode m_P_alter.2.2.1 17 = .ok (.iload_n 1, 1) := by decide +kernel
theorem d_P_alter_18 : decode m_P_alter.2.2.1 18 = .ok (.iload_n 2, 1) := by decide +kernel
theorem d_P_alter_19 : decode m_P_alter.2.2.1 19 = .ok (.iastore, 1) := by decide +kernel
theorem d_P_alter_20 : decode m_P_alter.2.2.1 20 = .ok (.iconst 1, 1) := by decide +kernel
theorem d_P_alter_21 : decode m_P_alter.2.2.1 21 = .ok (.ireturn, 1) := by decide +kernel
theorem d_P_verify_0 : decode m_P_verify.2.2.1 0 = .ok (.aload_n 0, 1) := by decide +kernel
theorem d_P_verify_1 : decode m_P_verify.2.2.1 1 = .ok (.iconst 0, 1) := by decide +kernel
theorem d_P_verify_2 : decode m_P_verify.2.2.1 2 = .ok (.putfield 61, 3) := by decide +kernel
theorem d_P_verify_5 : decode m_P_verify.2.2.1 5 = .ok (.aload_n 0, 1) := by decide +kernel
theorem d_P_verify_6 : decode m_P_verify.2.2.1 6 = .ok (.getfield 57, 3) := by decide +kernel
theorem d_P_verify_9 : decode m_P_verify.2.2.1 9 = .ok (.ifCond .ne (6), 3) := by decide +kernel
theorem d_P_verify_12 : decode m_P_verify.2.2.1 12 = .ok (.bipush (-2), 2) := by decide +kernel
theorem d_P_verify_14 : decode m_P_verify.2.2.1 14 = .ok (.ireturn, 1) := by decide +kernel
theorem d_P_verify_15 : decode m_P_verify.2.2.1 15 = .ok (.aload_n 0, 1) := by decide +kernel
theorem d_P_verify_16 : decode m_P_verify.2.2.1 16 = .ok (.getfield 21, 3) := by decide +kernel
theorem d_P_verify_19 : decode m_P_verify.2.2.1 19 = .ok (.invokevirtual 106, 3) := by decide +kernel
theorem d_P_verify_22 : decode m_P_verify.2.2.1 22 = .ok (.ifCond .eq (5), 3) := by decide +kernel
theorem d_P_verify_25 : decode m_P_verify.2.2.1 25 = .ok (.iconst (-1), 1) := by decide +kernel
theorem d_P_verify_26 : decode m_P_verify.2.2.1 26 = .ok (.ireturn, 1) := by decide +kernel
theorem d_P_verify_27 : decode m_P_verify.2.2.1 27 = .ok (.aload_n 0, 1) := by decide +kernel
theorem d_P_verify_28 : decode m_P_verify.2.2.1 28 = .ok (.getfield 53, 3) := by decide +kernel
theorem d_P_verify_31 : decode m_P_verify.2.2.1 31 = .ok (.invokevirtual 125, 3) := by decide +kernel
theorem d_P_verify_34 : decode m_P_verify.2.2.1 34 = .ok (.istore_n 1, 1) := by decide +kernel
theorem d_P_verify_35 : decode m_P_verify.2.2.1 35 = .ok (.aload_n 0, 1) := by decide +kernel
theorem d_P_verify_36 : decode m_P_verify.2.2.1 36 = .ok (.iload_n 1, 1) := by decide +kernel
theorem d_P_verify_37 : decode m_P_verify.2.2.1 37 = .ok (.iconst 1, 1) := by decide +kernel
theorem d_P_verify_38 : decode m_P_verify.2.2.1 38 = .ok (.if_icmp .eq (7), 3) := by decide +kernel
theorem d_P_verify_41 : decode m_P_verify.2.2.1 41 = .ok (.iconst 1, 1) := by decide +kernel
theorem d_P_verify_42 : decode m_P_verify.2.2.1 42 = .ok (.goto (4), 3) := by decide +kernel
theorem d_P_verify_45 : decode m_P_verify.2.2.1 45 = .ok (.iconst 0, 1) := by decide +kernel
theorem d_P_verify_46 : decode m_P_verify.2.2.1 46 = .ok (.putfield 61, 3) := by decide +kernel
theorem d_P_verify_49 : decode m_P_verify.2.2.1 49 = .ok (.iload_n 1, 1) := by decide +kernel
theorem d_P_verify_50 : decode m_P_verify.2.2.1 50 = .ok (.ireturn, 1) := by decide +kernel
theorem d_P_position_0 : decode m_P_position.2.2.1 0 = .ok (.aload_n 0, 1) := by decide +kernel
theorem d_P_position_1 : decode m_P_position.2.2.1 1 = .ok (.getfield 61, 3) := by decide +kernel
theorem d_P_position_4 : decode m_P_position.2.2.1 4 = .ok (.ifCond .eq (12), 3) := by decide +kernel
theorem d_P_position_7 : decode m_P_position.2.2.1 7 = .ok (.iload_n 1, 1) := by decide +kernel
theorem d_P_position_8 : decode m_P_position.2.2.1 8 = .ok (.ifCond .lt (8), 3) := by decide +kernel
theorem d_P_position_11 : decode m_P_position.2.2.1 11 = .ok (.iload_n 1, 1) := by decide +kernel
theorem d_P_position_12 : decode m_P_position.2.2.1 12 = .ok (.iconst 3, 1) := by decide +kernel
theorem d_P_position_13 : decode m_P_position.2.2.1 13 = .ok (.if_icmp .lt (6), 3) := by decide +kernel
theorem d_P_position_16 : decode m_P_position.2.2.1 16 = .ok (.bipush (-2), 2) := by decide +kernel
theorem d_P_position_18 : decode m_P_position.2.2.1 18 = .ok (.ireturn, 1) := by decide +kernel
theorem d_P_position_19 : decode m_P_position.2.2.1 19 = .ok (.aload_n 0, 1) := by decide +kernel
theorem d_P_position_20 : decode m_P_position.2.2.1 20 = .ok (.getfield 53, 3) := by decide +kernel
theorem d_P_position_23 : decode m_P_position.2.2.1 23 = .ok (.iload_n 1, 1) := by decide +kernel
theorem d_P_position_24 : decode m_P_position.2.2.1 24 = .ok (.invokevirtual 128, 3) := by decide +kernel
theorem d_P_position_27 : decode m_P_position.2.2.1 27 = .ok (.ireturn, 1) := by decide +kernel
theorem d_P_isInProof_0 : decode m_P_isInProof.2.2.1 0 = .ok (.aload_n 0, 1) := by decide +kernel
theorem d_P_isInProof_1 : decode m_P_isInProof.2.2.1 1 = .ok (.getfield 57, 3) := by decide +kernel
theorem d_P_isInProof_4 : decode m_P_isInProof.2.2.1 4 = .ok (.ifCond .eq (18), 3) := by decide +kernel
theorem d_P_isInProof_7 : decode m_P_isInProof.2.2.1 7 = .ok (.iload_n 1, 1) := by decide +kernel
theorem d_P_isInProof_8 : decode m_P_isInProof.2.2.1 8 = .ok (.ifCond .lt (14), 3) := by decide +kernel
theorem d_P_isInProof_11 : decode m_P_isInProof.2.2.1 11 = .ok (.iload_n 1, 1) := by decide +kernel
theorem d_P_isInProof_12 : decode m_P_isInProof.2.2.1 12 = .ok (.sipush (179), 3) := by decide +kernel
theorem d_P_isInProof_15 : decode m_P_isInProof.2.2.1 15 = .ok (.if_icmp .ge (7), 3) := by decide +kernel
theorem d_P_isInProof_18 : decode m_P_isInProof.2.2.1 18 = .ok (.iconst 1, 1) := by decide +kernel
theorem d_P_isInProof_19 : decode m_P_isInProof.2.2.1 19 = .ok (.goto (4), 3) := by decide +kernel
theorem d_P_isInProof_22 : decode m_P_isInProof.2.2.1 22 = .ok (.iconst 0, 1) := by decide +kernel
theorem d_P_isInProof_23 : decode m_P_isInProof.2.2.1 23 = .ok (.ireturn, 1) := by decide +kernel
theorem d_P_isColumn_0 : decode m_P_isColumn.2.2.1 0 = .ok (.iload_n 0, 1) := by decide +kernel
theorem d_P_isColumn_1 : decode m_P_isColumn.2.2.1 1 = .ok (.ifCond .lt (12), 3) := by decide +kernel
theorem d_P_isColumn_4 : decode m_P_isColumn.2.2.1 4 = .ok (.iload_n 0, 1) := by decide +kernel
theorem d_P_isColumn_5 : decode m_P_isColumn.2.2.1 5 = .ok (.iconst 2, 1) := by decide +kernel
theorem d_P_isColumn_6 : decode m_P_isColumn.2.2.1 6 = .ok (.if_icmp .ge (7), 3) := by decide +kernel
theorem d_P_isColumn_9 : decode m_P_isColumn.2.2.1 9 = .ok (.iconst 1, 1) := by decide +kernel
theorem d_P_isColumn_10 : decode m_P_isColumn.2.2.1 10 = .ok (.goto (4), 3) := by decide +kernel
theorem d_P_isColumn_13 : decode m_P_isColumn.2.2.1 13 = .ok (.iconst 0, 1) := by decide +kernel
theorem d_P_isColumn_14 : decode m_P_isColumn.2.2.1 14 = .ok (.ireturn, 1) := by decide +kernel
theorem d_P_isCell_0 : decode m_P_isCell.2.2.1 0 = .ok (.iload_n 0, 1) := by decide +kernel
theorem d_P_isCell_1 : decode m_P_isCell.2.2.1 1 = .ok (.invokestatic 64, 3) := by decide +kernel
theorem d_P_isCell_4 : decode m_P_isCell.2.2.1 4 = .ok (.ifCond .eq (17), 3) := by decide +kernel
theorem d_P_isCell_7 : decode m_P_isCell.2.2.1 7 = .ok (.iload_n 1, 1) := by decide +kernel
theorem d_P_isCell_8 : decode m_P_isCell.2.2.1 8 = .ok (.ifCond .lt (13), 3) := by decide +kernel
theorem d_P_isCell_11 : decode m_P_isCell.2.2.1 11 = .ok (.iload_n 1, 1) := by decide +kernel
theorem d_P_isCell_12 : decode m_P_isCell.2.2.1 12 = .ok (.bipush (8), 2) := by decide +kernel
theorem d_P_isCell_14 : decode m_P_isCell.2.2.1 14 = .ok (.if_icmp .ge (7), 3) := by decide +kernel
theorem d_P_isCell_17 : decode m_P_isCell.2.2.1 17 = .ok (.iconst 1, 1) := by decide +kernel
theorem d_P_isCell_18 : decode m_P_isCell.2.2.1 18 = .ok (.goto (4), 3) := by decide +kernel
theorem d_P_isCell_21 : decode m_P_isCell.2.2.1 21 = .ok (.iconst 0, 1) := by decide +kernel
theorem d_P_isCell_22 : decode m_P_isCell.2.2.1 22 = .ok (.ireturn, 1) := by decide +kernel
theorem d_P_isLetter_0 : decode m_P_isLetter.2.2.1 0 = .ok (.iload_n 0, 1) := by decide +kernel
theorem d_P_isLetter_1 : decode m_P_isLetter.2.2.1 1 = .ok (.ifCond .lt (12), 3) := by decide +kernel
theorem d_P_isLetter_4 : decode m_P_isLetter.2.2.1 4 = .ok (.iload_n 0, 1) := by decide +kernel
theorem d_P_isLetter_5 : decode m_P_isLetter.2.2.1 5 = .ok (.iconst 5, 1) := by decide +kernel
theorem d_P_isLetter_6 : decode m_P_isLetter.2.2.1 6 = .ok (.if_icmp .ge (7), 3) := by decide +kernel
theorem d_P_isLetter_9 : decode m_P_isLetter.2.2.1 9 = .ok (.iconst 1, 1) := by decide +kernel
theorem d_P_isLetter_10 : decode m_P_isLetter.2.2.1 10 = .ok (.goto (4), 3) := by decide +kernel
theorem d_P_isLetter_13 : decode m_P_isLetter.2.2.1 13 = .ok (.iconst 0, 1) := by decide +kernel
theorem d_P_isLetter_14 : decode m_P_isLetter.2.2.1 14 = .ok (.ireturn, 1) := by decide +kernel
theorem d_P_mix_0 : decode m_P_mix.2.2.1 0 = .ok (.ldc 132, 2) := by decide +kernel
theorem d_P_mix_2 : decode m_P_mix.2.2.1 2 = .ok (.iload_n 0, 1) := by decide +kernel
theorem d_P_mix_3 : decode m_P_mix.2.2.1 3 = .ok (.invokestatic 133, 3) := by decide +kernel
theorem d_P_mix_6 : decode m_P_mix.2.2.1 6 = .ok (.iload_n 1, 1) := by decide +kernel
theorem d_P_mix_7 : decode m_P_mix.2.2.1 7 = .ok (.invokestatic 133, 3) := by decide +kernel
theorem d_P_mix_10 : decode m_P_mix.2.2.1 10 = .ok (.ireturn, 1) := by decide +kernel
theorem d_P_stir_0 : decode m_P_stir.2.2.1 0 = .ok (.iload_n 0, 1) := by decide +kernel
theorem d_P_stir_1 : decode m_P_stir.2.2.1 1 = .ok (.iload_n 1, 1) := by decide +kernel
theorem d_P_stir_2 : decode m_P_stir.2.2.1 2 = .ok (.ixor, 1) := by decide +kernel
theorem d_P_stir_3 : decode m_P_stir.2.2.1 3 = .ok (.ldc 136, 2) := by decide +kernel
theorem d_P_stir_5 : decode m_P_stir.2.2.1 5 = .ok (.imul, 1) := by decide +kernel
theorem d_P_stir_6 : decode m_P_stir.2.2.1 6 = .ok (.istore_n 2, 1) := by decide +kernel
theorem d_P_stir_7 : decode m_P_stir.2.2.1 7 = .ok (.iload_n 2, 1) := by decide +kernel
theorem d_P_stir_8 : decode m_P_stir.2.2.1 8 = .ok (.iload_n 2, 1) := by decide +kernel
theorem d_P_stir_9 : decode m_P_stir.2.2.1 9 = .ok (.bipush (15), 2) := by decide +kernel
theorem d_P_stir_11 : decode m_P_stir.2.2.1 11 = .ok (.iushr, 1) := by decide +kernel
theorem d_P_stir_12 : decode m_P_stir.2.2.1 12 = .ok (.ixor, 1) := by decide +kernel
theorem d_P_stir_13 : decode m_P_stir.2.2.1 13 = .ok (.ireturn, 1) := by decide +kernel
theorem d_Mo_init_0 : decode m_Mo_init.2.2.1 0 = .ok (.aload_n 0, 1) := by decide +kernel
theorem d_Mo_init_1 : decode m_Mo_init.2.2.1 1 = .ok (.invokespecial 1, 3) := by decide +kernel
theorem d_Mo_init_4 : decode m_Mo_init.2.2.1 4 = .ok (.aload_n 0, 1) := by decide +kernel
theorem d_Mo_init_5 : decode m_Mo_init.2.2.1 5 = .ok (.bipush (16), 2) := by decide +kernel
theorem d_Mo_init_7 : decode m_Mo_init.2.2.1 7 = .ok (.newarray .int, 2) := by decide +kernel
theorem d_Mo_init_9 : decode m_Mo_init.2.2.1 9 = .ok (.putfield 7, 3) := by decide +kernel
theorem d_Mo_init_12 : decode m_Mo_init.2.2.1 12 = .ok (.aload_n 0, 1) := by decide +kernel
theorem d_Mo_init_13 : decode m_Mo_init.2.2.1 13 = .ok (.iconst 2, 1) := by decide +kernel
theorem d_Mo_init_14 : decode m_Mo_init.2.2.1 14 = .ok (.newarray .int, 2) := by decide +kernel
theorem d_Mo_init_16 : decode m_Mo_init.2.2.1 16 = .ok (.putfield 13, 3) := by decide +kernel
theorem d_Mo_init_19 : decode m_Mo_init.2.2.1 19 = .ok (.aload_n 0, 1) := by decide +kernel
theorem d_Mo_init_20 : decode m_Mo_init.2.2.1 20 = .ok (.bipush (12), 2) := by decide +kernel
theorem d_Mo_init_22 : decode m_Mo_init.2.2.1 22 = .ok (.newarray .int, 2) := by decide +kernel
theorem d_Mo_init_24 : decode m_Mo_init.2.2.1 24 = .ok (.putfield 16, 3) := by decide +kernel
theorem d_Mo_init_27 : decode m_Mo_init.2.2.1 27 = .ok (.aload_n 0, 1) := by decide +kernel
theorem d_Mo_init_28 : decode m_Mo_init.2.2.1 28 = .ok (.bipush (12), 2) := by decide +kernel
theorem d_Mo_init_30 : decode m_Mo_init.2.2.1 30 = .ok (.newarray .int, 2) := by decide +kernel
theorem d_Mo_init_32 : decode m_Mo_init.2.2.1 32 = .ok (.putfield 19, 3) := by decide +kernel
theorem d_Mo_init_35 : decode m_Mo_init.2.2.1 35 = .ok (.aload_n 0, 1) := by decide +kernel
theorem d_Mo_init_36 : decode m_Mo_init.2.2.1 36 = .ok (.bipush (12), 2) := by decide +kernel
theorem d_Mo_init_38 : decode m_Mo_init.2.2.1 38 = .ok (.newarray .int, 2) := by decide +kernel
theorem d_Mo_init_40 : decode m_Mo_init.2.2.1 40 = .ok (.putfield 22, 3) := by decide +kernel
theorem d_Mo_init_43 : decode m_Mo_init.2.2.1 43 = .ok (.aload_n 0, 1) := by decide +kernel
theorem d_Mo_init_44 : decode m_Mo_init.2.2.1 44 = .ok (.iconst 4, 1) := by decide +kernel
theorem d_Mo_init_45 : decode m_Mo_init.2.2.1 45 = .ok (.newarray .int, 2) := by decide +kernel
theorem d_Mo_init_47 : decode m_Mo_init.2.2.1 47 = .ok (.putfield 25, 3) := by decide +kernel
theorem d_Mo_init_50 : decode m_Mo_init.2.2.1 50 = .ok (.aload_n 0, 1) := by decide +kernel
theorem d_Mo_init_51 : decode m_Mo_init.2.2.1 51 = .ok (.iconst 4, 1) := by decide +kernel
theorem d_Mo_init_52 : decode m_Mo_init.2.2.1 52 = .ok (.newarray .int, 2) := by decide +kernel
theorem d_Mo_init_54 : decode m_Mo_init.2.2.1 54 = .ok (.putfield 28, 3) := by decide +kernel
theorem d_Mo_init_57 : decode m_Mo_init.2.2.1 57 = .ok (.aload_n 0, 1) := by decide +kernel
theorem d_Mo_init_58 : decode m_Mo_init.2.2.1 58 = .ok (.iconst 4, 1) := by decide +kernel
theorem d_Mo_init_59 : decode m_Mo_init.2.2.1 59 = .ok (.newarray .int, 2) := by decide +kernel
theorem d_Mo_init_61 : decode m_Mo_init.2.2.1 61 = .ok (.putfield 31, 3) := by decide +kernel
theorem d_Mo_init_64 : decode m_Mo_init.2.2.1 64 = .ok (.aload_n 0, 1) := by decide +kernel
theorem d_Mo_init_65 : decode m_Mo_init.2.2.1 65 = .ok (.sipush (179), 3) := by decide +kernel
theorem d_Mo_init_68 : decode m_Mo_init.2.2.1 68 = .ok (.newarray .int, 2) := by decide +kernel
theorem d_Mo_init_70 : decode m_Mo_init.2.2.1 70 = .ok (.putfield 34, 3) := by decide +kernel
theorem d_Mo_init_73 : decode m_Mo_init.2.2.1 73 = .ok (.aload_n 0, 1) := by decide +kernel
theorem d_Mo_init_74 : decode m_Mo_init.2.2.1 74 = .ok (.iconst 3, 1) := by decide +kernel
theorem d_Mo_init_75 : decode m_Mo_init.2.2.1 75 = .ok (.newarray .int, 2) := by decide +kernel
theorem d_Mo_init_77 : decode m_Mo_init.2.2.1 77 = .ok (.putfield 37, 3) := by decide +kernel
theorem d_Mo_init_80 : decode m_Mo_init.2.2.1 80 = .ok (.aload_n 0, 1) := by decide +kernel
theorem d_Mo_init_81 : decode m_Mo_init.2.2.1 81 = .ok (.iconst 3, 1) := by decide +kernel
theorem d_Mo_init_82 : decode m_Mo_init.2.2.1 82 = .ok (.newarray .int, 2) := by decide +kernel
theorem d_Mo_init_84 : decode m_Mo_init.2.2.1 84 = .ok (.putfield 40, 3) := by decide +kernel
theorem d_Mo_init_87 : decode m_Mo_init.2.2.1 87 = .ok (.aload_n 0, 1) := by decide +kernel
theorem d_Mo_init_88 : decode m_Mo_init.2.2.1 88 = .ok (.iconst 3, 1) := by decide +kernel
theorem d_Mo_init_89 : decode m_Mo_init.2.2.1 89 = .ok (.newarray .int, 2) := by decide +kernel
theorem d_Mo_init_91 : decode m_Mo_init.2.2.1 91 = .ok (.putfield 43, 3) := by decide +kernel
theorem d_Mo_init_94 : decode m_Mo_init.2.2.1 94 = .ok (.aload_n 0, 1) := by decide +kernel
theorem d_Mo_init_95 : decode m_Mo_init.2.2.1 95 = .ok (.bipush (32), 2) := by decide +kernel
theorem d_Mo_init_97 : decode m_Mo_init.2.2.1 97 = .ok (.newarray .int, 2) := by decide +kernel
theorem d_Mo_init_99 : decode m_Mo_init.2.2.1 99 = .ok (.putfield 46, 3) := by decide +kernel
theorem d_Mo_init_102 : decode m_Mo_init.2.2.1 102 = .ok (.aload_n 0, 1) := by decide +kernel
theorem d_Mo_init_103 : decode m_Mo_init.2.2.1 103 = .ok (.bipush (64), 2) := by decide +kernel
theorem d_Mo_init_105 : decode m_Mo_init.2.2.1 105 = .ok (.newarray .int, 2) := by decide +kernel
theorem d_Mo_init_107 : decode m_Mo_init.2.2.1 107 = .ok (.putfield 49, 3) := by decide +kernel
theorem d_Mo_init_110 : decode m_Mo_init.2.2.1 110 = .ok (.aload_n 0, 1) := by decide +kernel
theorem d_Mo_init_111 : decode m_Mo_init.2.2.1 111 = .ok (.bipush (60), 2) := by decide +kernel
theorem d_Mo_init_113 : decode m_Mo_init.2.2.1 113 = .ok (.newarray .int, 2) := by decide +kernel
theorem d_Mo_init_115 : decode m_Mo_init.2.2.1 115 = .ok (.putfield 52, 3) := by decide +kernel
theorem d_Mo_init_118 : decode m_Mo_init.2.2.1 118 = .ok (.aload_n 0, 1) := by decide +kernel
theorem d_Mo_init_119 : decode m_Mo_init.2.2.1 119 = .ok (.sipush (176), 3) := by decide +kernel
theorem d_Mo_init_122 : decode m_Mo_init.2.2.1 122 = .ok (.newarray .int, 2) := by decide +kernel
theorem d_Mo_init_124 : decode m_Mo_init.2.2.1 124 = .ok (.putfield 55, 3) := by decide +kernel
theorem d_Mo_init_127 : decode m_Mo_init.2.2.1 127 = .ok (.aload_n 0, 1) := by decide +kernel
theorem d_Mo_init_128 : decode m_Mo_init.2.2.1 128 = .ok (.iconst 5, 1) := by decide +kernel
theorem d_Mo_init_129 : decode m_Mo_init.2.2.1 129 = .ok (.newarray .int, 2) := by decide +kernel
theorem d_Mo_init_131 : decode m_Mo_init.2.2.1 131 = .ok (.putfield 58, 3) := by decide +kernel
theorem d_Mo_init_134 : decode m_Mo_init.2.2.1 134 = .ok (.bipush (11), 2) := by decide +kernel
theorem d_Mo_init_136 : decode m_Mo_init.2.2.1 136 = .ok (.sipush (384), 3) := by decide +kernel
theorem d_Mo_init_139 : decode m_Mo_init.2.2.1 139 = .ok (.invokestatic 61, 3) := by decide +kernel
theorem d_Mo_init_142 : decode m_Mo_init.2.2.1 142 = .ok (.istore_n 1, 1) := by decide +kernel
theorem d_Mo_init_143 : decode m_Mo_init.2.2.1 143 = .ok (.aload_n 0, 1) := by decide +kernel
theorem d_Mo_init_144 : decode m_Mo_init.2.2.1 144 = .ok (.getfield 46, 3) := by decide +kernel
theorem d_Mo_init_147 : decode m_Mo_init.2.2.1 147 = .ok (.iconst 0, 1) := by decide +kernel
theorem d_Mo_init_148 : decode m_Mo_init.2.2.1 148 = .ok (.iconst 1, 1) := by decide +kernel
theorem d_Mo_init_149 : decode m_Mo_init.2.2.1 149 = .ok (.iastore, 1) := by decide +kernel
theorem d_Mo_init_150 : decode m_Mo_init.2.2.1 150 = .ok (.iconst 1, 1) := by decide +kernel
theorem d_Mo_init_151 : decode m_Mo_init.2.2.1 151 = .ok (.istore_n 2, 1) := by decide +kernel
theorem d_Mo_init_152 : decode m_Mo_init.2.2.1 152 = .ok (.iload_n 2, 1) := by decide +kernel
theorem d_Mo_init_153 : decode m_Mo_init.2.2.1 153 = .ok (.bipush (32), 2) := by decide +kernel
theorem d_Mo_init_155 : decode m_Mo_init.2.2.1 155 = .ok (.if_icmp .ge (27), 3) := by decide +kernel
theorem d_Mo_init_158 : decode m_Mo_init.2.2.1 158 = .ok (.aload_n 0, 1) := by decide +kernel
theorem d_Mo_init_159 : decode m_Mo_init.2.2.1 159 = .ok (.getfield 46, 3) := by decide +kernel
theorem d_Mo_init_162 : decode m_Mo_init.2.2.1 162 = .ok (.iload_n 2, 1) := by decide +kernel
theorem d_Mo_init_163 : decode m_Mo_init.2.2.1 163 = .ok (.aload_n 0, 1) := by decide +kernel
theorem d_Mo_init_164 : decode m_Mo_init.2.2.1 164 = .ok (.getfield 46, 3) := by decide +kernel
theorem d_Mo_init_167 : decode m_Mo_init.2.2.1 167 = .ok (.iload_n 2, 1) := by decide +kernel
theorem d_Mo_init_168 : decode m_Mo_init.2.2.1 168 = .ok (.iconst 1, 1) := by decide +kernel
theorem d_Mo_init_169 : decode m_Mo_init.2.2.1 169 = .ok (.isub, 1) := by decide +kernel
theorem d_Mo_init_170 : decode m_Mo_init.2.2.1 170 = .ok (.iaload, 1) := by decide +kernel
theorem d_Mo_init_171 : decode m_Mo_init.2.2.1 171 = .ok (.iload_n 1, 1) := by decide +kernel
theorem d_Mo_init_172 : decode m_Mo_init.2.2.1 172 = .ok (.invokestatic 65, 3) := by decide +kernel
theorem d_Mo_init_175 : decode m_Mo_init.2.2.1 175 = .ok (.iastore, 1) := by decide +kernel
theorem d_Mo_init_176 : decode m_Mo_init.2.2.1 176 = .ok (.iinc 2 (1), 3) := by decide +kernel
theorem d_Mo_init_179 : decode m_Mo_init.2.2.1 179 = .ok (.goto (-27), 3) := by decide +kernel
theorem d_Mo_init_182 : decode m_Mo_init.2.2.1 182 = .ok (.return_, 1) := by decide +kernel
theorem d_Mo_mod_0 : decode m_Mo_mod.2.2.1 0 = .ok (.iload_n 0, 1) := by decide +kernel
theorem d_Mo_mod_1 : decode m_Mo_mod.2.2.1 1 = .ok (.sipush (12289), 3) := by decide +kernel
theorem d_Mo_mod_4 : decode m_Mo_mod.2.2.1 4 = .ok (.irem, 1) := by decide +kernel
theorem d_Mo_mod_5 : decode m_Mo_mod.2.2.1 5 = .ok (.istore_n 1, 1) := by decide +kernel
theorem d_Mo_mod_6 : decode m_Mo_mod.2.2.1 6 = .ok (.iload_n 1, 1) := by decide +kernel
theorem d_Mo_mod_7 : decode m_Mo_mod.2.2.1 7 = .ok (.ifCond .ge (11), 3) := by decide +kernel
theorem d_Mo_mod_10 : decode m_Mo_mod.2.2.1 10 = .ok (.iload_n 1, 1) := by decide +kernel
theorem d_Mo_mod_11 : decode m_Mo_mod.2.2.1 11 = .ok (.sipush (12289), 3) := by decide +kernel
theorem d_Mo_mod_14 : decode m_Mo_mod.2.2.1 14 = .ok (.iadd, 1) := by decide +kernel
theorem d_Mo_mod_15 : decode m_Mo_mod.2.2.1 15 = .ok (.goto (4), 3) := by decide +kernel
theorem d_Mo_mod_18 : decode m_Mo_mod.2.2.1 18 = .ok (.iload_n 1, 1) := by decide +kernel
theorem d_Mo_mod_19 : decode m_Mo_mod.2.2.1 19 = .ok (.ireturn, 1) := by decide +kernel
theorem d_Mo_times_0 : decode m_Mo_times.2.2.1 0 = .ok (.iload_n 0, 1) := by decide +kernel
theorem d_Mo_times_1 : decode m_Mo_times.2.2.1 1 = .ok (.iload_n 1, 1) := by decide +kernel
theorem d_Mo_times_2 : decode m_Mo_times.2.2.1 2 = .ok (.imul, 1) := by decide +kernel
theorem d_Mo_times_3 : decode m_Mo_times.2.2.1 3 = .ok (.sipush (12289), 3) := by decide +kernel
theorem d_Mo_times_6 : decode m_Mo_times.2.2.1 6 = .ok (.irem, 1) := by decide +kernel
theorem d_Mo_times_7 : decode m_Mo_times.2.2.1 7 = .ok (.ireturn, 1) := by decide +kernel
theorem d_Mo_power_0 : decode m_Mo_power.2.2.1 0 = .ok (.iconst 1, 1) := by decide +kernel
theorem d_Mo_power_1 : decode m_Mo_power.2.2.1 1 = .ok (.istore_n 2, 1) := by decide +kernel
theorem d_Mo_power_2 : decode m_Mo_power.2.2.1 2 = .ok (.iconst 0, 1) := by decide +kernel
theorem d_Mo_power_3 : decode m_Mo_power.2.2.1 3 = .ok (.istore_n 3, 1) := by decide +kernel
theorem d_Mo_power_4 : decode m_Mo_power.2.2.1 4 = .ok (.iload_n 3, 1) := by decide +kernel
theorem d_Mo_power_5 : decode m_Mo_power.2.2.1 5 = .ok (.iload_n 1, 1) := by decide +kernel
theorem d_Mo_power_6 : decode m_Mo_power.2.2.1 6 = .ok (.if_icmp .ge (15), 3) := by decide +kernel
theorem d_Mo_power_9 : decode m_Mo_power.2.2.1 9 = .ok (.iload_n 2, 1) := by decide +kernel
theorem d_Mo_power_10 : decode m_Mo_power.2.2.1 10 = .ok (.iload_n 0, 1) := by decide +kernel
theorem d_Mo_power_11 : decode m_Mo_power.2.2.1 11 = .ok (.invokestatic 65, 3) := by decide +kernel
theorem d_Mo_power_14 : decode m_Mo_power.2.2.1 14 = .ok (.istore_n 2, 1) := by decide +kernel
theorem d_Mo_power_15 : decode m_Mo_power.2.2.1 15 = .ok (.iinc 3 (1), 3) := by decide +kernel
theorem d_Mo_power_18 : decode m_Mo_power.2.2.1 18 = .ok (.goto (-14), 3) := by decide +kernel
theorem d_Mo_power_21 : decode m_Mo_power.2.2.1 21 = .ok (.iload_n 2, 1) := by decide +kernel
theorem d_Mo_power_22 : decode m_Mo_power.2.2.1 22 = .ok (.ireturn, 1) := by decide +kernel
theorem d_Mo_inverse_0 : decode m_Mo_inverse.2.2.1 0 = .ok (.iconst 1, 1) := by decide +kernel
theorem d_Mo_inverse_1 : decode m_Mo_inverse.2.2.1 1 = .ok (.istore_n 1, 1) := by decide +kernel
theorem d_Mo_inverse_2 : decode m_Mo_inverse.2.2.1 2 = .ok (.iload_n 0, 1) := by decide +kernel
theorem d_Mo_inverse_3 : decode m_Mo_inverse.2.2.1 3 = .ok (.istore_n 2, 1) := by decide +kernel
theorem d_Mo_inverse_4 : decode m_Mo_inverse.2.2.1 4 = .ok (.sipush (12287), 3) := by decide +kernel
theorem d_Mo_inverse_7 : decode m_Mo_inverse.2.2.1 7 = .ok (.istore_n 3, 1) := by decide +kernel
theorem d_Mo_inverse_8 : decode m_Mo_inverse.2.2.1 8 = .ok (.iload_n 3, 1) := by decide +kernel
theorem d_Mo_inverse_9 : decode m_Mo_inverse.2.2.1 9 = .ok (.ifCond .le (29), 3) := by decide +kernel
theorem d_Mo_inverse_12 : decode m_Mo_inverse.2.2.1 12 = .ok (.iload_n 3, 1) := by decide +kernel
theorem d_Mo_inverse_13 : decode m_Mo_inverse.2.2.1 13 = .ok (.iconst 2, 1) := by decide +kernel
theorem d_Mo_inverse_14 : decode m_Mo_inverse.2.2.1 14 = .ok (.irem, 1) := by decide +kernel
theorem d_Mo_inverse_15 : decode m_Mo_inverse.2.2.1 15 = .ok (.iconst 1, 1) := by decide +kernel
theorem d_Mo_inverse_16 : decode m_Mo_inverse.2.2.1 16 = .ok (.if_icmp .ne (9), 3) := by decide +kernel
theorem d_Mo_inverse_19 : decode m_Mo_inverse.2.2.1 19 = .ok (.iload_n 1, 1) := by decide +kernel
theorem d_Mo_inverse_20 : decode m_Mo_inverse.2.2.1 20 = .ok (.iload_n 2, 1) := by decide +kernel
theorem d_Mo_inverse_21 : decode m_Mo_inverse.2.2.1 21 = .ok (.invokestatic 65, 3) := by decide +kernel
theorem d_Mo_inverse_24 : decode m_Mo_inverse.2.2.1 24 = .ok (.istore_n 1, 1) := by decide +kernel
theorem d_Mo_inverse_25 : decode m_Mo_inverse.2.2.1 25 = .ok (.iload_n 2, 1) := by decide +kernel
theorem d_Mo_inverse_26 : decode m_Mo_inverse.2.2.1 26 = .ok (.iload_n 2, 1) := by decide +kernel
theorem d_Mo_inverse_27 : decode m_Mo_inverse.2.2.1 27 = .ok (.invokestatic 65, 3) := by decide +kernel
theorem d_Mo_inverse_30 : decode m_Mo_inverse.2.2.1 30 = .ok (.istore_n 2, 1) := by decide +kernel
theorem d_Mo_inverse_31 : decode m_Mo_inverse.2.2.1 31 = .ok (.iload_n 3, 1) := by decide +kernel
theorem d_Mo_inverse_32 : decode m_Mo_inverse.2.2.1 32 = .ok (.iconst 2, 1) := by decide +kernel
theorem d_Mo_inverse_33 : decode m_Mo_inverse.2.2.1 33 = .ok (.idiv, 1) := by decide +kernel
theorem d_Mo_inverse_34 : decode m_Mo_inverse.2.2.1 34 = .ok (.istore_n 3, 1) := by decide +kernel
theorem d_Mo_inverse_35 : decode m_Mo_inverse.2.2.1 35 = .ok (.goto (-27), 3) := by decide +kernel
theorem d_Mo_inverse_38 : decode m_Mo_inverse.2.2.1 38 = .ok (.iload_n 1, 1) := by decide +kernel
theorem d_Mo_inverse_39 : decode m_Mo_inverse.2.2.1 39 = .ok (.ireturn, 1) := by decide +kernel
theorem d_Mo_isNumber_0 : decode m_Mo_isNumber.2.2.1 0 = .ok (.iload_n 0, 1) := by decide +kernel
theorem d_Mo_isNumber_1 : decode m_Mo_isNumber.2.2.1 1 = .ok (.ifCond .lt (14), 3) := by decide +kernel
theorem d_Mo_isNumber_4 : decode m_Mo_isNumber.2.2.1 4 = .ok (.iload_n 0, 1) := by decide +kernel
theorem d_Mo_isNumber_5 : decode m_Mo_isNumber.2.2.1 5 = .ok (.sipush (12289), 3) := by decide +kernel
theorem d_Mo_isNumber_8 : decode m_Mo_isNumber.2.2.1 8 = .ok (.if_icmp .ge (7), 3) := by decide +kernel
theorem d_Mo_isNumber_11 : decode m_Mo_isNumber.2.2.1 11 = .ok (.iconst 1, 1) := by decide +kernel
theorem d_Mo_isNumber_12 : decode m_Mo_isNumber.2.2.1 12 = .ok (.goto (4), 3) := by decide +kernel
theorem d_Mo_isNumber_15 : decode m_Mo_isNumber.2.2.1 15 = .ok (.iconst 0, 1) := by decide +kernel
theorem d_Mo_isNumber_16 : decode m_Mo_isNumber.2.2.1 16 = .ok (.ireturn, 1) := by decide +kernel
theorem d_Mo_w_0 : decode m_Mo_w.2.2.1 0 = .ok (.aload_n 0, 1) := by decide +kernel
theorem d_Mo_w_1 : decode m_Mo_w.2.2.1 1 = .ok (.getfield 46, 3) := by decide +kernel
theorem d_Mo_w_4 : decode m_Mo_w.2.2.1 4 = .ok (.iload_n 1, 1) := by decide +kernel
theorem d_Mo_w_5 : decode m_Mo_w.2.2.1 5 = .ok (.bipush (32), 2) := by decide +kernel
theorem d_Mo_w_7 : decode m_Mo_w.2.2.1 7 = .ok (.irem, 1) := by decide +kernel
theorem d_Mo_w_8 : decode m_Mo_w.2.2.1 8 = .ok (.iaload, 1) := by decide +kernel
theorem d_Mo_w_9 : decode m_Mo_w.2.2.1 9 = .ok (.ireturn, 1) := by decide +kernel
theorem d_Mo_x_0 : decode m_Mo_x.2.2.1 0 = .ok (.bipush (11), 2) := by decide +kernel
theorem d_Mo_x_2 : decode m_Mo_x.2.2.1 2 = .ok (.aload_n 0, 1) := by decide +kernel
theorem d_Mo_x_3 : decode m_Mo_x.2.2.1 3 = .ok (.iload_n 1, 1) := by decide +kernel
theorem d_Mo_x_4 : decode m_Mo_x.2.2.1 4 = .ok (.bipush (32), 2) := by decide +kernel
theorem d_Mo_x_6 : decode m_Mo_x.2.2.1 6 = .ok (.irem, 1) := by decide +kernel
theorem d_Mo_x_7 : decode m_Mo_x.2.2.1 7 = .ok (.invokevirtual 68, 3) := by decide +kernel
theorem d_Mo_x_10 : decode m_Mo_x.2.2.1 10 = .ok (.invokestatic 65, 3) := by decide +kernel
theorem d_Mo_x_13 : decode m_Mo_x.2.2.1 13 = .ok (.ireturn, 1) := by decide +kernel
theorem d_Mo_h_0 : decode m_Mo_h.2.2.1 0 = .ok (.aload_n 0, 1) := by decide +kernel
theorem d_Mo_h_1 : decode m_Mo_h.2.2.1 1 = .ok (.iconst 4, 1) := by decide +kernel
theorem d_Mo_h_2 : decode m_Mo_h.2.2.1 2 = .ok (.iload_n 1, 1) := by decide +kernel
theorem d_Mo_h_3 : decode m_Mo_h.2.2.1 3 = .ok (.imul, 1) := by decide +kernel
theorem d_Mo_h_4 : decode m_Mo_h.2.2.1 4 = .ok (.invokevirtual 68, 3) := by decide +kernel
theorem d_Mo_h_7 : decode m_Mo_h.2.2.1 7 = .ok (.ireturn, 1) := by decide +kernel
theorem d_Mo_mix_0 : decode m_Mo_mix.2.2.1 0 = .ok (.ldc 72, 2) := by decide +kernel
theorem d_Mo_mix_2 : decode m_Mo_mix.2.2.1 2 = .ok (.istore_n 2, 1) := by decide +kernel
theorem d_Mo_mix_3 : decode m_Mo_mix.2.2.1 3 = .ok (.iload_n 2, 1) := by decide +kernel
theorem d_Mo_mix_4 : decode m_Mo_mix.2.2.1 4 = .ok (.iload_n 0, 1) := by decide +kernel
theorem d_Mo_mix_5 : decode m_Mo_mix.2.2.1 5 = .ok (.ixor, 1) := by decide +kernel
theorem d_Mo_mix_6 : decode m_Mo_mix.2.2.1 6 = .ok (.ldc 73, 2) := by decide +kernel
theorem d_Mo_mix_8 : decode m_Mo_mix.2.2.1 8 = .ok (.imul, 1) := by decide +kernel
theorem d_Mo_mix_9 : decode m_Mo_mix.2.2.1 9 = .ok (.istore_n 2, 1) := by decide +kernel
theorem d_Mo_mix_10 : decode m_Mo_mix.2.2.1 10 = .ok (.iload_n 2, 1) := by decide +kernel
theorem d_Mo_mix_11 : decode m_Mo_mix.2.2.1 11 = .ok (.iload_n 2, 1) := by decide +kernel
theorem d_Mo_mix_12 : decode m_Mo_mix.2.2.1 12 = .ok (.bipush (15), 2) := by decide +kernel
theorem d_Mo_mix_14 : decode m_Mo_mix.2.2.1 14 = .ok (.iushr, 1) := by decide +kernel
theorem d_Mo_mix_15 : decode m_Mo_mix.2.2.1 15 = .ok (.ixor, 1) := by decide +kernel
theorem d_Mo_mix_16 : decode m_Mo_mix.2.2.1 16 = .ok (.istore_n 2, 1) := by decide +kernel
theorem d_Mo_mix_17 : decode m_Mo_mix.2.2.1 17 = .ok (.iload_n 2, 1) := by decide +kernel
theorem d_Mo_mix_18 : decode m_Mo_mix.2.2.1 18 = .ok (.iload_n 1, 1) := by decide +kernel
theorem d_Mo_mix_19 : decode m_Mo_mix.2.2.1 19 = .ok (.ixor, 1) := by decide +kernel
theorem d_Mo_mix_20 : decode m_Mo_mix.2.2.1 20 = .ok (.ldc 73, 2) := by decide +kernel
theorem d_Mo_mix_22 : decode m_Mo_mix.2.2.1 22 = .ok (.imul, 1) := by decide +kernel
theorem d_Mo_mix_23 : decode m_Mo_mix.2.2.1 23 = .ok (.istore_n 2, 1) := by decide +kernel
theorem d_Mo_mix_24 : decode m_Mo_mix.2.2.1 24 = .ok (.iload_n 2, 1) := by decide +kernel
theorem d_Mo_mix_25 : decode m_Mo_mix.2.2.1 25 = .ok (.iload_n 2, 1) := by decide +kernel
theorem d_Mo_mix_26 : decode m_Mo_mix.2.2.1 26 = .ok (.bipush (15), 2) := by decide +kernel
theorem d_Mo_mix_28 : decode m_Mo_mix.2.2.1 28 = .ok (.iushr, 1) := by decide +kernel
theorem d_Mo_mix_29 : decode m_Mo_mix.2.2.1 29 = .ok (.ixor, 1) := by decide +kernel
theorem d_Mo_mix_30 : decode m_Mo_mix.2.2.1 30 = .ok (.ireturn, 1) := by decide +kernel
theorem d_Mo_isColumn_0 : decode m_Mo_isColumn.2.2.1 0 = .ok (.iload_n 0, 1) := by decide +kernel
theorem d_Mo_isColumn_1 : decode m_Mo_isColumn.2.2.1 1 = .ok (.ifCond .eq (8), 3) := by decide +kernel
theorem d_Mo_isColumn_4 : decode m_Mo_isColumn.2.2.1 4 = .ok (.iload_n 0, 1) := by decide +kernel
theorem d_Mo_isColumn_5 : decode m_Mo_isColumn.2.2.1 5 = .ok (.iconst 1, 1) := by decide +kernel
theorem d_Mo_isColumn_6 : decode m_Mo_isColumn.2.2.1 6 = .ok (.if_icmp .ne (7), 3) := by decide +kernel
theorem d_Mo_isColumn_9 : decode m_Mo_isColumn.2.2.1 9 = .ok (.iconst 1, 1) := by decide +kernel
theorem d_Mo_isColumn_10 : decode m_Mo_isColumn.2.2.1 10 = .ok (.goto (4), 3) := by decide +kernel
theorem d_Mo_isColumn_13 : decode m_Mo_isColumn.2.2.1 13 = .ok (.iconst 0, 1) := by decide +kernel
theorem d_Mo_isColumn_14 : decode m_Mo_isColumn.2.2.1 14 = .ok (.ireturn, 1) := by decide +kernel
theorem d_Mo_isRow_0 : decode m_Mo_isRow.2.2.1 0 = .ok (.iload_n 0, 1) := by decide +kernel
theorem d_Mo_isRow_1 : decode m_Mo_isRow.2.2.1 1 = .ok (.ifCond .lt (13), 3) := by decide +kernel
theorem d_Mo_isRow_4 : decode m_Mo_isRow.2.2.1 4 = .ok (.iload_n 0, 1) := by decide +kernel
theorem d_Mo_isRow_5 : decode m_Mo_isRow.2.2.1 5 = .ok (.bipush (8), 2) := by decide +kernel
theorem d_Mo_isRow_7 : decode m_Mo_isRow.2.2.1 7 = .ok (.if_icmp .ge (7), 3) := by decide +kernel
theorem d_Mo_isRow_10 : decode m_Mo_isRow.2.2.1 10 = .ok (.iconst 1, 1) := by decide +kernel
theorem d_Mo_isRow_11 : decode m_Mo_isRow.2.2.1 11 = .ok (.goto (4), 3) := by decide +kernel
theorem d_Mo_isRow_14 : decode m_Mo_isRow.2.2.1 14 = .ok (.iconst 0, 1) := by decide +kernel
theorem d_Mo_isRow_15 : decode m_Mo_isRow.2.2.1 15 = .ok (.ireturn, 1) := by decide +kernel
theorem d_Mo_term_0 : decode m_Mo_term.2.2.1 0 = .ok (.iload_n 1, 1) := by decide +kernel
theorem d_Mo_term_1 : decode m_Mo_term.2.2.1 1 = .ok (.invokestatic 74, 3) := by decide +kernel
theorem d_Mo_term_4 : decode m_Mo_term.2.2.1 4 = .ok (.ifCond .eq (30), 3) := by decide +kernel
theorem d_Mo_term_7 : decode m_Mo_term.2.2.1 7 = .ok (.iload_n 2, 1) := by decide +kernel
theorem d_Mo_term_8 : decode m_Mo_term.2.2.1 8 = .ok (.invokestatic 78, 3) := by decide +kernel
theorem d_Mo_term_11 : decode m_Mo_term.2.2.1 11 = .ok (.ifCond .eq (23), 3) := by decide +kernel
theorem d_Mo_term_14 : decode m_Mo_term.2.2.1 14 = .ok (.iload_n 3, 1) := by decide +kernel
theorem d_Mo_term_15 : decode m_Mo_term.2.2.1 15 = .ok (.ifCond .lt (19), 3) := by decide +kernel
theorem d_Mo_term_18 : decode m_Mo_term.2.2.1 18 = .ok (.iload_n 3, 1) := by decide +kernel
theorem d_Mo_term_19 : decode m_Mo_term.2.2.1 19 = .ok (.iconst 4, 1) := by decide +kernel
theorem d_Mo_term_20 : decode m_Mo_term.2.2.1 20 = .ok (.if_icmp .gt (14), 3) := by decide +kernel
theorem d_Mo_term_23 : decode m_Mo_term.2.2.1 23 = .ok (.iload 4, 2) := by decide +kernel
theorem d_Mo_term_25 : decode m_Mo_term.2.2.1 25 = .ok (.ifCond .lt (9), 3) := by decide +kernel
theorem d_Mo_term_28 : decode m_Mo_term.2.2.1 28 = .ok (.iload 4, 2) := by decide +kernel
theorem d_Mo_term_30 : decode m_Mo_term.2.2.1 30 = .ok (.iconst 4, 1) := by decide +kernel
theorem d_Mo_term_31 : decode m_Mo_term.2.2.1 31 = .ok (.if_icmp .le (5), 3) := by decide +kernel
theorem d_Mo_term_34 : decode m_Mo_term.2.2.1 34 = .ok (.iconst (-1), 1) := by decide +kernel
theorem d_Mo_term_35 : decode m_Mo_term.2.2.1 35 = .ok (.ireturn, 1) := by decide +kernel
theorem d_Mo_term_36 : decode m_Mo_term.2.2.1 36 = .ok (.aload_n 0, 1) := by decide +kernel
theorem d_Mo_term_37 : decode m_Mo_term.2.2.1 37 = .ok (.getfield 13, 3) := by decide +kernel
theorem d_Mo_term_40 : decode m_Mo_term.2.2.1 40 = .ok (.iload_n 1, 1) := by decide +kernel
theorem d_Mo_term_41 : decode m_Mo_term.2.2.1 41 = .ok (.iaload, 1) := by decide +kernel
theorem d_Mo_term_42 : decode m_Mo_term.2.2.1 42 = .ok (.bipush (6), 2) := by decide +kernel
theorem d_Mo_term_44 : decode m_Mo_term.2.2.1 44 = .ok (.if_icmp .ne (6), 3) := by decide +kernel
theorem d_Mo_term_47 : decode m_Mo_term.2.2.1 47 = .ok (.bipush (-3), 2) := by decide +kernel
theorem d_Mo_term_49 : decode m_Mo_term.2.2.1 49 = .ok (.ireturn, 1) := by decide +kernel
theorem d_Mo_term_50 : decode m_Mo_term.2.2.1 50 = .ok (.aload_n 0, 1) := by decide +kernel
theorem d_Mo_term_51 : decode m_Mo_term.2.2.1 51 = .ok (.getfield 16, 3) := by decide +kernel
theorem d_Mo_term_54 : decode m_Mo_term.2.2.1 54 = .ok (.bipush (6), 2) := by decide +kernel
theorem d_Mo_term_56 : decode m_Mo_term.2.2.1 56 = .ok (.iload_n 1, 1) := by decide +kernel
theorem d_Mo_term_57 : decode m_Mo_term.2.2.1 57 = .ok (.imul, 1) := by decide +kernel
theorem d_Mo_term_58 : decode m_Mo_term.2.2.1 58 = .ok (.aload_n 0, 1) := by decide +kernel
theorem d_Mo_term_59 : decode m_Mo_term.2.2.1 59 = .ok (.getfield 13, 3) := by decide +kernel
theorem d_Mo_term_62 : decode m_Mo_term.2.2.1 62 = .ok (.iload_n 1, 1) := by decide +kernel
theorem d_Mo_term_63 : decode m_Mo_term.2.2.1 63 = .ok (.iaload, 1) := by decide +kernel
theorem d_Mo_term_64 : decode m_Mo_term.2.2.1 64 = .ok (.iadd, 1) := by decide +kernel
theorem d_Mo_term_65 : decode m_Mo_term.2.2.1 65 = .ok (.iload_n 2, 1) := by decide +kernel
theorem d_Mo_term_66 : decode m_Mo_term.2.2.1 66 = .ok (.iastore, 1) := by decide +kernel
theorem d_Mo_term_67 : decode m_Mo_term.2.2.1 67 = .ok (.aload_n 0, 1) := by decide +kernel
theorem d_Mo_term_68 : decode m_Mo_term.2.2.1 68 = .ok (.getfield 19, 3) := by decide +kernel
theorem d_Mo_term_71 : decode m_Mo_term.2.2.1 71 = .ok (.bipush (6), 2) := by decide +kernel
theorem d_Mo_term_73 : decode m_Mo_term.2.2.1 73 = .ok (.iload_n 1, 1) := by decide +kernel
theorem d_Mo_term_74 : decode m_Mo_term.2.2.1 74 = .ok (.imul, 1) := by decide +kernel
theorem d_Mo_term_75 : decode m_Mo_term.2.2.1 75 = .ok (.aload_n 0, 1) := by decide +kernel
theorem d_Mo_term_76 : decode m_Mo_term.2.2.1 76 = .ok (.getfield 13, 3) := by decide +kernel
theorem d_Mo_term_79 : decode m_Mo_term.2.2.1 79 = .ok (.iload_n 1, 1) := by decide +kernel
theorem d_Mo_term_80 : decode m_Mo_term.2.2.1 80 = .ok (.iaload, 1) := by decide +kernel
theorem d_Mo_term_81 : decode m_Mo_term.2.2.1 81 = .ok (.iadd, 1) := by decide +kernel
theorem d_Mo_term_82 : decode m_Mo_term.2.2.1 82 = .ok (.iload_n 3, 1) := by decide +kernel
theorem d_Mo_term_83 : decode m_Mo_term.2.2.1 83 = .ok (.iastore, 1) := by decide +kernel
theorem d_Mo_term_84 : decode m_Mo_term.2.2.1 84 = .ok (.aload_n 0, 1) := by decide +kernel
theorem d_Mo_term_85 : decode m_Mo_term.2.2.1 85 = .ok (.getfield 22, 3) := by decide +kernel
theorem d_Mo_term_88 : decode m_Mo_term.2.2.1 88 = .ok (.bipush (6), 2) := by decide +kernel
theorem d_Mo_term_90 : decode m_Mo_term.2.2.1 90 = .ok (.iload_n 1, 1) := by decide +kernel
theorem d_Mo_term_91 : decode m_Mo_term.2.2.1 91 = .ok (.imul, 1) := by decide +kernel
theorem d_Mo_term_92 : decode m_Mo_term.2.2.1 92 = .ok (.aload_n 0, 1) := by decide +kernel
theorem d_Mo_term_93 : decode m_Mo_term.2.2.1 93 = .ok (.getfield 13, 3) := by decide +kernel
theorem d_Mo_term_96 : decode m_Mo_term.2.2.1 96 = .ok (.iload_n 1, 1) := by decide +kernel
theorem d_Mo_term_97 : decode m_Mo_term.2.2.1 97 = .ok (.iaload, 1) := by decide +kernel
theorem d_Mo_term_98 : decode m_Mo_term.2.2.1 98 = .ok (.iadd, 1) := by decide +kernel
theorem d_Mo_term_99 : decode m_Mo_term.2.2.1 99 = .ok (.iload 4, 2) := by decide +kernel
theorem d_Mo_term_101 : decode m_Mo_term.2.2.1 101 = .ok (.iastore, 1) := by decide +kernel
theorem d_Mo_term_102 : decode m_Mo_term.2.2.1 102 = .ok (.aload_n 0, 1) := by decide +kernel
theorem d_Mo_term_103 : decode m_Mo_term.2.2.1 103 = .ok (.getfield 13, 3) := by decide +kernel
theorem d_Mo_term_106 : decode m_Mo_term.2.2.1 106 = .ok (.iload_n 1, 1) := by decide +kernel
theorem d_Mo_term_107 : decode m_Mo_term.2.2.1 107 = .ok (.dup2, 1) := by decide +kernel
theorem d_Mo_term_108 : decode m_Mo_term.2.2.1 108 = .ok (.iaload, 1) := by decide +kernel
theorem d_Mo_term_109 : decode m_Mo_term.2.2.1 109 = .ok (.iconst 1, 1) := by decide +kernel
theorem d_Mo_term_110 : decode m_Mo_term.2.2.1 110 = .ok (.iadd, 1) := by decide +kernel
theorem d_Mo_term_111 : decode m_Mo_term.2.2.1 111 = .ok (.iastore, 1) := by decide +kernel
theorem d_Mo_term_112 : decode m_Mo_term.2.2.1 112 = .ok (.aload_n 0, 1) := by decide +kernel
theorem d_Mo_term_113 : decode m_Mo_term.2.2.1 113 = .ok (.getfield 13, 3) := by decide +kernel
theorem d_Mo_term_116 : decode m_Mo_term.2.2.1 116 = .ok (.iload_n 1, 1) := by decide +kernel
theorem d_Mo_term_117 : decode m_Mo_term.2.2.1 117 = .ok (.iaload, 1) := by decide +kernel
theorem d_Mo_term_118 : decode m_Mo_term.2.2.1 118 = .ok (.ireturn, 1) := by decide +kernel
theorem d_Mo_bound_0 : decode m_Mo_bound.2.2.1 0 = .ok (.iload_n 1, 1) := by decide +kernel
theorem d_Mo_bound_1 : decode m_Mo_bound.2.2.1 1 = .ok (.invokestatic 74, 3) := by decide +kernel
theorem d_Mo_bound_4 : decode m_Mo_bound.2.2.1 4 = .ok (.ifCond .eq (17), 3) := by decide +kernel
theorem d_Mo_bound_7 : decode m_Mo_bound.2.2.1 7 = .ok (.iload_n 2, 1) := by decide +kernel
theorem d_Mo_bound_8 : decode m_Mo_bound.2.2.1 8 = .ok (.invokestatic 81, 3) := by decide +kernel
theorem d_Mo_bound_11 : decode m_Mo_bound.2.2.1 11 = .ok (.ifCond .eq (10), 3) := by decide +kernel
theorem d_Mo_bound_14 : decode m_Mo_bound.2.2.1 14 = .ok (.iload_n 3, 1) := by decide +kernel
theorem d_Mo_bound_15 : decode m_Mo_bound.2.2.1 15 = .ok (.invokestatic 78, 3) := by decide +kernel
theorem d_Mo_bound_18 : decode m_Mo_bound.2.2.1 18 = .ok (.ifCond .ne (5), 3) := by decide +kernel
theorem d_Mo_bound_21 : decode m_Mo_bound.2.2.1 21 = .ok (.iconst (-1), 1) := by decide +kernel
theorem d_Mo_bound_22 : decode m_Mo_bound.2.2.1 22 = .ok (.ireturn, 1) := by decide +kernel
theorem d_Mo_bound_23 : decode m_Mo_bound.2.2.1 23 = .ok (.aload_n 0, 1) := by decide +kernel
theorem d_Mo_bound_24 : decode m_Mo_bound.2.2.1 24 = .ok (.getfield 84, 3) := by decide +kernel
theorem d_Mo_bound_27 : decode m_Mo_bound.2.2.1 27 = .ok (.iconst 4, 1) := by decide +kernel
theorem d_Mo_bound_28 : decode m_Mo_bound.2.2.1 28 = .ok (.if_icmp .ne (6), 3) := by decide +kernel
theorem d_Mo_bound_31 : decode m_Mo_bound.2.2.1 31 = .ok (.bipush (-3), 2) := by decide +kernel
theorem d_Mo_bound_33 : decode m_Mo_bound.2.2.1 33 = .ok (.ireturn, 1) := by decide +kernel
theorem d_Mo_bound_34 : decode m_Mo_bound.2.2.1 34 = .ok (.aload_n 0, 1) := by decide +kernel
theorem d_Mo_bound_35 : decode m_Mo_bound.2.2.1 35 = .ok (.getfield 25, 3) := by decide +kernel
theorem d_Mo_bound_38 : decode m_Mo_bound.2.2.1 38 = .ok (.aload_n 0, 1) := by decide +kernel
theorem d_Mo_bound_39 : decode m_Mo_bound.2.2.1 39 = .ok (.getfield 84, 3) := by decide +kernel
theorem d_Mo_bound_42 : decode m_Mo_bound.2.2.1 42 = .ok (.iload_n 1, 1) := by decide +kernel
theorem d_Mo_bound_43 : decode m_Mo_bound.2.2.1 43 = .ok (.iastore, 1) := by decide +kernel
theorem d_Mo_bound_44 : decode m_Mo_bound.2.2.1 44 = .ok (.aload_n 0, 1) := by decide +kernel
theorem d_Mo_bound_45 : decode m_Mo_bound.2.2.1 45 = .ok (.getfield 28, 3) := by decide +kernel
theorem d_Mo_bound_48 : decode m_Mo_bound.2.2.1 48 = .ok (.aload_n 0, 1) := by decide +kernel
theorem d_Mo_bound_49 : decode m_Mo_bound.2.2.1 49 = .ok (.getfield 84, 3) := by decide +kernel
theorem d_Mo_bound_52 : decode m_Mo_bound.2.2.1 52 = .ok (.iload_n 2, 1) := by decide +kernel
theorem d_Mo_bound_53 : decode m_Mo_bound.2.2.1 53 = .ok (.iastore, 1) := by decide +kernel
theorem d_Mo_bound_54 : decode m_Mo_bound.2.2.1 54 = .ok (.aload_n 0, 1) := by decide +kernel
theorem d_Mo_bound_55 : decode m_Mo_bound.2.2.1 55 = .ok (.getfield 31, 3) := by decide +kernel
theorem d_Mo_bound_58 : decode m_Mo_bound.2.2.1 58 = .ok (.aload_n 0, 1) := by decide +kernel
theorem d_Mo_bound_59 : decode m_Mo_bound.2.2.1 59 = .ok (.getfield 84, 3) := by decide +kernel
theorem d_Mo_bound_62 : decode m_Mo_bound.2.2.1 62 = .ok (.iload_n 3, 1) := by decide +kernel
theorem d_Mo_bound_63 : decode m_Mo_bound.2.2.1 63 = .ok (.iastore, 1) := by decide +kernel
theorem d_Mo_bound_64 : decode m_Mo_bound.2.2.1 64 = .ok (.aload_n 0, 1) := by decide +kernel
theorem d_Mo_bound_65 : decode m_Mo_bound.2.2.1 65 = .ok (.dup, 1) := by decide +kernel
theorem d_Mo_bound_66 : decode m_Mo_bound.2.2.1 66 = .ok (.getfield 84, 3) := by decide +kernel
theorem d_Mo_bound_69 : decode m_Mo_bound.2.2.1 69 = .ok (.iconst 1, 1) := by decide +kernel
theorem d_Mo_bound_70 : decode m_Mo_bound.2.2.1 70 = .ok (.iadd, 1) := by decide +kernel
theorem d_Mo_bound_71 : decode m_Mo_bound.2.2.1 71 = .ok (.putfield 84, 3) := by decide +kernel
theorem d_Mo_bound_74 : decode m_Mo_bound.2.2.1 74 = .ok (.aload_n 0, 1) := by decide +kernel
theorem d_Mo_bound_75 : decode m_Mo_bound.2.2.1 75 = .ok (.getfield 84, 3) := by decide +kernel
theorem d_Mo_bound_78 : decode m_Mo_bound.2.2.1 78 = .ok (.ireturn, 1) := by decide +kernel
theorem d_Mo_clear_0 : decode m_Mo_clear.2.2.1 0 = .ok (.aload_n 0, 1) := by decide +kernel
theorem d_Mo_clear_1 : decode m_Mo_clear.2.2.1 1 = .ok (.getfield 13, 3) := by decide +kernel
theorem d_Mo_clear_4 : decode m_Mo_clear.2.2.1 4 = .ok (.iconst 0, 1) := by decide +kernel
theorem d_Mo_clear_5 : decode m_Mo_clear.2.2.1 5 = .ok (.iconst 0, 1) := by decide +kernel
theorem d_Mo_clear_6 : decode m_Mo_clear.2.2.1 6 = .ok (.iastore, 1) := by decide +kernel
theorem d_Mo_clear_7 : decode m_Mo_clear.2.2.1 7 = .ok (.aload_n 0, 1) := by decide +kernel
theorem d_Mo_clear_8 : decode m_Mo_clear.2.2.1 8 = .ok (.getfield 13, 3) := by decide +kernel
theorem d_Mo_clear_11 : decode m_Mo_clear.2.2.1 11 = .ok (.iconst 1, 1) := by decide +kernel
theorem d_Mo_clear_12 : decode m_Mo_clear.2.2.1 12 = .ok (.iconst 0, 1) := by decide +kernel
theorem d_Mo_clear_13 : decode m_Mo_clear.2.2.1 13 = .ok (.iastore, 1) := by decide +kernel
theorem d_Mo_clear_14 : decode m_Mo_clear.2.2.1 14 = .ok (.aload_n 0, 1) := by decide +kernel
theorem d_Mo_clear_15 : decode m_Mo_clear.2.2.1 15 = .ok (.iconst 0, 1) := by decide +kernel
theorem d_Mo_clear_16 : decode m_Mo_clear.2.2.1 16 = .ok (.putfield 84, 3) := by decide +kernel
theorem d_Mo_clear_19 : decode m_Mo_clear.2.2.1 19 = .ok (.return_, 1) := by decide +kernel
theorem d_Mo_set_0 : decode m_Mo_set.2.2.1 0 = .ok (.iload_n 1, 1) := by decide +kernel
theorem d_Mo_set_1 : decode m_Mo_set.2.2.1 1 = .ok (.invokestatic 74, 3) := by decide +kernel
theorem d_Mo_set_4 : decode m_Mo_set.2.2.1 4 = .ok (.ifCond .eq (17), 3) := by decide +kernel
theorem d_Mo_set_7 : decode m_Mo_set.2.2.1 7 = .ok (.iload_n 2, 1) := by decide +kernel
theorem d_Mo_set_8 : decode m_Mo_set.2.2.1 8 = .ok (.invokestatic 81, 3) := by decide +kernel
theorem d_Mo_set_11 : decode m_Mo_set.2.2.1 11 = .ok (.ifCond .eq (10), 3) := by decide +kernel
theorem d_Mo_set_14 : decode m_Mo_set.2.2.1 14 = .ok (.iload_n 3, 1) := by decide +kernel
theorem d_Mo_set_15 : decode m_Mo_set.2.2.1 15 = .ok (.invokestatic 78, 3) := by decide +kernel
theorem d_Mo_set_18 : decode m_Mo_set.2.2.1 18 = .ok (.ifCond .ne (5), 3) := by decide +kernel
theorem d_Mo_set_21 : decode m_Mo_set.2.2.1 21 = .ok (.iconst 0, 1) := by decide +kernel
theorem d_Mo_set_22 : decode m_Mo_set.2.2.1 22 = .ok (.ireturn, 1) := by decide +kernel
theorem d_Mo_set_23 : decode m_Mo_set.2.2.1 23 = .ok (.aload_n 0, 1) := by decide +kernel
theorem d_Mo_set_24 : decode m_Mo_set.2.2.1 24 = .ok (.getfield 7, 3) := by decide +kernel
theorem d_Mo_set_27 : decode m_Mo_set.2.2.1 27 = .ok (.bipush (8), 2) := by decide +kernel
theorem d_Mo_set_29 : decode m_Mo_set.2.2.1 29 = .ok (.iload_n 1, 1) := by decide +kernel
theorem d_Mo_set_30 : decode m_Mo_set.2.2.1 30 = .ok (.imul, 1) := by decide +kernel
theorem d_Mo_set_31 : decode m_Mo_set.2.2.1 31 = .ok (.iload_n 2, 1) := by decide +kernel
theorem d_Mo_set_32 : decode m_Mo_set.2.2.1 32 = .ok (.iadd, 1) := by decide +kernel
theorem d_Mo_set_33 : decode m_Mo_set.2.2.1 33 = .ok (.iload_n 3, 1) := by decide +kernel
theorem d_Mo_set_34 : decode m_Mo_set.2.2.1 34 = .ok (.iastore, 1) := by decide +kernel
theorem d_Mo_set_35 : decode m_Mo_set.2.2.1 35 = .ok (.iconst 1, 1) := by decide +kernel
theorem d_Mo_set_36 : decode m_Mo_set.2.2.1 36 = .ok (.ireturn, 1) := by decide +kernel
theorem d_Mo_cell_0 : decode m_Mo_cell.2.2.1 0 = .ok (.iload_n 1, 1) := by decide +kernel
theorem d_Mo_cell_1 : decode m_Mo_cell.2.2.1 1 = .ok (.invokestatic 74, 3) := by decide +kernel
theorem d_Mo_cell_4 : decode m_Mo_cell.2.2.1 4 = .ok (.ifCond .eq (24), 3) := by decide +kernel
theorem d_Mo_cell_7 : decode m_Mo_cell.2.2.1 7 = .ok (.iload_n 2, 1) := by decide +kernel
theorem d_Mo_cell_8 : decode m_Mo_cell.2.2.1 8 = .ok (.invokestatic 81, 3) := by decide +kernel
theorem d_Mo_cell_11 : decode m_Mo_cell.2.2.1 11 = .ok (.ifCond .eq (17), 3) := by decide +kernel
theorem d_Mo_cell_14 : decode m_Mo_cell.2.2.1 14 = .ok (.aload_n 0, 1) := by decide +kernel
theorem d_Mo_cell_15 : decode m_Mo_cell.2.2.1 15 = .ok (.getfield 7, 3) := by decide +kernel
theorem d_Mo_cell_18 : decode m_Mo_cell.2.2.1 18 = .ok (.bipush (8), 2) := by decide +kernel
theorem d_Mo_cell_20 : decode m_Mo_cell.2.2.1 20 = .ok (.iload_n 1, 1) := by decide +kernel
theorem d_Mo_cell_21 : decode m_Mo_cell.2.2.1 21 = .ok (.imul, 1) := by decide +kernel
theorem d_Mo_cell_22 : decode m_Mo_cell.2.2.1 22 = .ok (.iload_n 2, 1) := by decide +kernel
theorem d_Mo_cell_23 : decode m_Mo_cell.2.2.1 23 = .ok (.iadd, 1) := by decide +kernel
theorem d_Mo_cell_24 : decode m_Mo_cell.2.2.1 24 = .ok (.iaload, 1) := by decide +kernel
theorem d_Mo_cell_25 : decode m_Mo_cell.2.2.1 25 = .ok (.goto (4), 3) := by decide +kernel
theorem d_Mo_cell_28 : decode m_Mo_cell.2.2.1 28 = .ok (.iconst (-1), 1) := by decide +kernel
theorem d_Mo_cell_29 : decode m_Mo_cell.2.2.1 29 = .ok (.ireturn, 1) := by decide +kernel
theorem d_Mo_constraints_0 : decode m_Mo_constraints.2.2.1 0 = .ok (.aload_n 0, 1) := by decide +kernel
theorem d_Mo_constraints_1 : decode m_Mo_constraints.2.2.1 1 = .ok (.getfield 13, 3) := by decide +kernel
theorem d_Mo_constraints_4 : decode m_Mo_constraints.2.2.1 4 = .ok (.iconst 1, 1) := by decide +kernel
theorem d_Mo_constraints_5 : decode m_Mo_constraints.2.2.1 5 = .ok (.iaload, 1) := by decide +kernel
theorem d_Mo_constraints_6 : decode m_Mo_constraints.2.2.1 6 = .ok (.ifCond .le (7), 3) := by decide +kernel
theorem d_Mo_constraints_9 : decode m_Mo_constraints.2.2.1 9 = .ok (.iconst 2, 1) := by decide +kernel
theorem d_Mo_constraints_10 : decode m_Mo_constraints.2.2.1 10 = .ok (.goto (17), 3) := by decide +kernel
theorem d_Mo_constraints_13 : decode m_Mo_constraints.2.2.1 13 = .ok (.aload_n 0, 1) := by decide +kernel
theorem d_Mo_constraints_14 : decode m_Mo_constraints.2.2.1 14 = .ok (.getfield 13, 3) := by decide +kernel
theorem d_Mo_constraints_17 : decode m_Mo_constraints.2.2.1 17 = .ok (.iconst 0, 1) := by decide +kernel
theorem d_Mo_constraints_18 : decode m_Mo_constraints.2.2.1 18 = .ok (.iaload, 1) := by decide +kernel
theorem d_Mo_constraints_19 : decode m_Mo_constraints.2.2.1 19 = .ok (.ifCond .le (7), 3) := by decide +kernel
theorem d_Mo_constraints_22 : decode m_Mo_constraints.2.2.1 22 = .ok (.iconst 1, 1) := by decide +kernel
theorem d_Mo_constraints_23 : decode m_Mo_constraints.2.2.1 23 = .ok (.goto (4), 3) := by decide +kernel
theorem d_Mo_constraints_26 : decode m_Mo_constraints.2.2.1 26 = .ok (.iconst 0, 1) := by decide +kernel
theorem d_Mo_constraints_27 : decode m_Mo_constraints.2.2.1 27 = .ok (.ireturn, 1) := by decide +kernel
theorem d_Mo_valueAt_0 : decode m_Mo_valueAt.2.2.1 0 = .ok (.iconst 0, 1) := by decide +kernel
theorem d_Mo_valueAt_1 : decode m_Mo_valueAt.2.2.1 1 = .ok (.istore_n 3, 1) := by decide +kernel
theorem d_Mo_valueAt_2 : decode m_Mo_valueAt.2.2.1 2 = .ok (.iconst 0, 1) := by decide +kernel
theorem d_Mo_valueAt_3 : decode m_Mo_valueAt.2.2.1 3 = .ok (.istore 4, 2) := by decide +kernel
theorem d_Mo_valueAt_5 : decode m_Mo_valueAt.2.2.1 5 = .ok (.iload 4, 2) := by decide +kernel
theorem d_Mo_valueAt_7 : decode m_Mo_valueAt.2.2.1 7 = .ok (.bipush (8), 2) := by decide +kernel
theorem d_Mo_valueAt_9 : decode m_Mo_valueAt.2.2.1 9 = .ok (.if_icmp .ge (106), 3) := by decide +kernel
theorem d_Mo_valueAt_12 : decode m_Mo_valueAt.2.2.1 12 = .ok (.aload_n 0, 1) := by decide +kernel
theorem d_Mo_valueAt_13 : decode m_Mo_valueAt.2.2.1 13 = .ok (.getfield 7, 3) := by decide +kernel
theorem d_Mo_valueAt_16 : decode m_Mo_valueAt.2.2.1 16 = .ok (.bipush (8), 2) := by decide +kernel
theorem d_Mo_valueAt_18 : decode m_Mo_valueAt.2.2.1 18 = .ok (.iload_n 1, 1) := by decide +kernel
theorem d_Mo_valueAt_19 : decode m_Mo_valueAt.2.2.1 19 = .ok (.imul, 1) := by decide +kernel
theorem d_Mo_valueAt_20 : decode m_Mo_valueAt.2.2.1 20 = .ok (.iload 4, 2) := by decide +kernel
theorem d_Mo_valueAt_22 : decode m_Mo_valueAt.2.2.1 22 = .ok (.iadd, 1) := by decide +kernel
theorem d_Mo_valueAt_23 : decode m_Mo_valueAt.2.2.1 23 = .ok (.iaload, 1) := by decide +kernel
theorem d_Mo_valueAt_24 : decode m_Mo_valueAt.2.2.1 24 = .ok (.istore 5, 2) := by decide +kernel
theorem d_Mo_valueAt_26 : decode m_Mo_valueAt.2.2.1 26 = .ok (.iconst 1, 1) := by decide +kernel
theorem d_Mo_valueAt_27 : decode m_Mo_valueAt.2.2.1 27 = .ok (.istore 6, 2) := by decide +kernel
theorem d_Mo_valueAt_29 : decode m_Mo_valueAt.2.2.1 29 = .ok (.iconst 0, 1) := by decide +kernel
theorem d_Mo_valueAt_30 : decode m_Mo_valueAt.2.2.1 30 = .ok (.istore 7, 2) := by decide +kernel
theorem d_Mo_valueAt_32 : decode m_Mo_valueAt.2.2.1 32 = .ok (.iload 7, 2) := by decide +kernel
theorem d_Mo_valueAt_34 : decode m_Mo_valueAt.2.2.1 34 = .ok (.bipush (8), 2) := by decide +kernel
theorem d_Mo_valueAt_36 : decode m_Mo_valueAt.2.2.1 36 = .ok (.if_icmp .ge (57), 3) := by decide +kernel
theorem d_Mo_valueAt_39 : decode m_Mo_valueAt.2.2.1 39 = .ok (.iload 7, 2) := by decide +kernel
theorem d_Mo_valueAt_41 : decode m_Mo_valueAt.2.2.1 41 = .ok (.iload 4, 2) := by decide +kernel
theorem d_Mo_valueAt_43 : decode m_Mo_valueAt.2.2.1 43 = .ok (.if_icmp .eq (44), 3) := by decide +kernel
theorem d_Mo_valueAt_46 : decode m_Mo_valueAt.2.2.1 46 = .ok (.iload 5, 2) := by decide +kernel
theorem d_Mo_valueAt_48 : decode m_Mo_valueAt.2.2.1 48 = .ok (.iload_n 2, 1) := by decide +kernel
theorem d_Mo_valueAt_49 : decode m_Mo_valueAt.2.2.1 49 = .ok (.aload_n 0, 1) := by decide +kernel
theorem d_Mo_valueAt_50 : decode m_Mo_valueAt.2.2.1 50 = .ok (.iload 7, 2) := by decide +kernel
theorem d_Mo_valueAt_52 : decode m_Mo_valueAt.2.2.1 52 = .ok (.invokevirtual 88, 3) := by decide +kernel
theorem d_Mo_valueAt_55 : decode m_Mo_valueAt.2.2.1 55 = .ok (.isub, 1) := by decide +kernel
theorem d_Mo_valueAt_56 : decode m_Mo_valueAt.2.2.1 56 = .ok (.invokestatic 91, 3) := by decide +kernel
theorem d_Mo_valueAt_59 : decode m_Mo_valueAt.2.2.1 59 = .ok (.invokestatic 65, 3) := by decide +kernel
theorem d_Mo_valueAt_62 : decode m_Mo_valueAt.2.2.1 62 = .ok (.istore 5, 2) := by decide +kernel
theorem d_Mo_valueAt_64 : decode m_Mo_valueAt.2.2.1 64 = .ok (.iload 6, 2) := by decide +kernel
theorem d_Mo_valueAt_66 : decode m_Mo_valueAt.2.2.1 66 = .ok (.aload_n 0, 1) := by decide +kernel
theorem d_Mo_valueAt_67 : decode m_Mo_valueAt.2.2.1 67 = .ok (.iload 4, 2) := by decide +kernel
theorem d_Mo_valueAt_69 : decode m_Mo_valueAt.2.2.1 69 = .ok (.invokevirtual 88, 3) := by decide +kernel
theorem d_Mo_valueAt_72 : decode m_Mo_valueAt.2.2.1 72 = .ok (.aload_n 0, 1) := by decide +kernel
theorem d_Mo_valueAt_73 : decode m_Mo_valueAt.2.2.1 73 = .ok (.iload 7, 2) := by decide +kernel
theorem d_Mo_valueAt_75 : decode m_Mo_valueAt.2.2.1 75 = .ok (.invokevirtual 88, 3) := by decide +kernel
theorem d_Mo_valueAt_78 : decode m_Mo_valueAt.2.2.1 78 = .ok (.isub, 1) := by decide +kernel
theorem d_Mo_valueAt_79 : decode m_Mo_valueAt.2.2.1 79 = .ok (.invokestatic 91, 3) := by decide +kernel
theorem d_Mo_valueAt_82 : decode m_Mo_valueAt.2.2.1 82 = .ok (.invokestatic 65, 3) := by decide +kernel
theorem d_Mo_valueAt_85 : decode m_Mo_valueAt.2.2.1 85 = .ok (.istore 6, 2) := by decide +kernel
theorem d_Mo_valueAt_87 : decode m_Mo_valueAt.2.2.1 87 = .ok (.iinc 7 (1), 3) := by decide +kernel
theorem d_Mo_valueAt_90 : decode m_Mo_valueAt.2.2.1 90 = .ok (.goto (-58), 3) := by decide +kernel
theorem d_Mo_valueAt_93 : decode m_Mo_valueAt.2.2.1 93 = .ok (.iload_n 3, 1) := by decide +kernel
theorem d_Mo_valueAt_94 : decode m_Mo_valueAt.2.2.1 94 = .ok (.iload 5, 2) := by decide +kernel
theorem d_Mo_valueAt_96 : decode m_Mo_valueAt.2.2.1 96 = .ok (.iload 6, 2) := by decide +kernel
theorem d_Mo_valueAt_98 : decode m_Mo_valueAt.2.2.1 98 = .ok (.invokestatic 94, 3) := by decide +kernel
theorem d_Mo_valueAt_101 : decode m_Mo_valueAt.2.2.1 101 = .ok (.invokestatic 65, 3) := by decide +kernel
theorem d_Mo_valueAt_104 : decode m_Mo_valueAt.2.2.1 104 = .ok (.iadd, 1) := by decide +kernel
theorem d_Mo_valueAt_105 : decode m_Mo_valueAt.2.2.1 105 = .ok (.invokestatic 91, 3) := by decide +kernel
theorem d_Mo_valueAt_108 : decode m_Mo_valueAt.2.2.1 108 = .ok (.istore_n 3, 1) := by decide +kernel
theorem d_Mo_valueAt_109 : decode m_Mo_valueAt.2.2.1 109 = .ok (.iinc 4 (1), 3) := by decide +kernel
theorem d_Mo_valueAt_112 : decode m_Mo_valueAt.2.2.1 112 = .ok (.goto (-107), 3) := by decide +kernel
theorem d_Mo_valueAt_115 : decode m_Mo_valueAt.2.2.1 115 = .ok (.iload_n 3, 1) := by decide +kernel
theorem d_Mo_valueAt_116 : decode m_Mo_valueAt.2.2.1 116 = .ok (.ireturn, 1) := by decide +kernel
theorem d_Mo_at_0 : decode m_Mo_at.2.2.1 0 = .ok (.iload_n 1, 1) := by decide +kernel
theorem d_Mo_at_1 : decode m_Mo_at.2.2.1 1 = .ok (.invokestatic 74, 3) := by decide +kernel
theorem d_Mo_at_4 : decode m_Mo_at.2.2.1 4 = .ok (.ifCond .eq (26), 3) := by decide +kernel
theorem d_Mo_at_7 : decode m_Mo_at.2.2.1 7 = .ok (.iload_n 2, 1) := by decide +kernel
theorem d_Mo_at_8 : decode m_Mo_at.2.2.1 8 = .ok (.ifCond .lt (22), 3) := by decide +kernel
theorem d_Mo_at_11 : decode m_Mo_at.2.2.1 11 = .ok (.iload_n 2, 1) := by decide +kernel
theorem d_Mo_at_12 : decode m_Mo_at.2.2.1 12 = .ok (.bipush (32), 2) := by decide +kernel
theorem d_Mo_at_14 : decode m_Mo_at.2.2.1 14 = .ok (.if_icmp .ge (16), 3) := by decide +kernel
theorem d_Mo_at_17 : decode m_Mo_at.2.2.1 17 = .ok (.aload_n 0, 1) := by decide +kernel
theorem d_Mo_at_18 : decode m_Mo_at.2.2.1 18 = .ok (.iload_n 1, 1) := by decide +kernel
theorem d_Mo_at_19 : decode m_Mo_at.2.2.1 19 = .ok (.aload_n 0, 1) := by decide +kernel
theorem d_Mo_at_20 : decode m_Mo_at.2.2.1 20 = .ok (.iload_n 2, 1) := by decide +kernel
theorem d_Mo_at_21 : decode m_Mo_at.2.2.1 21 = .ok (.invokevirtual 97, 3) := by decide +kernel
theorem d_Mo_at_24 : decode m_Mo_at.2.2.1 24 = .ok (.invokevirtual 100, 3) := by decide +kernel
theorem d_Mo_at_27 : decode m_Mo_at.2.2.1 27 = .ok (.goto (4), 3) := by decide +kernel
theorem d_Mo_at_30 : decode m_Mo_at.2.2.1 30 = .ok (.iconst (-1), 1) := by decide +kernel
theorem d_Mo_at_31 : decode m_Mo_at.2.2.1 31 = .ok (.ireturn, 1) := by decide +kernel
theorem d_Mo_summed_0 : decode m_Mo_summed.2.2.1 0 = .ok (.iconst 0, 1) := by decide +kernel
theorem d_Mo_summed_1 : decode m_Mo_summed.2.2.1 1 = .ok (.istore_n 2, 1) := by decide +kernel
theorem d_Mo_summed_2 : decode m_Mo_summed.2.2.1 2 = .ok (.bipush (6), 2) := by decide +kernel
theorem d_Mo_summed_4 : decode m_Mo_summed.2.2.1 4 = .ok (.iload_n 1, 1) := by decide +kernel
theorem d_Mo_summed_5 : decode m_Mo_summed.2.2.1 5 = .ok (.imul, 1) := by decide +kernel
theorem d_Mo_summed_6 : decode m_Mo_summed.2.2.1 6 = .ok (.istore_n 3, 1) := by decide +kernel
theorem d_Mo_summed_7 : decode m_Mo_summed.2.2.1 7 = .ok (.iload_n 3, 1) := by decide +kernel
theorem d_Mo_summed_8 : decode m_Mo_summed.2.2.1 8 = .ok (.bipush (6), 2) := by decide +kernel
theorem d_Mo_summed_10 : decode m_Mo_summed.2.2.1 10 = .ok (.iload_n 1, 1) := by decide +kernel
theorem d_Mo_summed_11 : decode m_Mo_summed.2.2.1 11 = .ok (.imul, 1) := by decide +kernel
theorem d_Mo_summed_12 : decode m_Mo_summed.2.2.1 12 = .ok (.aload_n 0, 1) := by decide +kernel
theorem d_Mo_summed_13 : decode m_Mo_summed.2.2.1 13 = .ok (.getfield 13, 3) := by decide +kernel
theorem d_Mo_summed_16 : decode m_Mo_summed.2.2.1 16 = .ok (.iload_n 1, 1) := by decide +kernel
theorem d_Mo_summed_17 : decode m_Mo_summed.2.2.1 17 = .ok (.iaload, 1) := by decide +kernel
theorem d_Mo_summed_18 : decode m_Mo_summed.2.2.1 18 = .ok (.iadd, 1) := by decide +kernel
theorem d_Mo_summed_19 : decode m_Mo_summed.2.2.1 19 = .ok (.if_icmp .ge (49), 3) := by decide +kernel
theorem d_Mo_summed_22 : decode m_Mo_summed.2.2.1 22 = .ok (.iload_n 2, 1) := by decide +kernel
theorem d_Mo_summed_23 : decode m_Mo_summed.2.2.1 23 = .ok (.aload_n 0, 1) := by decide +kernel
theorem d_Mo_summed_24 : decode m_Mo_summed.2.2.1 24 = .ok (.getfield 16, 3) := by decide +kernel
theorem d_Mo_summed_27 : decode m_Mo_summed.2.2.1 27 = .ok (.iload_n 3, 1) := by decide +kernel
theorem d_Mo_summed_28 : decode m_Mo_summed.2.2.1 28 = .ok (.iaload, 1) := by decide +kernel
theorem d_Mo_summed_29 : decode m_Mo_summed.2.2.1 29 = .ok (.aload_n 0, 1) := by decide +kernel
theorem d_Mo_summed_30 : decode m_Mo_summed.2.2.1 30 = .ok (.getfield 58, 3) := by decide +kernel
theorem d_Mo_summed_33 : decode m_Mo_summed.2.2.1 33 = .ok (.aload_n 0, 1) := by decide +kernel
theorem d_Mo_summed_34 : decode m_Mo_summed.2.2.1 34 = .ok (.getfield 19, 3) := by decide +kernel
theorem d_Mo_summed_37 : decode m_Mo_summed.2.2.1 37 = .ok (.iload_n 3, 1) := by decide +kernel
theorem d_Mo_summed_38 : decode m_Mo_summed.2.2.1 38 = .ok (.iaload, 1) := by decide +kernel
theorem d_Mo_summed_39 : decode m_Mo_summed.2.2.1 39 = .ok (.iaload, 1) := by decide +kernel
theorem d_Mo_summed_40 : decode m_Mo_summed.2.2.1 40 = .ok (.aload_n 0, 1) := by decide +kernel
theorem d_Mo_summed_41 : decode m_Mo_summed.2.2.1 41 = .ok (.getfield 58, 3) := by decide +kernel
theorem d_Mo_summed_44 : decode m_Mo_summed.2.2.1 44 = .ok (.aload_n 0, 1) := by decide +kernel
theorem d_Mo_summed_45 : decode m_Mo_summed.2.2.1 45 = .ok (.getfield 22, 3) := by decide +kernel
theorem d_Mo_summed_48 : decode m_Mo_summed.2.2.1 48 = .ok (.iload_n 3, 1) := by decide +kernel
theorem d_Mo_summed_49 : decode m_Mo_summed.2.2.1 49 = .ok (.iaload, 1) := by decide +kernel
theorem d_Mo_summed_50 : decode m_Mo_summed.2.2.1 50 = .ok (.iaload, 1) := by decide +kernel
theorem d_Mo_summed_51 : decode m_Mo_summed.2.2.1 51 = .ok (.invokestatic 65, 3) := by decide +kernel
theorem d_Mo_summed_54 : decode m_Mo_summed.2.2.1 54 = .ok (.invokestatic 65, 3) := by decide +kernel
theorem d_Mo_summed_57 : decode m_Mo_summed.2.2.1 57 = .ok (.iadd, 1) := by decide +kernel
theorem d_Mo_summed_58 : decode m_Mo_summed.2.2.1 58 = .ok (.invokestatic 91, 3) := by decide +kernel
theorem d_Mo_summed_61 : decode m_Mo_summed.2.2.1 61 = .ok (.istore_n 2, 1) := by decide +kernel
theorem d_Mo_summed_62 : decode m_Mo_summed.2.2.1 62 = .ok (.iinc 3 (1), 3) := by decide +kernel
theorem d_Mo_summed_65 : decode m_Mo_summed.2.2.1 65 = .ok (.goto (-58), 3) := by decide +kernel
theorem d_Mo_summed_68 : decode m_Mo_summed.2.2.1 68 = .ok (.iload_n 2, 1) := by decide +kernel
theorem d_Mo_summed_69 : decode m_Mo_summed.2.2.1 69 = .ok (.ireturn, 1) := by decide +kernel
theorem d_Mo_letters_0 : decode m_Mo_letters.2.2.1 0 = .ok (.aload_n 0, 1) := by decide +kernel
theorem d_Mo_letters_1 : decode m_Mo_letters.2.2.1 1 = .ok (.getfield 58, 3) := by decide +kernel
theorem d_Mo_letters_4 : decode m_Mo_letters.2.2.1 4 = .ok (.iconst 0, 1) := by decide +kernel
theorem d_Mo_letters_5 : decode m_Mo_letters.2.2.1 5 = .ok (.iconst 1, 1) := by decide +kernel
theorem d_Mo_letters_6 : decode m_Mo_letters.2.2.1 6 = .ok (.iastore, 1) := by decide +kernel
theorem d_Mo_letters_7 : decode m_Mo_letters.2.2.1 7 = .ok (.aload_n 0, 1) := by decide +kernel
theorem d_Mo_letters_8 : decode m_Mo_letters.2.2.1 8 = .ok (.getfield 58, 3) := by decide +kernel
theorem d_Mo_letters_11 : decode m_Mo_letters.2.2.1 11 = .ok (.iconst 1, 1) := by decide +kernel
theorem d_Mo_letters_12 : decode m_Mo_letters.2.2.1 12 = .ok (.iload_n 1, 1) := by decide +kernel
theorem d_Mo_letters_13 : decode m_Mo_letters.2.2.1 13 = .ok (.iastore, 1) := by decide +kernel
theorem d_Mo_letters_14 : decode m_Mo_letters.2.2.1 14 = .ok (.aload_n 0, 1) := by decide +kernel
theorem d_Mo_letters_15 : decode m_Mo_letters.2.2.1 15 = .ok (.getfield 58, 3) := by decide +kernel
theorem d_Mo_letters_18 : decode m_Mo_letters.2.2.1 18 = .ok (.iconst 2, 1) := by decide +kernel
theorem d_Mo_letters_19 : decode m_Mo_letters.2.2.1 19 = .ok (.iload_n 2, 1) := by decide +kernel
theorem d_Mo_letters_20 : decode m_Mo_letters.2.2.1 20 = .ok (.iastore, 1) := by decide +kernel
theorem d_Mo_letters_21 : decode m_Mo_letters.2.2.1 21 = .ok (.aload_n 0, 1) := by decide +kernel
theorem d_Mo_letters_22 : decode m_Mo_letters.2.2.1 22 = .ok (.getfield 58, 3) := by decide +kernel
theorem d_Mo_letters_25 : decode m_Mo_letters.2.2.1 25 = .ok (.iconst 3, 1) := by decide +kernel
theorem d_Mo_letters_26 : decode m_Mo_letters.2.2.1 26 = .ok (.iload_n 3, 1) := by decide +kernel
theorem d_Mo_letters_27 : decode m_Mo_letters.2.2.1 27 = .ok (.iastore, 1) := by decide +kernel
theorem d_Mo_letters_28 : decode m_Mo_letters.2.2.1 28 = .ok (.aload_n 0, 1) := by decide +kernel
theorem d_Mo_letters_29 : decode m_Mo_letters.2.2.1 29 = .ok (.getfield 58, 3) := by decide +kernel
theorem d_Mo_letters_32 : decode m_Mo_letters.2.2.1 32 = .ok (.iconst 4, 1) := by decide +kernel
theorem d_Mo_letters_33 : decode m_Mo_letters.2.2.1 33 = .ok (.iload 4, 2) := by decide +kernel
theorem d_Mo_letters_35 : decode m_Mo_letters.2.2.1 35 = .ok (.iastore, 1) := by decide +kernel
theorem d_Mo_letters_36 : decode m_Mo_letters.2.2.1 36 = .ok (.return_, 1) := by decide +kernel
theorem d_Mo_isWrong_0 : decode m_Mo_isWrong.2.2.1 0 = .ok (.iconst 0, 1) := by decide +kernel
theorem d_Mo_isWrong_1 : decode m_Mo_isWrong.2.2.1 1 = .ok (.istore_n 2, 1) := by decide +kernel
theorem d_Mo_isWrong_2 : decode m_Mo_isWrong.2.2.1 2 = .ok (.iload_n 1, 1) := by decide +kernel
theorem d_Mo_isWrong_3 : decode m_Mo_isWrong.2.2.1 3 = .ok (.bipush (7), 2) := by decide +kernel
theorem d_Mo_isWrong_5 : decode m_Mo_isWrong.2.2.1 5 = .ok (.if_icmp .ge (61), 3) := by decide +kernel
theorem d_Mo_isWrong_8 : decode m_Mo_isWrong.2.2.1 8 = .ok (.aload_n 0, 1) := by decide +kernel
theorem d_Mo_isWrong_9 : decode m_Mo_isWrong.2.2.1 9 = .ok (.aload_n 0, 1) := by decide +kernel
theorem d_Mo_isWrong_10 : decode m_Mo_isWrong.2.2.1 10 = .ok (.getfield 7, 3) := by decide +kernel
theorem d_Mo_isWrong_13 : decode m_Mo_isWrong.2.2.1 13 = .ok (.iload_n 1, 1) := by decide +kernel
theorem d_Mo_isWrong_14 : decode m_Mo_isWrong.2.2.1 14 = .ok (.iaload, 1) := by decide +kernel
theorem d_Mo_isWrong_15 : decode m_Mo_isWrong.2.2.1 15 = .ok (.aload_n 0, 1) := by decide +kernel
theorem d_Mo_isWrong_16 : decode m_Mo_isWrong.2.2.1 16 = .ok (.getfield 7, 3) := by decide +kernel
theorem d_Mo_isWrong_19 : decode m_Mo_isWrong.2.2.1 19 = .ok (.bipush (8), 2) := by decide +kernel
theorem d_Mo_isWrong_21 : decode m_Mo_isWrong.2.2.1 21 = .ok (.iload_n 1, 1) := by decide +kernel
theorem d_Mo_isWrong_22 : decode m_Mo_isWrong.2.2.1 22 = .ok (.iadd, 1) := by decide +kernel
theorem d_Mo_isWrong_23 : decode m_Mo_isWrong.2.2.1 23 = .ok (.iaload, 1) := by decide +kernel
theorem d_Mo_isWrong_24 : decode m_Mo_isWrong.2.2.1 24 = .ok (.aload_n 0, 1) := by decide +kernel
theorem d_Mo_isWrong_25 : decode m_Mo_isWrong.2.2.1 25 = .ok (.getfield 7, 3) := by decide +kernel
theorem d_Mo_isWrong_28 : decode m_Mo_isWrong.2.2.1 28 = .ok (.iload_n 1, 1) := by decide +kernel
theorem d_Mo_isWrong_29 : decode m_Mo_isWrong.2.2.1 29 = .ok (.iconst 1, 1) := by decide +kernel
theorem d_Mo_isWrong_30 : decode m_Mo_isWrong.2.2.1 30 = .ok (.iadd, 1) := by decide +kernel
theorem d_Mo_isWrong_31 : decode m_Mo_isWrong.2.2.1 31 = .ok (.iaload, 1) := by decide +kernel
theorem d_Mo_isWrong_32 : decode m_Mo_isWrong.2.2.1 32 = .ok (.aload_n 0, 1) := by decide +kernel
theorem d_Mo_isWrong_33 : decode m_Mo_isWrong.2.2.1 33 = .ok (.getfield 7, 3) := by decide +kernel
theorem d_Mo_isWrong_36 : decode m_Mo_isWrong.2.2.1 36 = .ok (.bipush (9), 2) := by decide +kernel
theorem d_Mo_isWrong_38 : decode m_Mo_isWrong.2.2.1 38 = .ok (.iload_n 1, 1) := by decide +kernel
theorem d_Mo_isWrong_39 : decode m_Mo_isWrong.2.2.1 39 = .ok (.iadd, 1) := by decide +kernel
theorem d_Mo_isWrong_40 : decode m_Mo_isWrong.2.2.1 40 = .ok (.iaload, 1) := by decide +kernel
theorem d_Mo_isWrong_41 : decode m_Mo_isWrong.2.2.1 41 = .ok (.invokevirtual 103, 3) := by decide +kernel
theorem d_Mo_isWrong_44 : decode m_Mo_isWrong.2.2.1 44 = .ok (.aload_n 0, 1) := by decide +kernel
theorem d_Mo_isWrong_45 : decode m_Mo_isWrong.2.2.1 45 = .ok (.iconst 0, 1) := by decide +kernel
theorem d_Mo_isWrong_46 : decode m_Mo_isWrong.2.2.1 46 = .ok (.invokevirtual 107, 3) := by decide +kernel
theorem d_Mo_isWrong_49 : decode m_Mo_isWrong.2.2.1 49 = .ok (.ifCond .ne (11), 3) := by decide +kernel
theorem d_Mo_isWrong_52 : decode m_Mo_isWrong.2.2.1 52 = .ok (.aload_n 0, 1) := by decide +kernel
theorem d_Mo_isWrong_53 : decode m_Mo_isWrong.2.2.1 53 = .ok (.iconst 1, 1) := by decide +kernel
theorem d_Mo_isWrong_54 : decode m_Mo_isWrong.2.2.1 54 = .ok (.invokevirtual 107, 3) := by decide +kernel
theorem d_Mo_isWrong_57 : decode m_Mo_isWrong.2.2.1 57 = .ok (.ifCond .eq (7), 3) := by decide +kernel
theorem d_Mo_isWrong_60 : decode m_Mo_isWrong.2.2.1 60 = .ok (.iconst 1, 1) := by decide +kernel
theorem d_Mo_isWrong_61 : decode m_Mo_isWrong.2.2.1 61 = .ok (.goto (4), 3) := by decide +kernel
theorem d_Mo_isWrong_64 : decode m_Mo_isWrong.2.2.1 64 = .ok (.iconst 0, 1) := by decide +kernel
theorem d_Mo_isWrong_65 : decode m_Mo_isWrong.2.2.1 65 = .ok (.istore_n 2, 1) := by decide +kernel
theorem d_Mo_isWrong_66 : decode m_Mo_isWrong.2.2.1 66 = .ok (.iconst 0, 1) := by decide +kernel
theorem d_Mo_isWrong_67 : decode m_Mo_isWrong.2.2.1 67 = .ok (.istore_n 3, 1) := by decide +kernel
theorem d_Mo_isWrong_68 : decode m_Mo_isWrong.2.2.1 68 = .ok (.iload_n 3, 1) := by decide +kernel
theorem d_Mo_isWrong_69 : decode m_Mo_isWrong.2.2.1 69 = .ok (.aload_n 0, 1) := by decide +kernel
theorem d_Mo_isWrong_70 : decode m_Mo_isWrong.2.2.1 70 = .ok (.getfield 84, 3) := by decide +kernel
theorem d_Mo_isWrong_73 : decode m_Mo_isWrong.2.2.1 73 = .ok (.if_icmp .ge (54), 3) := by decide +kernel
theorem d_Mo_isWrong_76 : decode m_Mo_isWrong.2.2.1 76 = .ok (.iload_n 2, 1) := by decide +kernel
theorem d_Mo_isWrong_77 : decode m_Mo_isWrong.2.2.1 77 = .ok (.ifCond .ne (38), 3) := by decide +kernel
theorem d_Mo_isWrong_80 : decode m_Mo_isWrong.2.2.1 80 = .ok (.aload_n 0, 1) := by decide +kernel
theorem d_Mo_isWrong_81 : decode m_Mo_isWrong.2.2.1 81 = .ok (.getfield 28, 3) := by decide +kernel
theorem d_Mo_isWrong_84 : decode m_Mo_isWrong.2.2.1 84 = .ok (.iload_n 3, 1) := by decide +kernel
theorem d_Mo_isWrong_85 : decode m_Mo_isWrong.2.2.1 85 = .ok (.iaload, 1) := by decide +kernel
theorem d_Mo_isWrong_86 : decode m_Mo_isWrong.2.2.1 86 = .ok (.iload_n 1, 1) := by decide +kernel
theorem d_Mo_isWrong_87 : decode m_Mo_isWrong.2.2.1 87 = .ok (.if_icmp .ne (32), 3) := by decide +kernel
theorem d_Mo_isWrong_90 : decode m_Mo_isWrong.2.2.1 90 = .ok (.aload_n 0, 1) := by decide +kernel
theorem d_Mo_isWrong_91 : decode m_Mo_isWrong.2.2.1 91 = .ok (.getfield 7, 3) := by decide +kernel
theorem d_Mo_isWrong_94 : decode m_Mo_isWrong.2.2.1 94 = .ok (.bipush (8), 2) := by decide +kernel
theorem d_Mo_isWrong_96 : decode m_Mo_isWrong.2.2.1 96 = .ok (.aload_n 0, 1) := by decide +kernel
theorem d_Mo_isWrong_97 : decode m_Mo_isWrong.2.2.1 97 = .ok (.getfield 25, 3) := by decide +kernel
theorem d_Mo_isWrong_100 : decode m_Mo_isWrong.2.2.1 100 = .ok (.iload_n 3, 1) := by decide +kernel
theorem d_Mo_isWrong_101 : decode m_Mo_isWrong.2.2.1 101 = .ok (.iaload, 1) := by decide +kernel
theorem d_Mo_isWrong_102 : decode m_Mo_isWrong.2.2.1 102 = .ok (.imul, 1) := by decide +kernel
theorem d_Mo_isWrong_103 : decode m_Mo_isWrong.2.2.1 103 = .ok (.iload_n 1, 1) := by decide +kernel
theorem d_Mo_isWrong_104 : decode m_Mo_isWrong.2.2.1 104 = .ok (.iadd, 1) := by decide +kernel
theorem d_Mo_isWrong_105 : decode m_Mo_isWrong.2.2.1 105 = .ok (.iaload, 1) := by decide +kernel
theorem d_Mo_isWrong_106 : decode m_Mo_isWrong.2.2.1 106 = .ok (.aload_n 0, 1) := by decide +kernel
theorem d_Mo_isWrong_107 : decode m_Mo_isWrong.2.2.1 107 = .ok (.getfield 31, 3) := by decide +kernel
theorem d_Mo_isWrong_110 : decode m_Mo_isWrong.2.2.1 110 = .ok (.iload_n 3, 1) := by decide +kernel
theorem d_Mo_isWrong_111 : decode m_Mo_isWrong.2.2.1 111 = .ok (.iaload, 1) := by decide +kernel
theorem d_Mo_isWrong_112 : decode m_Mo_isWrong.2.2.1 112 = .ok (.if_icmp .eq (7), 3) := by decide +kernel
theorem d_Mo_isWrong_115 : decode m_Mo_isWrong.2.2.1 115 = .ok (.iconst 1, 1) := by decide +kernel
theorem d_Mo_isWrong_116 : decode m_Mo_isWrong.2.2.1 116 = .ok (.goto (4), 3) := by decide +kernel
theorem d_Mo_isWrong_119 : decode m_Mo_isWrong.2.2.1 119 = .ok (.iconst 0, 1) := by decide +kernel
theorem d_Mo_isWrong_120 : decode m_Mo_isWrong.2.2.1 120 = .ok (.istore_n 2, 1) := by decide +kernel
theorem d_Mo_isWrong_121 : decode m_Mo_isWrong.2.2.1 121 = .ok (.iinc 3 (1), 3) := by decide +kernel
theorem d_Mo_isWrong_124 : decode m_Mo_isWrong.2.2.1 124 = .ok (.goto (-56), 3) := by decide +kernel
theorem d_Mo_isWrong_127 : decode m_Mo_isWrong.2.2.1 127 = .ok (.iload_n 2, 1) := by decide +kernel
theorem d_Mo_isWrong_128 : decode m_Mo_isWrong.2.2.1 128 = .ok (.ireturn, 1) := by decide +kernel
theorem d_Mo_wrong_0 : decode m_Mo_wrong.2.2.1 0 = .ok (.iconst 0, 1) := by decide +kernel
theorem d_Mo_wrong_1 : decode m_Mo_wrong.2.2.1 1 = .ok (.istore_n 1, 1) := by decide +kernel
theorem d_Mo_wrong_2 : decode m_Mo_wrong.2.2.1 2 = .ok (.iload_n 1, 1) := by decide +kernel
theorem d_Mo_wrong_3 : decode m_Mo_wrong.2.2.1 3 = .ok (.bipush (8), 2) := by decide +kernel
theorem d_Mo_wrong_5 : decode m_Mo_wrong.2.2.1 5 = .ok (.if_icmp .ge (19), 3) := by decide +kernel
theorem d_Mo_wrong_8 : decode m_Mo_wrong.2.2.1 8 = .ok (.aload_n 0, 1) := by decide +kernel
theorem d_Mo_wrong_9 : decode m_Mo_wrong.2.2.1 9 = .ok (.iload_n 1, 1) := by decide +kernel
theorem d_Mo_wrong_10 : decode m_Mo_wrong.2.2.1 10 = .ok (.invokevirtual 110, 3) := by decide +kernel
theorem d_Mo_wrong_13 : decode m_Mo_wrong.2.2.1 13 = .ok (.ifCond .eq (5), 3) := by decide +kernel
theorem d_Mo_wrong_16 : decode m_Mo_wrong.2.2.1 16 = .ok (.iload_n 1, 1) := by decide +kernel
theorem d_Mo_wrong_17 : decode m_Mo_wrong.2.2.1 17 = .ok (.ireturn, 1) := by decide +kernel
theorem d_Mo_wrong_18 : decode m_Mo_wrong.2.2.1 18 = .ok (.iinc 1 (1), 3) := by decide +kernel
theorem d_Mo_wrong_21 : decode m_Mo_wrong.2.2.1 21 = .ok (.goto (-19), 3) := by decide +kernel
theorem d_Mo_wrong_24 : decode m_Mo_wrong.2.2.1 24 = .ok (.bipush (-2), 2) := by decide +kernel
theorem d_Mo_wrong_26 : decode m_Mo_wrong.2.2.1 26 = .ok (.ireturn, 1) := by decide +kernel
theorem d_Mo_composition_0 : decode m_Mo_composition.2.2.1 0 = .ok (.aload_n 0, 1) := by decide +kernel
theorem d_Mo_composition_1 : decode m_Mo_composition.2.2.1 1 = .ok (.iload_n 1, 1) := by decide +kernel
theorem d_Mo_composition_2 : decode m_Mo_composition.2.2.1 2 = .ok (.invokevirtual 97, 3) := by decide +kernel
theorem d_Mo_composition_5 : decode m_Mo_composition.2.2.1 5 = .ok (.istore_n 2, 1) := by decide +kernel
theorem d_Mo_composition_6 : decode m_Mo_composition.2.2.1 6 = .ok (.iconst 0, 1) := by decide +kernel
theorem d_Mo_composition_7 : decode m_Mo_composition.2.2.1 7 = .ok (.istore_n 3, 1) := by decide +kernel
theorem d_Mo_composition_8 : decode m_Mo_composition.2.2.1 8 = .ok (.iconst 1, 1) := by decide +kernel
theorem d_Mo_composition_9 : decode m_Mo_composition.2.2.1 9 = .ok (.istore 4, 2) := by decide +kernel
theorem d_Mo_composition_11 : decode m_Mo_composition.2.2.1 11 = .ok (.iconst 0, 1) := by decide +kernel
theorem d_Mo_composition_12 : decode m_Mo_composition.2.2.1 12 = .ok (.istore 5, 2) := by decide +kernel
theorem d_Mo_composition_14 : decode m_Mo_composition.2.2.1 14 = .ok (.iload 5, 2) := by decide +kernel
theorem d_Mo_composition_16 : decode m_Mo_composition.2.2.1 16 = .ok (.aload_n 0, 1) := by decide +kernel
theorem d_Mo_composition_17 : decode m_Mo_composition.2.2.1 17 = .ok (.invokevirtual 113, 3) := by decide +kernel
theorem d_Mo_composition_20 : decode m_Mo_composition.2.2.1 20 = .ok (.if_icmp .ge (76), 3) := by decide +kernel
theorem d_Mo_composition_23 : decode m_Mo_composition.2.2.1 23 = .ok (.aload_n 0, 1) := by decide +kernel
theorem d_Mo_composition_24 : decode m_Mo_composition.2.2.1 24 = .ok (.iload 5, 2) := by decide +kernel
theorem d_Mo_composition_26 : decode m_Mo_composition.2.2.1 26 = .ok (.invokevirtual 107, 3) := by decide +kernel
theorem d_Mo_composition_29 : decode m_Mo_composition.2.2.1 29 = .ok (.iload_n 2, 1) := by decide +kernel
theorem d_Mo_composition_30 : decode m_Mo_composition.2.2.1 30 = .ok (.aload_n 0, 1) := by decide +kernel
theorem d_Mo_composition_31 : decode m_Mo_composition.2.2.1 31 = .ok (.bipush (7), 2) := by decide +kernel
theorem d_Mo_composition_33 : decode m_Mo_composition.2.2.1 33 = .ok (.invokevirtual 88, 3) := by decide +kernel
theorem d_Mo_composition_36 : decode m_Mo_composition.2.2.1 36 = .ok (.isub, 1) := by decide +kernel
theorem d_Mo_composition_37 : decode m_Mo_composition.2.2.1 37 = .ok (.invokestatic 91, 3) := by decide +kernel
theorem d_Mo_composition_40 : decode m_Mo_composition.2.2.1 40 = .ok (.invokestatic 65, 3) := by decide +kernel
theorem d_Mo_composition_43 : decode m_Mo_composition.2.2.1 43 = .ok (.istore 6, 2) := by decide +kernel
theorem d_Mo_composition_45 : decode m_Mo_composition.2.2.1 45 = .ok (.iload 6, 2) := by decide +kernel
theorem d_Mo_composition_47 : decode m_Mo_composition.2.2.1 47 = .ok (.iload_n 2, 1) := by decide +kernel
theorem d_Mo_composition_48 : decode m_Mo_composition.2.2.1 48 = .ok (.bipush (8), 2) := by decide +kernel
theorem d_Mo_composition_50 : decode m_Mo_composition.2.2.1 50 = .ok (.invokestatic 61, 3) := by decide +kernel
theorem d_Mo_composition_53 : decode m_Mo_composition.2.2.1 53 = .ok (.iconst 1, 1) := by decide +kernel
theorem d_Mo_composition_54 : decode m_Mo_composition.2.2.1 54 = .ok (.isub, 1) := by decide +kernel
theorem d_Mo_composition_55 : decode m_Mo_composition.2.2.1 55 = .ok (.invokestatic 91, 3) := by decide +kernel
theorem d_Mo_composition_58 : decode m_Mo_composition.2.2.1 58 = .ok (.invokestatic 94, 3) := by decide +kernel
theorem d_Mo_composition_61 : decode m_Mo_composition.2.2.1 61 = .ok (.invokestatic 65, 3) := by decide +kernel
theorem d_Mo_composition_64 : decode m_Mo_composition.2.2.1 64 = .ok (.istore 6, 2) := by decide +kernel
theorem d_Mo_composition_66 : decode m_Mo_composition.2.2.1 66 = .ok (.iload_n 3, 1) := by decide +kernel
theorem d_Mo_composition_67 : decode m_Mo_composition.2.2.1 67 = .ok (.iload 4, 2) := by decide +kernel
theorem d_Mo_composition_69 : decode m_Mo_composition.2.2.1 69 = .ok (.iload 6, 2) := by decide +kernel
theorem d_Mo_composition_71 : decode m_Mo_composition.2.2.1 71 = .ok (.invokestatic 65, 3) := by decide +kernel
theorem d_Mo_composition_74 : decode m_Mo_composition.2.2.1 74 = .ok (.iadd, 1) := by decide +kernel
theorem d_Mo_composition_75 : decode m_Mo_composition.2.2.1 75 = .ok (.invokestatic 91, 3) := by decide +kernel
theorem d_Mo_composition_78 : decode m_Mo_composition.2.2.1 78 = .ok (.istore_n 3, 1) := by decide +kernel
theorem d_Mo_composition_79 : decode m_Mo_composition.2.2.1 79 = .ok (.iload 4, 2) := by decide +kernel
theorem d_Mo_composition_81 : decode m_Mo_composition.2.2.1 81 = .ok (.aload_n 0, 1) := by decide +kernel
theorem d_Mo_composition_82 : decode m_Mo_composition.2.2.1 82 = .ok (.getfield 117, 3) := by decide +kernel
theorem d_Mo_composition_85 : decode m_Mo_composition.2.2.1 85 = .ok (.invokestatic 65, 3) := by decide +kernel
theorem d_Mo_composition_88 : decode m_Mo_composition.2.2.1 88 = .ok (.istore 4, 2) := by decide +kernel
theorem d_Mo_composition_90 : decode m_Mo_composition.2.2.1 90 = .ok (.iinc 5 (1), 3) := by decide +kernel
theorem d_Mo_composition_93 : decode m_Mo_composition.2.2.1 93 = .ok (.goto (-79), 3) := by decide +kernel
theorem d_Mo_composition_96 : decode m_Mo_composition.2.2.1 96 = .ok (.iconst 0, 1) := by decide +kernel
theorem d_Mo_composition_97 : decode m_Mo_composition.2.2.1 97 = .ok (.istore 5, 2) := by decide +kernel
theorem d_Mo_composition_99 : decode m_Mo_composition.2.2.1 99 = .ok (.iload 5, 2) := by decide +kernel
theorem d_Mo_composition_101 : decode m_Mo_composition.2.2.1 101 = .ok (.aload_n 0, 1) := by decide +kernel
theorem d_Mo_composition_102 : decode m_Mo_composition.2.2.1 102 = .ok (.getfield 84, 3) := by decide +kernel
theorem d_Mo_composition_105 : decode m_Mo_composition.2.2.1 105 = .ok (.if_icmp .ge (86), 3) := by decide +kernel
theorem d_Mo_composition_108 : decode m_Mo_composition.2.2.1 108 = .ok (.aload_n 0, 1) := by decide +kernel
theorem d_Mo_composition_109 : decode m_Mo_composition.2.2.1 109 = .ok (.getfield 58, 3) := by decide +kernel
theorem d_Mo_composition_112 : decode m_Mo_composition.2.2.1 112 = .ok (.iconst 1, 1) := by decide +kernel
theorem d_Mo_composition_113 : decode m_Mo_composition.2.2.1 113 = .ok (.aload_n 0, 1) := by decide +kernel
theorem d_Mo_composition_114 : decode m_Mo_composition.2.2.1 114 = .ok (.getfield 25, 3) := by decide +kernel
theorem d_Mo_composition_117 : decode m_Mo_composition.2.2.1 117 = .ok (.iload 5, 2) := by decide +kernel
theorem d_Mo_composition_119 : decode m_Mo_composition.2.2.1 119 = .ok (.iaload, 1) := by decide +kernel
theorem d_Mo_composition_120 : decode m_Mo_composition.2.2.1 120 = .ok (.iadd, 1) := by decide +kernel
theorem d_Mo_composition_121 : decode m_Mo_composition.2.2.1 121 = .ok (.iaload, 1) := by decide +kernel
theorem d_Mo_composition_122 : decode m_Mo_composition.2.2.1 122 = .ok (.aload_n 0, 1) := by decide +kernel
theorem d_Mo_composition_123 : decode m_Mo_composition.2.2.1 123 = .ok (.getfield 31, 3) := by decide +kernel
theorem d_Mo_composition_126 : decode m_Mo_composition.2.2.1 126 = .ok (.iload 5, 2) := by decide +kernel
theorem d_Mo_composition_128 : decode m_Mo_composition.2.2.1 128 = .ok (.iaload, 1) := by decide +kernel
theorem d_Mo_composition_129 : decode m_Mo_composition.2.2.1 129 = .ok (.isub, 1) := by decide +kernel
theorem d_Mo_composition_130 : decode m_Mo_composition.2.2.1 130 = .ok (.invokestatic 91, 3) := by decide +kernel
theorem d_Mo_composition_133 : decode m_Mo_composition.2.2.1 133 = .ok (.istore 6, 2) := by decide +kernel
theorem d_Mo_composition_135 : decode m_Mo_composition.2.2.1 135 = .ok (.iload 6, 2) := by decide +kernel
theorem d_Mo_composition_137 : decode m_Mo_composition.2.2.1 137 = .ok (.iload_n 2, 1) := by decide +kernel
theorem d_Mo_composition_138 : decode m_Mo_composition.2.2.1 138 = .ok (.aload_n 0, 1) := by decide +kernel
theorem d_Mo_composition_139 : decode m_Mo_composition.2.2.1 139 = .ok (.aload_n 0, 1) := by decide +kernel
theorem d_Mo_composition_140 : decode m_Mo_composition.2.2.1 140 = .ok (.getfield 28, 3) := by decide +kernel
theorem d_Mo_composition_143 : decode m_Mo_composition.2.2.1 143 = .ok (.iload 5, 2) := by decide +kernel
theorem d_Mo_composition_145 : decode m_Mo_composition.2.2.1 145 = .ok (.iaload, 1) := by decide +kernel
theorem d_Mo_composition_146 : decode m_Mo_composition.2.2.1 146 = .ok (.invokevirtual 88, 3) := by decide +kernel
theorem d_Mo_composition_149 : decode m_Mo_composition.2.2.1 149 = .ok (.isub, 1) := by decide +kernel
theorem d_Mo_composition_150 : decode m_Mo_composition.2.2.1 150 = .ok (.invokestatic 91, 3) := by decide +kernel
theorem d_Mo_composition_153 : decode m_Mo_composition.2.2.1 153 = .ok (.invokestatic 94, 3) := by decide +kernel
theorem d_Mo_composition_156 : decode m_Mo_composition.2.2.1 156 = .ok (.invokestatic 65, 3) := by decide +kernel
theorem d_Mo_composition_159 : decode m_Mo_composition.2.2.1 159 = .ok (.istore 6, 2) := by decide +kernel
theorem d_Mo_composition_161 : decode m_Mo_composition.2.2.1 161 = .ok (.iload_n 3, 1) := by decide +kernel
theorem d_Mo_composition_162 : decode m_Mo_composition.2.2.1 162 = .ok (.iload 4, 2) := by decide +kernel
theorem d_Mo_composition_164 : decode m_Mo_composition.2.2.1 164 = .ok (.iload 6, 2) := by decide +kernel
theorem d_Mo_composition_166 : decode m_Mo_composition.2.2.1 166 = .ok (.invokestatic 65, 3) := by decide +kernel
theorem d_Mo_composition_169 : decode m_Mo_composition.2.2.1 169 = .ok (.iadd, 1) := by decide +kernel
theorem d_Mo_composition_170 : decode m_Mo_composition.2.2.1 170 = .ok (.invokestatic 91, 3) := by decide +kernel
theorem d_Mo_composition_173 : decode m_Mo_composition.2.2.1 173 = .ok (.istore_n 3, 1) := by decide +kernel
theorem d_Mo_composition_174 : decode m_Mo_composition.2.2.1 174 = .ok (.iload 4, 2) := by decide +kernel
theorem d_Mo_composition_176 : decode m_Mo_composition.2.2.1 176 = .ok (.aload_n 0, 1) := by decide +kernel
theorem d_Mo_composition_177 : decode m_Mo_composition.2.2.1 177 = .ok (.getfield 117, 3) := by decide +kernel
theorem d_Mo_composition_180 : decode m_Mo_composition.2.2.1 180 = .ok (.invokestatic 65, 3) := by decide +kernel
theorem d_Mo_composition_183 : decode m_Mo_composition.2.2.1 183 = .ok (.istore 4, 2) := by decide +kernel
theorem d_Mo_composition_185 : decode m_Mo_composition.2.2.1 185 = .ok (.iinc 5 (1), 3) := by decide +kernel
theorem d_Mo_composition_188 : decode m_Mo_composition.2.2.1 188 = .ok (.goto (-89), 3) := by decide +kernel
theorem d_Mo_composition_191 : decode m_Mo_composition.2.2.1 191 = .ok (.iload_n 3, 1) := by decide +kernel
theorem d_Mo_composition_192 : decode m_Mo_composition.2.2.1 192 = .ok (.ireturn, 1) := by decide +kernel
theorem d_Mo_folded_0 : decode m_Mo_folded.2.2.1 0 = .ok (.aload_n 0, 1) := by decide +kernel
theorem d_Mo_folded_1 : decode m_Mo_folded.2.2.1 1 = .ok (.iload_n 2, 1) := by decide +kernel
theorem d_Mo_folded_2 : decode m_Mo_folded.2.2.1 2 = .ok (.invokevirtual 97, 3) := by decide +kernel
theorem d_Mo_folded_5 : decode m_Mo_folded.2.2.1 5 = .ok (.iconst 1, 1) := by decide +kernel
theorem d_Mo_folded_6 : decode m_Mo_folded.2.2.1 6 = .ok (.iload_n 1, 1) := by decide +kernel
theorem d_Mo_folded_7 : decode m_Mo_folded.2.2.1 7 = .ok (.ishl, 1) := by decide +kernel
theorem d_Mo_folded_8 : decode m_Mo_folded.2.2.1 8 = .ok (.invokestatic 61, 3) := by decide +kernel
theorem d_Mo_folded_11 : decode m_Mo_folded.2.2.1 11 = .ok (.istore 5, 2) := by decide +kernel
theorem d_Mo_folded_13 : decode m_Mo_folded.2.2.1 13 = .ok (.iload_n 3, 1) := by decide +kernel
theorem d_Mo_folded_14 : decode m_Mo_folded.2.2.1 14 = .ok (.iload 4, 2) := by decide +kernel
theorem d_Mo_folded_16 : decode m_Mo_folded.2.2.1 16 = .ok (.iadd, 1) := by decide +kernel
theorem d_Mo_folded_17 : decode m_Mo_folded.2.2.1 17 = .ok (.invokestatic 91, 3) := by decide +kernel
theorem d_Mo_folded_20 : decode m_Mo_folded.2.2.1 20 = .ok (.iconst 2, 1) := by decide +kernel
theorem d_Mo_folded_21 : decode m_Mo_folded.2.2.1 21 = .ok (.invokestatic 94, 3) := by decide +kernel
theorem d_Mo_folded_24 : decode m_Mo_folded.2.2.1 24 = .ok (.invokestatic 65, 3) := by decide +kernel
theorem d_Mo_folded_27 : decode m_Mo_folded.2.2.1 27 = .ok (.istore 6, 2) := by decide +kernel
theorem d_Mo_folded_29 : decode m_Mo_folded.2.2.1 29 = .ok (.iload 6, 2) := by decide +kernel
theorem d_Mo_folded_31 : decode m_Mo_folded.2.2.1 31 = .ok (.aload_n 0, 1) := by decide +kernel
theorem d_Mo_folded_32 : decode m_Mo_folded.2.2.1 32 = .ok (.getfield 37, 3) := by decide +kernel
theorem d_Mo_folded_35 : decode m_Mo_folded.2.2.1 35 = .ok (.iload_n 1, 1) := by decide +kernel
theorem d_Mo_folded_36 : decode m_Mo_folded.2.2.1 36 = .ok (.iaload, 1) := by decide +kernel
theorem d_Mo_folded_37 : decode m_Mo_folded.2.2.1 37 = .ok (.iload_n 3, 1) := by decide +kernel
theorem d_Mo_folded_38 : decode m_Mo_folded.2.2.1 38 = .ok (.iload 4, 2) := by decide +kernel
theorem d_Mo_folded_40 : decode m_Mo_folded.2.2.1 40 = .ok (.isub, 1) := by decide +kernel
theorem d_Mo_folded_41 : decode m_Mo_folded.2.2.1 41 = .ok (.invokestatic 91, 3) := by decide +kernel
theorem d_Mo_folded_44 : decode m_Mo_folded.2.2.1 44 = .ok (.iconst 2, 1) := by decide +kernel
theorem d_Mo_folded_45 : decode m_Mo_folded.2.2.1 45 = .ok (.iload 5, 2) := by decide +kernel
theorem d_Mo_folded_47 : decode m_Mo_folded.2.2.1 47 = .ok (.invokestatic 65, 3) := by decide +kernel
theorem d_Mo_folded_50 : decode m_Mo_folded.2.2.1 50 = .ok (.invokestatic 94, 3) := by decide +kernel
theorem d_Mo_folded_53 : decode m_Mo_folded.2.2.1 53 = .ok (.invokestatic 65, 3) := by decide +kernel
theorem d_Mo_folded_56 : decode m_Mo_folded.2.2.1 56 = .ok (.invokestatic 65, 3) := by decide +kernel
theorem d_Mo_folded_59 : decode m_Mo_folded.2.2.1 59 = .ok (.iadd, 1) := by decide +kernel
theorem d_Mo_folded_60 : decode m_Mo_folded.2.2.1 60 = .ok (.invokestatic 91, 3) := by decide +kernel
theorem d_Mo_folded_63 : decode m_Mo_folded.2.2.1 63 = .ok (.ireturn, 1) := by decide +kernel
theorem d_Mo_tell_0 : decode m_Mo_tell.2.2.1 0 = .ok (.aload_n 0, 1) := by decide +kernel
theorem d_Mo_tell_1 : decode m_Mo_tell.2.2.1 1 = .ok (.aload_n 0, 1) := by decide +kernel
theorem d_Mo_tell_2 : decode m_Mo_tell.2.2.1 2 = .ok (.getfield 120, 3) := by decide +kernel
theorem d_Mo_tell_5 : decode m_Mo_tell.2.2.1 5 = .ok (.iload_n 1, 1) := by decide +kernel
theorem d_Mo_tell_6 : decode m_Mo_tell.2.2.1 6 = .ok (.invokestatic 123, 3) := by decide +kernel
theorem d_Mo_tell_9 : decode m_Mo_tell.2.2.1 9 = .ok (.putfield 120, 3) := by decide +kernel
theorem d_Mo_tell_12 : decode m_Mo_tell.2.2.1 12 = .ok (.return_, 1) := by decide +kernel
theorem d_Mo_challenge_0 : decode m_Mo_challenge.2.2.1 0 = .ok (.aload_n 0, 1) := by decide +kernel
theorem d_Mo_challenge_1 : decode m_Mo_challenge.2.2.1 1 = .ok (.bipush (-7), 2) := by decide +kernel
theorem d_Mo_challenge_3 : decode m_Mo_challenge.2.2.1 3 = .ok (.invokevirtual 126, 3) := by decide +kernel
theorem d_Mo_challenge_6 : decode m_Mo_challenge.2.2.1 6 = .ok (.aload_n 0, 1) := by decide +kernel
theorem d_Mo_challenge_7 : decode m_Mo_challenge.2.2.1 7 = .ok (.getfield 120, 3) := by decide +kernel
theorem d_Mo_challenge_10 : decode m_Mo_challenge.2.2.1 10 = .ok (.ldc 130, 2) := by decide +kernel
theorem d_Mo_challenge_12 : decode m_Mo_challenge.2.2.1 12 = .ok (.iand, 1) := by decide +kernel
theorem d_Mo_challenge_13 : decode m_Mo_challenge.2.2.1 13 = .ok (.sipush (12289), 3) := by decide +kernel
theorem d_Mo_challenge_16 : decode m_Mo_challenge.2.2.1 16 = .ok (.irem, 1) := by decide +kernel
theorem d_Mo_challenge_17 : decode m_Mo_challenge.2.2.1 17 = .ok (.ireturn, 1) := by decide +kernel
theorem d_Mo_tellRules_0 : decode m_Mo_tellRules.2.2.1 0 = .ok (.aload_n 0, 1) := by decide +kernel
theorem d_Mo_tellRules_1 : decode m_Mo_tellRules.2.2.1 1 = .ok (.iconst 1, 1) := by decide +kernel
theorem d_Mo_tellRules_2 : decode m_Mo_tellRules.2.2.1 2 = .ok (.putfield 120, 3) := by decide +kernel
theorem d_Mo_tellRules_5 : decode m_Mo_tellRules.2.2.1 5 = .ok (.aload_n 0, 1) := by decide +kernel
theorem d_Mo_tellRules_6 : decode m_Mo_tellRules.2.2.1 6 = .ok (.aload_n 0, 1) := by decide +kernel
theorem d_Mo_tellRules_7 : decode m_Mo_tellRules.2.2.1 7 = .ok (.invokevirtual 113, 3) := by decide +kernel
theorem d_Mo_tellRules_10 : decode m_Mo_tellRules.2.2.1 10 = .ok (.invokevirtual 126, 3) := by decide +kernel
theorem d_Mo_tellRules_13 : decode m_Mo_tellRules.2.2.1 13 = .ok (.iconst 0, 1) := by decide +kernel
theorem d_Mo_tellRules_14 : decode m_Mo_tellRules.2.2.1 14 = .ok (.istore_n 1, 1) := by decide +kernel
theorem d_Mo_tellRules_15 : decode m_Mo_tellRules.2.2.1 15 = .ok (.iload_n 1, 1) := by decide +kernel
theorem d_Mo_tellRules_16 : decode m_Mo_tellRules.2.2.1 16 = .ok (.aload_n 0, 1) := by decide +kernel
theorem d_Mo_tellRules_17 : decode m_Mo_tellRules.2.2.1 17 = .ok (.invokevirtual 113, 3) := by decide +kernel
theorem d_Mo_tellRules_20 : decode m_Mo_tellRules.2.2.1 20 = .ok (.if_icmp .ge (75), 3) := by decide +kernel
theorem d_Mo_tellRules_23 : decode m_Mo_tellRules.2.2.1 23 = .ok (.aload_n 0, 1) := by decide +kernel
theorem d_Mo_tellRules_24 : decode m_Mo_tellRules.2.2.1 24 = .ok (.aload_n 0, 1) := by decide +kernel
theorem d_Mo_tellRules_25 : decode m_Mo_tellRules.2.2.1 25 = .ok (.getfield 13, 3) := by decide +kernel
theorem d_Mo_tellRules_28 : decode m_Mo_tellRules.2.2.1 28 = .ok (.iload_n 1, 1) := by decide +kernel
theorem d_Mo_tellRules_29 : decode m_Mo_tellRules.2.2.1 29 = .ok (.iaload, 1) := by decide +kernel
theorem d_Mo_tellRules_30 : decode m_Mo_tellRules.2.2.1 30 = .ok (.invokevirtual 126, 3) := by decide +kernel
theorem d_Mo_tellRules_33 : decode m_Mo_tellRules.2.2.1 33 = .ok (.bipush (6), 2) := by decide +kernel
theorem d_Mo_tellRules_35 : decode m_Mo_tellRules.2.2.1 35 = .ok (.iload_n 1, 1) := by decide +kernel
theorem d_Mo_tellRules_36 : decode m_Mo_tellRules.2.2.1 36 = .ok (.imul, 1) := by decide +kernel
theorem d_Mo_tellRules_37 : decode m_Mo_tellRules.2.2.1 37 = .ok (.istore_n 2, 1) := by decide +kernel
theorem d_Mo_tellRules_38 : decode m_Mo_tellRules.2.2.1 38 = .ok (.iload_n 2, 1) := by decide +kernel
theorem d_Mo_tellRules_39 : decode m_Mo_tellRules.2.2.1 39 = .ok (.bipush (6), 2) := by decide +kernel
theorem d_Mo_tellRules_41 : decode m_Mo_tellRules.2.2.1 41 = .ok (.iload_n 1, 1) := by decide +kernel
theorem d_Mo_tellRules_42 : decode m_Mo_tellRules.2.2.1 42 = .ok (.imul, 1) := by decide +kernel
theorem d_Mo_tellRules_43 : decode m_Mo_tellRules.2.2.1 43 = .ok (.aload_n 0, 1) := by decide +kernel
theorem d_Mo_tellRules_44 : decode m_Mo_tellRules.2.2.1 44 = .ok (.getfield 13, 3) := by decide +kernel
theorem d_Mo_tellRules_47 : decode m_Mo_tellRules.2.2.1 47 = .ok (.iload_n 1, 1) := by decide +kernel
theorem d_Mo_tellRules_48 : decode m_Mo_tellRules.2.2.1 48 = .ok (.iaload, 1) := by decide +kernel
theorem d_Mo_tellRules_49 : decode m_Mo_tellRules.2.2.1 49 = .ok (.iadd, 1) := by decide +kernel
theorem d_Mo_tellRules_50 : decode m_Mo_tellRules.2.2.1 50 = .ok (.if_icmp .ge (39), 3) := by decide +kernel
theorem d_Mo_tellRules_53 : decode m_Mo_tellRules.2.2.1 53 = .ok (.aload_n 0, 1) := by decide +kernel
theorem d_Mo_tellRules_54 : decode m_Mo_tellRules.2.2.1 54 = .ok (.aload_n 0, 1) := by decide +kernel
theorem d_Mo_tellRules_55 : decode m_Mo_tellRules.2.2.1 55 = .ok (.getfield 16, 3) := by decide +kernel
theorem d_Mo_tellRules_58 : decode m_Mo_tellRules.2.2.1 58 = .ok (.iload_n 2, 1) := by decide +kernel
theorem d_Mo_tellRules_59 : decode m_Mo_tellRules.2.2.1 59 = .ok (.iaload, 1) := by decide +kernel
theorem d_Mo_tellRules_60 : decode m_Mo_tellRules.2.2.1 60 = .ok (.invokevirtual 126, 3) := by decide +kernel
theorem d_Mo_tellRules_63 : decode m_Mo_tellRules.2.2.1 63 = .ok (.aload_n 0, 1) := by decide +kernel
theorem d_Mo_tellRules_64 : decode m_Mo_tellRules.2.2.1 64 = .ok (.aload_n 0, 1) := by decide +kernel
theorem d_Mo_tellRules_65 : decode m_Mo_tellRules.2.2.1 65 = .ok (.getfield 19, 3) := by decide +kernel
theorem d_Mo_tellRules_68 : decode m_Mo_tellRules.2.2.1 68 = .ok (.iload_n 2, 1) := by decide +kernel
theorem d_Mo_tellRules_69 : decode m_Mo_tellRules.2.2.1 69 = .ok (.iaload, 1) := by decide +kernel
theorem d_Mo_tellRules_70 : decode m_Mo_tellRules.2.2.1 70 = .ok (.invokevirtual 126, 3) := by decide +kernel
theorem d_Mo_tellRules_73 : decode m_Mo_tellRules.2.2.1 73 = .ok (.aload_n 0, 1) := by decide +kernel
theorem d_Mo_tellRules_74 : decode m_Mo_tellRules.2.2.1 74 = .ok (.aload_n 0, 1) := by decide +kernel
theorem d_Mo_tellRules_75 : decode m_Mo_tellRules.2.2.1 75 = .ok (.getfield 22, 3) := by decide +kernel
theorem d_Mo_tellRules_78 : decode m_Mo_tellRules.2.2.1 78 = .ok (.iload_n 2, 1) := by decide +kernel
theorem d_Mo_tellRules_79 : decode m_Mo_tellRules.2.2.1 79 = .ok (.iaload, 1) := by decide +kernel
theorem d_Mo_tellRules_80 : decode m_Mo_tellRules.2.2.1 80 = .ok (.invokevirtual 126, 3) := by decide +kernel
theorem d_Mo_tellRules_83 : decode m_Mo_tellRules.2.2.1 83 = .ok (.iinc 2 (1), 3) := by decide +kernel
theorem d_Mo_tellRules_86 : decode m_Mo_tellRules.2.2.1 86 = .ok (.goto (-48), 3) := by decide +kernel
theorem d_Mo_tellRules_89 : decode m_Mo_tellRules.2.2.1 89 = .ok (.iinc 1 (1), 3) := by decide +kernel
theorem d_Mo_tellRules_92 : decode m_Mo_tellRules.2.2.1 92 = .ok (.goto (-77), 3) := by decide +kernel
theorem d_Mo_tellRules_95 : decode m_Mo_tellRules.2.2.1 95 = .ok (.aload_n 0, 1) := by decide +kernel
theorem d_Mo_tellRules_96 : decode m_Mo_tellRules.2.2.1 96 = .ok (.aload_n 0, 1) := by decide +kernel
theorem d_Mo_tellRules_97 : decode m_Mo_tellRules.2.2.1 97 = .ok (.getfield 84, 3) := by decide +kernel
theorem d_Mo_tellRules_100 : decode m_Mo_tellRules.2.2.1 100 = .ok (.invokevirtual 126, 3) := by decide +kernel
theorem d_Mo_tellRules_103 : decode m_Mo_tellRules.2.2.1 103 = .ok (.iconst 0, 1) := by decide +kernel
theorem d_Mo_tellRules_104 : decode m_Mo_tellRules.2.2.1 104 = .ok (.istore_n 1, 1) := by decide +kernel
theorem d_Mo_tellRules_105 : decode m_Mo_tellRules.2.2.1 105 = .ok (.iload_n 1, 1) := by decide +kernel
theorem d_Mo_tellRules_106 : decode m_Mo_tellRules.2.2.1 106 = .ok (.aload_n 0, 1) := by decide +kernel
theorem d_Mo_tellRules_107 : decode m_Mo_tellRules.2.2.1 107 = .ok (.getfield 84, 3) := by decide +kernel
theorem d_Mo_tellRules_110 : decode m_Mo_tellRules.2.2.1 110 = .ok (.if_icmp .ge (39), 3) := by decide +kernel
theorem d_Mo_tellRules_113 : decode m_Mo_tellRules.2.2.1 113 = .ok (.aload_n 0, 1) := by decide +kernel
theorem d_Mo_tellRules_114 : decode m_Mo_tellRules.2.2.1 114 = .ok (.aload_n 0, 1) := by decide +kernel
theorem d_Mo_tellRules_115 : decode m_Mo_tellRules.2.2.1 115 = .ok (.getfield 25, 3) := by decide +kernel
theorem d_Mo_tellRules_118 : decode m_Mo_tellRules.2.2.1 118 = .ok (.iload_n 1, 1) := by decide +kernel
theorem d_Mo_tellRules_119 : decode m_Mo_tellRules.2.2.1 119 = .ok (.iaload, 1) := by decide +kernel
theorem d_Mo_tellRules_120 : decode m_Mo_tellRules.2.2.1 120 = .ok (.invokevirtual 126, 3) := by decide +kernel
end
section
theorem d_Mo_tellRules_123 : decode m_Mo_tellRules.2.2.1 123 = .ok (.aload_n 0, 1) := by decide +kernel
theorem d_Mo_tellRules_124 : decode m_Mo_tellRules.2.2.1 124 = .ok (.aload_n 0, 1) := by decide +kernel
theorem d_Mo_tellRules_125 : decode m_Mo_tellRules.2.2.1 125 = .ok (.getfield 28, 3) := by decide +kernel
theorem d_Mo_tellRules_128 : decode m_Mo_tellRules.2.2.1 128 = .ok (.iload_n 1, 1) := by decide +kernel
theorem d_Mo_tellRules_129 : decode m_Mo_tellRules.2.2.1 129 = .ok (.iaload, 1) := by decide +kernel
theorem d_Mo_tellRules_130 : decode m_Mo_tellRules.2.2.1 130 = .ok (.invokevirtual 126, 3) := by decide +kernel
theorem d_Mo_tellRules_133 : decode m_Mo_tellRules.2.2.1 133 = .ok (.aload_n 0, 1) := by decide +kernel
theorem d_Mo_tellRules_134 : decode m_Mo_tellRules.2.2.1 134 = .ok (.aload_n 0, 1) := by decide +kernel
theorem d_Mo_tellRules_135 : decode m_Mo_tellRules.2.2.1 135 = .ok (.getfield 31, 3) := by decide +kernel
theorem d_Mo_tellRules_138 : decode m_Mo_tellRules.2.2.1 138 = .ok (.iload_n 1, 1) := by decide +kernel
theorem d_Mo_tellRules_139 : decode m_Mo_tellRules.2.2.1 139 = .ok (.iaload, 1) := by decide +kernel
theorem d_Mo_tellRules_140 : decode m_Mo_tellRules.2.2.1 140 = .ok (.invokevirtual 126, 3) := by decide +kernel
theorem d_Mo_tellRules_143 : decode m_Mo_tellRules.2.2.1 143 = .ok (.iinc 1 (1), 3) := by decide +kernel
theorem d_Mo_tellRules_146 : decode m_Mo_tellRules.2.2.1 146 = .ok (.goto (-41), 3) := by decide +kernel
theorem d_Mo_tellRules_149 : decode m_Mo_tellRules.2.2.1 149 = .ok (.return_, 1) := by decide +kernel
theorem d_Mo_tellRest_0 : decode m_Mo_tellRest.2.2.1 0 = .ok (.aload_n 0, 1) := by decide +kernel
theorem d_Mo_tellRest_1 : decode m_Mo_tellRest.2.2.1 1 = .ok (.iload_n 1, 1) := by decide +kernel
theorem d_Mo_tellRest_2 : decode m_Mo_tellRest.2.2.1 2 = .ok (.invokevirtual 126, 3) := by decide +kernel
theorem d_Mo_tellRest_5 : decode m_Mo_tellRest.2.2.1 5 = .ok (.iconst 0, 1) := by decide +kernel
theorem d_Mo_tellRest_6 : decode m_Mo_tellRest.2.2.1 6 = .ok (.istore_n 2, 1) := by decide +kernel
theorem d_Mo_tellRest_7 : decode m_Mo_tellRest.2.2.1 7 = .ok (.iload_n 2, 1) := by decide +kernel
theorem d_Mo_tellRest_8 : decode m_Mo_tellRest.2.2.1 8 = .ok (.iconst 3, 1) := by decide +kernel
theorem d_Mo_tellRest_9 : decode m_Mo_tellRest.2.2.1 9 = .ok (.if_icmp .ge (31), 3) := by decide +kernel
theorem d_Mo_tellRest_12 : decode m_Mo_tellRest.2.2.1 12 = .ok (.aload_n 0, 1) := by decide +kernel
theorem d_Mo_tellRest_13 : decode m_Mo_tellRest.2.2.1 13 = .ok (.bipush (-9), 2) := by decide +kernel
theorem d_Mo_tellRest_15 : decode m_Mo_tellRest.2.2.1 15 = .ok (.invokevirtual 126, 3) := by decide +kernel
theorem d_Mo_tellRest_18 : decode m_Mo_tellRest.2.2.1 18 = .ok (.aload_n 0, 1) := by decide +kernel
theorem d_Mo_tellRest_19 : decode m_Mo_tellRest.2.2.1 19 = .ok (.getfield 40, 3) := by decide +kernel
theorem d_Mo_tellRest_22 : decode m_Mo_tellRest.2.2.1 22 = .ok (.iload_n 2, 1) := by decide +kernel
theorem d_Mo_tellRest_23 : decode m_Mo_tellRest.2.2.1 23 = .ok (.aload_n 0, 1) := by decide +kernel
theorem d_Mo_tellRest_24 : decode m_Mo_tellRest.2.2.1 24 = .ok (.getfield 120, 3) := by decide +kernel
theorem d_Mo_tellRest_27 : decode m_Mo_tellRest.2.2.1 27 = .ok (.ldc 130, 2) := by decide +kernel
theorem d_Mo_tellRest_29 : decode m_Mo_tellRest.2.2.1 29 = .ok (.iand, 1) := by decide +kernel
theorem d_Mo_tellRest_30 : decode m_Mo_tellRest.2.2.1 30 = .ok (.bipush (16), 2) := by decide +kernel
theorem d_Mo_tellRest_32 : decode m_Mo_tellRest.2.2.1 32 = .ok (.irem, 1) := by decide +kernel
theorem d_Mo_tellRest_33 : decode m_Mo_tellRest.2.2.1 33 = .ok (.iastore, 1) := by decide +kernel
theorem d_Mo_tellRest_34 : decode m_Mo_tellRest.2.2.1 34 = .ok (.iinc 2 (1), 3) := by decide +kernel
theorem d_Mo_tellRest_37 : decode m_Mo_tellRest.2.2.1 37 = .ok (.goto (-30), 3) := by decide +kernel
theorem d_Mo_tellRest_40 : decode m_Mo_tellRest.2.2.1 40 = .ok (.return_, 1) := by decide +kernel
theorem d_Mo_treeFrom_0 : decode m_Mo_treeFrom.2.2.1 0 = .ok (.iload_n 0, 1) := by decide +kernel
theorem d_Mo_treeFrom_1 : decode m_Mo_treeFrom.2.2.1 1 = .ok (.ifCond .ne (7), 3) := by decide +kernel
theorem d_Mo_treeFrom_4 : decode m_Mo_treeFrom.2.2.1 4 = .ok (.iconst 0, 1) := by decide +kernel
theorem d_Mo_treeFrom_5 : decode m_Mo_treeFrom.2.2.1 5 = .ok (.goto (27), 3) := by decide +kernel
theorem d_Mo_treeFrom_8 : decode m_Mo_treeFrom.2.2.1 8 = .ok (.iload_n 0, 1) := by decide +kernel
theorem d_Mo_treeFrom_9 : decode m_Mo_treeFrom.2.2.1 9 = .ok (.iconst 1, 1) := by decide +kernel
theorem d_Mo_treeFrom_10 : decode m_Mo_treeFrom.2.2.1 10 = .ok (.if_icmp .ne (8), 3) := by decide +kernel
theorem d_Mo_treeFrom_13 : decode m_Mo_treeFrom.2.2.1 13 = .ok (.bipush (64), 2) := by decide +kernel
theorem d_Mo_treeFrom_15 : decode m_Mo_treeFrom.2.2.1 15 = .ok (.goto (17), 3) := by decide +kernel
theorem d_Mo_treeFrom_18 : decode m_Mo_treeFrom.2.2.1 18 = .ok (.iload_n 0, 1) := by decide +kernel
theorem d_Mo_treeFrom_19 : decode m_Mo_treeFrom.2.2.1 19 = .ok (.iconst 2, 1) := by decide +kernel
theorem d_Mo_treeFrom_20 : decode m_Mo_treeFrom.2.2.1 20 = .ok (.if_icmp .ne (9), 3) := by decide +kernel
theorem d_Mo_treeFrom_23 : decode m_Mo_treeFrom.2.2.1 23 = .ok (.sipush (128), 3) := by decide +kernel
theorem d_Mo_treeFrom_26 : decode m_Mo_treeFrom.2.2.1 26 = .ok (.goto (6), 3) := by decide +kernel
theorem d_Mo_treeFrom_29 : decode m_Mo_treeFrom.2.2.1 29 = .ok (.sipush (160), 3) := by decide +kernel
theorem d_Mo_treeFrom_32 : decode m_Mo_treeFrom.2.2.1 32 = .ok (.ireturn, 1) := by decide +kernel
theorem d_Mo_leavesOf_0 : decode m_Mo_leavesOf.2.2.1 0 = .ok (.iload_n 0, 1) := by decide +kernel
theorem d_Mo_leavesOf_1 : decode m_Mo_leavesOf.2.2.1 1 = .ok (.iconst 2, 1) := by decide +kernel
theorem d_Mo_leavesOf_2 : decode m_Mo_leavesOf.2.2.1 2 = .ok (.if_icmp .ge (8), 3) := by decide +kernel
theorem d_Mo_leavesOf_5 : decode m_Mo_leavesOf.2.2.1 5 = .ok (.bipush (32), 2) := by decide +kernel
theorem d_Mo_leavesOf_7 : decode m_Mo_leavesOf.2.2.1 7 = .ok (.goto (15), 3) := by decide +kernel
theorem d_Mo_leavesOf_10 : decode m_Mo_leavesOf.2.2.1 10 = .ok (.iload_n 0, 1) := by decide +kernel
theorem d_Mo_leavesOf_11 : decode m_Mo_leavesOf.2.2.1 11 = .ok (.iconst 2, 1) := by decide +kernel
theorem d_Mo_leavesOf_12 : decode m_Mo_leavesOf.2.2.1 12 = .ok (.if_icmp .ne (8), 3) := by decide +kernel
theorem d_Mo_leavesOf_15 : decode m_Mo_leavesOf.2.2.1 15 = .ok (.bipush (16), 2) := by decide +kernel
theorem d_Mo_leavesOf_17 : decode m_Mo_leavesOf.2.2.1 17 = .ok (.goto (5), 3) := by decide +kernel
theorem d_Mo_leavesOf_20 : decode m_Mo_leavesOf.2.2.1 20 = .ok (.bipush (8), 2) := by decide +kernel
theorem d_Mo_leavesOf_22 : decode m_Mo_leavesOf.2.2.1 22 = .ok (.ireturn, 1) := by decide +kernel
theorem d_Mo_layerFrom_0 : decode m_Mo_layerFrom.2.2.1 0 = .ok (.iload_n 0, 1) := by decide +kernel
theorem d_Mo_layerFrom_1 : decode m_Mo_layerFrom.2.2.1 1 = .ok (.ifCond .ne (7), 3) := by decide +kernel
theorem d_Mo_layerFrom_4 : decode m_Mo_layerFrom.2.2.1 4 = .ok (.iconst 0, 1) := by decide +kernel
theorem d_Mo_layerFrom_5 : decode m_Mo_layerFrom.2.2.1 5 = .ok (.goto (25), 3) := by decide +kernel
theorem d_Mo_layerFrom_8 : decode m_Mo_layerFrom.2.2.1 8 = .ok (.iload_n 0, 1) := by decide +kernel
theorem d_Mo_layerFrom_9 : decode m_Mo_layerFrom.2.2.1 9 = .ok (.iconst 1, 1) := by decide +kernel
theorem d_Mo_layerFrom_10 : decode m_Mo_layerFrom.2.2.1 10 = .ok (.if_icmp .ne (8), 3) := by decide +kernel
theorem d_Mo_layerFrom_13 : decode m_Mo_layerFrom.2.2.1 13 = .ok (.bipush (32), 2) := by decide +kernel
theorem d_Mo_layerFrom_15 : decode m_Mo_layerFrom.2.2.1 15 = .ok (.goto (15), 3) := by decide +kernel
theorem d_Mo_layerFrom_18 : decode m_Mo_layerFrom.2.2.1 18 = .ok (.iload_n 0, 1) := by decide +kernel
theorem d_Mo_layerFrom_19 : decode m_Mo_layerFrom.2.2.1 19 = .ok (.iconst 2, 1) := by decide +kernel
theorem d_Mo_layerFrom_20 : decode m_Mo_layerFrom.2.2.1 20 = .ok (.if_icmp .ne (8), 3) := by decide +kernel
theorem d_Mo_layerFrom_23 : decode m_Mo_layerFrom.2.2.1 23 = .ok (.bipush (48), 2) := by decide +kernel
theorem d_Mo_layerFrom_25 : decode m_Mo_layerFrom.2.2.1 25 = .ok (.goto (5), 3) := by decide +kernel
theorem d_Mo_layerFrom_28 : decode m_Mo_layerFrom.2.2.1 28 = .ok (.bipush (56), 2) := by decide +kernel
theorem d_Mo_layerFrom_30 : decode m_Mo_layerFrom.2.2.1 30 = .ok (.ireturn, 1) := by decide +kernel
theorem d_Mo_grow_0 : decode m_Mo_grow.2.2.1 0 = .ok (.iload_n 1, 1) := by decide +kernel
theorem d_Mo_grow_1 : decode m_Mo_grow.2.2.1 1 = .ok (.invokestatic 131, 3) := by decide +kernel
theorem d_Mo_grow_4 : decode m_Mo_grow.2.2.1 4 = .ok (.istore_n 2, 1) := by decide +kernel
theorem d_Mo_grow_5 : decode m_Mo_grow.2.2.1 5 = .ok (.iload_n 1, 1) := by decide +kernel
theorem d_Mo_grow_6 : decode m_Mo_grow.2.2.1 6 = .ok (.invokestatic 134, 3) := by decide +kernel
theorem d_Mo_grow_9 : decode m_Mo_grow.2.2.1 9 = .ok (.istore_n 3, 1) := by decide +kernel
theorem d_Mo_grow_10 : decode m_Mo_grow.2.2.1 10 = .ok (.iconst 0, 1) := by decide +kernel
theorem d_Mo_grow_11 : decode m_Mo_grow.2.2.1 11 = .ok (.istore 4, 2) := by decide +kernel
theorem d_Mo_grow_13 : decode m_Mo_grow.2.2.1 13 = .ok (.iload 4, 2) := by decide +kernel
theorem d_Mo_grow_15 : decode m_Mo_grow.2.2.1 15 = .ok (.iload_n 3, 1) := by decide +kernel
theorem d_Mo_grow_16 : decode m_Mo_grow.2.2.1 16 = .ok (.if_icmp .ge (67), 3) := by decide +kernel
theorem d_Mo_grow_19 : decode m_Mo_grow.2.2.1 19 = .ok (.aload_n 0, 1) := by decide +kernel
theorem d_Mo_grow_20 : decode m_Mo_grow.2.2.1 20 = .ok (.getfield 55, 3) := by decide +kernel
theorem d_Mo_grow_23 : decode m_Mo_grow.2.2.1 23 = .ok (.iload_n 2, 1) := by decide +kernel
theorem d_Mo_grow_24 : decode m_Mo_grow.2.2.1 24 = .ok (.iload_n 3, 1) := by decide +kernel
theorem d_Mo_grow_25 : decode m_Mo_grow.2.2.1 25 = .ok (.iadd, 1) := by decide +kernel
theorem d_Mo_grow_26 : decode m_Mo_grow.2.2.1 26 = .ok (.iload 4, 2) := by decide +kernel
theorem d_Mo_grow_28 : decode m_Mo_grow.2.2.1 28 = .ok (.iadd, 1) := by decide +kernel
theorem d_Mo_grow_29 : decode m_Mo_grow.2.2.1 29 = .ok (.iload_n 1, 1) := by decide +kernel
theorem d_Mo_grow_30 : decode m_Mo_grow.2.2.1 30 = .ok (.ifCond .ne (26), 3) := by decide +kernel
theorem d_Mo_grow_33 : decode m_Mo_grow.2.2.1 33 = .ok (.aload_n 0, 1) := by decide +kernel
theorem d_Mo_grow_34 : decode m_Mo_grow.2.2.1 34 = .ok (.getfield 49, 3) := by decide +kernel
theorem d_Mo_grow_37 : decode m_Mo_grow.2.2.1 37 = .ok (.iload 4, 2) := by decide +kernel
theorem d_Mo_grow_39 : decode m_Mo_grow.2.2.1 39 = .ok (.iaload, 1) := by decide +kernel
theorem d_Mo_grow_40 : decode m_Mo_grow.2.2.1 40 = .ok (.aload_n 0, 1) := by decide +kernel
theorem d_Mo_grow_41 : decode m_Mo_grow.2.2.1 41 = .ok (.getfield 49, 3) := by decide +kernel
theorem d_Mo_grow_44 : decode m_Mo_grow.2.2.1 44 = .ok (.bipush (32), 2) := by decide +kernel
theorem d_Mo_grow_46 : decode m_Mo_grow.2.2.1 46 = .ok (.iload 4, 2) := by decide +kernel
theorem d_Mo_grow_48 : decode m_Mo_grow.2.2.1 48 = .ok (.iadd, 1) := by decide +kernel
theorem d_Mo_grow_49 : decode m_Mo_grow.2.2.1 49 = .ok (.iaload, 1) := by decide +kernel
theorem d_Mo_grow_50 : decode m_Mo_grow.2.2.1 50 = .ok (.invokestatic 123, 3) := by decide +kernel
theorem d_Mo_grow_53 : decode m_Mo_grow.2.2.1 53 = .ok (.goto (23), 3) := by decide +kernel
theorem d_Mo_grow_56 : decode m_Mo_grow.2.2.1 56 = .ok (.aload_n 0, 1) := by decide +kernel
theorem d_Mo_grow_57 : decode m_Mo_grow.2.2.1 57 = .ok (.getfield 52, 3) := by decide +kernel
theorem d_Mo_grow_60 : decode m_Mo_grow.2.2.1 60 = .ok (.iload_n 1, 1) := by decide +kernel
theorem d_Mo_grow_61 : decode m_Mo_grow.2.2.1 61 = .ok (.iconst 1, 1) := by decide +kernel
theorem d_Mo_grow_62 : decode m_Mo_grow.2.2.1 62 = .ok (.isub, 1) := by decide +kernel
theorem d_Mo_grow_63 : decode m_Mo_grow.2.2.1 63 = .ok (.invokestatic 137, 3) := by decide +kernel
theorem d_Mo_grow_66 : decode m_Mo_grow.2.2.1 66 = .ok (.iload 4, 2) := by decide +kernel
theorem d_Mo_grow_68 : decode m_Mo_grow.2.2.1 68 = .ok (.iadd, 1) := by decide +kernel
theorem d_Mo_grow_69 : decode m_Mo_grow.2.2.1 69 = .ok (.iaload, 1) := by decide +kernel
theorem d_Mo_grow_70 : decode m_Mo_grow.2.2.1 70 = .ok (.sipush (12289), 3) := by decide +kernel
theorem d_Mo_grow_73 : decode m_Mo_grow.2.2.1 73 = .ok (.invokestatic 123, 3) := by decide +kernel
theorem d_Mo_grow_76 : decode m_Mo_grow.2.2.1 76 = .ok (.iastore, 1) := by decide +kernel
theorem d_Mo_grow_77 : decode m_Mo_grow.2.2.1 77 = .ok (.iinc 4 (1), 3) := by decide +kernel
theorem d_Mo_grow_80 : decode m_Mo_grow.2.2.1 80 = .ok (.goto (-67), 3) := by decide +kernel
theorem d_Mo_grow_83 : decode m_Mo_grow.2.2.1 83 = .ok (.iload_n 3, 1) := by decide +kernel
theorem d_Mo_grow_84 : decode m_Mo_grow.2.2.1 84 = .ok (.iconst 1, 1) := by decide +kernel
theorem d_Mo_grow_85 : decode m_Mo_grow.2.2.1 85 = .ok (.isub, 1) := by decide +kernel
theorem d_Mo_grow_86 : decode m_Mo_grow.2.2.1 86 = .ok (.istore 4, 2) := by decide +kernel
theorem d_Mo_grow_88 : decode m_Mo_grow.2.2.1 88 = .ok (.iload 4, 2) := by decide +kernel
theorem d_Mo_grow_90 : decode m_Mo_grow.2.2.1 90 = .ok (.ifCond .le (45), 3) := by decide +kernel
theorem d_Mo_grow_93 : decode m_Mo_grow.2.2.1 93 = .ok (.aload_n 0, 1) := by decide +kernel
theorem d_Mo_grow_94 : decode m_Mo_grow.2.2.1 94 = .ok (.getfield 55, 3) := by decide +kernel
theorem d_Mo_grow_97 : decode m_Mo_grow.2.2.1 97 = .ok (.iload_n 2, 1) := by decide +kernel
theorem d_Mo_grow_98 : decode m_Mo_grow.2.2.1 98 = .ok (.iload 4, 2) := by decide +kernel
theorem d_Mo_grow_100 : decode m_Mo_grow.2.2.1 100 = .ok (.iadd, 1) := by decide +kernel
theorem d_Mo_grow_101 : decode m_Mo_grow.2.2.1 101 = .ok (.aload_n 0, 1) := by decide +kernel
theorem d_Mo_grow_102 : decode m_Mo_grow.2.2.1 102 = .ok (.getfield 55, 3) := by decide +kernel
theorem d_Mo_grow_105 : decode m_Mo_grow.2.2.1 105 = .ok (.iload_n 2, 1) := by decide +kernel
theorem d_Mo_grow_106 : decode m_Mo_grow.2.2.1 106 = .ok (.iconst 2, 1) := by decide +kernel
theorem d_Mo_grow_107 : decode m_Mo_grow.2.2.1 107 = .ok (.iload 4, 2) := by decide +kernel
theorem d_Mo_grow_109 : decode m_Mo_grow.2.2.1 109 = .ok (.imul, 1) := by decide +kernel
theorem d_Mo_grow_110 : decode m_Mo_grow.2.2.1 110 = .ok (.iadd, 1) := by decide +kernel
theorem d_Mo_grow_111 : decode m_Mo_grow.2.2.1 111 = .ok (.iaload, 1) := by decide +kernel
theorem d_Mo_grow_112 : decode m_Mo_grow.2.2.1 112 = .ok (.aload_n 0, 1) := by decide +kernel
theorem d_Mo_grow_113 : decode m_Mo_grow.2.2.1 113 = .ok (.getfield 55, 3) := by decide +kernel
theorem d_Mo_grow_116 : decode m_Mo_grow.2.2.1 116 = .ok (.iload_n 2, 1) := by decide +kernel
theorem d_Mo_grow_117 : decode m_Mo_grow.2.2.1 117 = .ok (.iconst 2, 1) := by decide +kernel
theorem d_Mo_grow_118 : decode m_Mo_grow.2.2.1 118 = .ok (.iload 4, 2) := by decide +kernel
theorem d_Mo_grow_120 : decode m_Mo_grow.2.2.1 120 = .ok (.imul, 1) := by decide +kernel
theorem d_Mo_grow_121 : decode m_Mo_grow.2.2.1 121 = .ok (.iadd, 1) := by decide +kernel
theorem d_Mo_grow_122 : decode m_Mo_grow.2.2.1 122 = .ok (.iconst 1, 1) := by decide +kernel
theorem d_Mo_grow_123 : decode m_Mo_grow.2.2.1 123 = .ok (.iadd, 1) := by decide +kernel
theorem d_Mo_grow_124 : decode m_Mo_grow.2.2.1 124 = .ok (.iaload, 1) := by decide +kernel
theorem d_Mo_grow_125 : decode m_Mo_grow.2.2.1 125 = .ok (.invokestatic 123, 3) := by decide +kernel
theorem d_Mo_grow_128 : decode m_Mo_grow.2.2.1 128 = .ok (.iastore, 1) := by decide +kernel
theorem d_Mo_grow_129 : decode m_Mo_grow.2.2.1 129 = .ok (.iinc 4 (-1), 3) := by decide +kernel
theorem d_Mo_grow_132 : decode m_Mo_grow.2.2.1 132 = .ok (.goto (-44), 3) := by decide +kernel
theorem d_Mo_grow_135 : decode m_Mo_grow.2.2.1 135 = .ok (.aload_n 0, 1) := by decide +kernel
theorem d_Mo_grow_136 : decode m_Mo_grow.2.2.1 136 = .ok (.getfield 55, 3) := by decide +kernel
theorem d_Mo_grow_139 : decode m_Mo_grow.2.2.1 139 = .ok (.iload_n 2, 1) := by decide +kernel
theorem d_Mo_grow_140 : decode m_Mo_grow.2.2.1 140 = .ok (.iconst 1, 1) := by decide +kernel
theorem d_Mo_grow_141 : decode m_Mo_grow.2.2.1 141 = .ok (.iadd, 1) := by decide +kernel
theorem d_Mo_grow_142 : decode m_Mo_grow.2.2.1 142 = .ok (.iaload, 1) := by decide +kernel
theorem d_Mo_grow_143 : decode m_Mo_grow.2.2.1 143 = .ok (.ireturn, 1) := by decide +kernel
theorem d_Mo_write_0 : decode m_Mo_write.2.2.1 0 = .ok (.aload_n 0, 1) := by decide +kernel
theorem d_Mo_write_1 : decode m_Mo_write.2.2.1 1 = .ok (.getfield 34, 3) := by decide +kernel
theorem d_Mo_write_4 : decode m_Mo_write.2.2.1 4 = .ok (.aload_n 0, 1) := by decide +kernel
theorem d_Mo_write_5 : decode m_Mo_write.2.2.1 5 = .ok (.getfield 140, 3) := by decide +kernel
theorem d_Mo_write_8 : decode m_Mo_write.2.2.1 8 = .ok (.iload_n 1, 1) := by decide +kernel
theorem d_Mo_write_9 : decode m_Mo_write.2.2.1 9 = .ok (.iastore, 1) := by decide +kernel
theorem d_Mo_write_10 : decode m_Mo_write.2.2.1 10 = .ok (.aload_n 0, 1) := by decide +kernel
theorem d_Mo_write_11 : decode m_Mo_write.2.2.1 11 = .ok (.dup, 1) := by decide +kernel
theorem d_Mo_write_12 : decode m_Mo_write.2.2.1 12 = .ok (.getfield 140, 3) := by decide +kernel
theorem d_Mo_write_15 : decode m_Mo_write.2.2.1 15 = .ok (.iconst 1, 1) := by decide +kernel
theorem d_Mo_write_16 : decode m_Mo_write.2.2.1 16 = .ok (.iadd, 1) := by decide +kernel
theorem d_Mo_write_17 : decode m_Mo_write.2.2.1 17 = .ok (.putfield 140, 3) := by decide +kernel
theorem d_Mo_write_20 : decode m_Mo_write.2.2.1 20 = .ok (.return_, 1) := by decide +kernel
theorem d_Mo_writePath_0 : decode m_Mo_writePath.2.2.1 0 = .ok (.iload_n 1, 1) := by decide +kernel
theorem d_Mo_writePath_1 : decode m_Mo_writePath.2.2.1 1 = .ok (.invokestatic 134, 3) := by decide +kernel
theorem d_Mo_writePath_4 : decode m_Mo_writePath.2.2.1 4 = .ok (.iload_n 2, 1) := by decide +kernel
theorem d_Mo_writePath_5 : decode m_Mo_writePath.2.2.1 5 = .ok (.iadd, 1) := by decide +kernel
theorem d_Mo_writePath_6 : decode m_Mo_writePath.2.2.1 6 = .ok (.istore_n 3, 1) := by decide +kernel
theorem d_Mo_writePath_7 : decode m_Mo_writePath.2.2.1 7 = .ok (.iload_n 3, 1) := by decide +kernel
theorem d_Mo_writePath_8 : decode m_Mo_writePath.2.2.1 8 = .ok (.iconst 1, 1) := by decide +kernel
theorem d_Mo_writePath_9 : decode m_Mo_writePath.2.2.1 9 = .ok (.if_icmp .le (27), 3) := by decide +kernel
theorem d_Mo_writePath_12 : decode m_Mo_writePath.2.2.1 12 = .ok (.aload_n 0, 1) := by decide +kernel
theorem d_Mo_writePath_13 : decode m_Mo_writePath.2.2.1 13 = .ok (.aload_n 0, 1) := by decide +kernel
theorem d_Mo_writePath_14 : decode m_Mo_writePath.2.2.1 14 = .ok (.getfield 55, 3) := by decide +kernel
theorem d_Mo_writePath_17 : decode m_Mo_writePath.2.2.1 17 = .ok (.iload_n 1, 1) := by decide +kernel
theorem d_Mo_writePath_18 : decode m_Mo_writePath.2.2.1 18 = .ok (.invokestatic 131, 3) := by decide +kernel
theorem d_Mo_writePath_21 : decode m_Mo_writePath.2.2.1 21 = .ok (.iload_n 3, 1) := by decide +kernel
theorem d_Mo_writePath_22 : decode m_Mo_writePath.2.2.1 22 = .ok (.iconst 1, 1) := by decide +kernel
theorem d_Mo_writePath_23 : decode m_Mo_writePath.2.2.1 23 = .ok (.ixor, 1) := by decide +kernel
theorem d_Mo_writePath_24 : decode m_Mo_writePath.2.2.1 24 = .ok (.iadd, 1) := by decide +kernel
theorem d_Mo_writePath_25 : decode m_Mo_writePath.2.2.1 25 = .ok (.iaload, 1) := by decide +kernel
theorem d_Mo_writePath_26 : decode m_Mo_writePath.2.2.1 26 = .ok (.invokevirtual 143, 3) := by decide +kernel
theorem d_Mo_writePath_29 : decode m_Mo_writePath.2.2.1 29 = .ok (.iload_n 3, 1) := by decide +kernel
theorem d_Mo_writePath_30 : decode m_Mo_writePath.2.2.1 30 = .ok (.iconst 2, 1) := by decide +kernel
theorem d_Mo_writePath_31 : decode m_Mo_writePath.2.2.1 31 = .ok (.idiv, 1) := by decide +kernel
theorem d_Mo_writePath_32 : decode m_Mo_writePath.2.2.1 32 = .ok (.istore_n 3, 1) := by decide +kernel
theorem d_Mo_writePath_33 : decode m_Mo_writePath.2.2.1 33 = .ok (.goto (-26), 3) := by decide +kernel
theorem d_Mo_writePath_36 : decode m_Mo_writePath.2.2.1 36 = .ok (.return_, 1) := by decide +kernel
theorem d_Mo_writeOpening_0 : decode m_Mo_writeOpening.2.2.1 0 = .ok (.iconst 0, 1) := by decide +kernel
theorem d_Mo_writeOpening_1 : decode m_Mo_writeOpening.2.2.1 1 = .ok (.istore_n 2, 1) := by decide +kernel
theorem d_Mo_writeOpening_2 : decode m_Mo_writeOpening.2.2.1 2 = .ok (.iload_n 2, 1) := by decide +kernel
theorem d_Mo_writeOpening_3 : decode m_Mo_writeOpening.2.2.1 3 = .ok (.iconst 4, 1) := by decide +kernel
theorem d_Mo_writeOpening_4 : decode m_Mo_writeOpening.2.2.1 4 = .ok (.if_icmp .ge (56), 3) := by decide +kernel
theorem d_Mo_writeOpening_7 : decode m_Mo_writeOpening.2.2.1 7 = .ok (.iload_n 1, 1) := by decide +kernel
theorem d_Mo_writeOpening_8 : decode m_Mo_writeOpening.2.2.1 8 = .ok (.iload_n 2, 1) := by decide +kernel
theorem d_Mo_writeOpening_9 : decode m_Mo_writeOpening.2.2.1 9 = .ok (.iconst 2, 1) := by decide +kernel
theorem d_Mo_writeOpening_10 : decode m_Mo_writeOpening.2.2.1 10 = .ok (.irem, 1) := by decide +kernel
theorem d_Mo_writeOpening_11 : decode m_Mo_writeOpening.2.2.1 11 = .ok (.iconst 4, 1) := by decide +kernel
theorem d_Mo_writeOpening_12 : decode m_Mo_writeOpening.2.2.1 12 = .ok (.imul, 1) := by decide +kernel
theorem d_Mo_writeOpening_13 : decode m_Mo_writeOpening.2.2.1 13 = .ok (.iadd, 1) := by decide +kernel
theorem d_Mo_writeOpening_14 : decode m_Mo_writeOpening.2.2.1 14 = .ok (.iload_n 2, 1) := by decide +kernel
theorem d_Mo_writeOpening_15 : decode m_Mo_writeOpening.2.2.1 15 = .ok (.iconst 2, 1) := by decide +kernel
theorem d_Mo_writeOpening_16 : decode m_Mo_writeOpening.2.2.1 16 = .ok (.idiv, 1) := by decide +kernel
theorem d_Mo_writeOpening_17 : decode m_Mo_writeOpening.2.2.1 17 = .ok (.bipush (16), 2) := by decide +kernel
theorem d_Mo_writeOpening_19 : decode m_Mo_writeOpening.2.2.1 19 = .ok (.imul, 1) := by decide +kernel
theorem d_Mo_writeOpening_20 : decode m_Mo_writeOpening.2.2.1 20 = .ok (.iadd, 1) := by decide +kernel
theorem d_Mo_writeOpening_21 : decode m_Mo_writeOpening.2.2.1 21 = .ok (.bipush (32), 2) := by decide +kernel
theorem d_Mo_writeOpening_23 : decode m_Mo_writeOpening.2.2.1 23 = .ok (.irem, 1) := by decide +kernel
theorem d_Mo_writeOpening_24 : decode m_Mo_writeOpening.2.2.1 24 = .ok (.istore_n 3, 1) := by decide +kernel
theorem d_Mo_writeOpening_25 : decode m_Mo_writeOpening.2.2.1 25 = .ok (.aload_n 0, 1) := by decide +kernel
theorem d_Mo_writeOpening_26 : decode m_Mo_writeOpening.2.2.1 26 = .ok (.aload_n 0, 1) := by decide +kernel
theorem d_Mo_writeOpening_27 : decode m_Mo_writeOpening.2.2.1 27 = .ok (.getfield 49, 3) := by decide +kernel
theorem d_Mo_writeOpening_30 : decode m_Mo_writeOpening.2.2.1 30 = .ok (.iload_n 3, 1) := by decide +kernel
theorem d_Mo_writeOpening_31 : decode m_Mo_writeOpening.2.2.1 31 = .ok (.iaload, 1) := by decide +kernel
theorem d_Mo_writeOpening_32 : decode m_Mo_writeOpening.2.2.1 32 = .ok (.invokevirtual 143, 3) := by decide +kernel
theorem d_Mo_writeOpening_35 : decode m_Mo_writeOpening.2.2.1 35 = .ok (.aload_n 0, 1) := by decide +kernel
theorem d_Mo_writeOpening_36 : decode m_Mo_writeOpening.2.2.1 36 = .ok (.aload_n 0, 1) := by decide +kernel
theorem d_Mo_writeOpening_37 : decode m_Mo_writeOpening.2.2.1 37 = .ok (.getfield 49, 3) := by decide +kernel
theorem d_Mo_writeOpening_40 : decode m_Mo_writeOpening.2.2.1 40 = .ok (.bipush (32), 2) := by decide +kernel
theorem d_Mo_writeOpening_42 : decode m_Mo_writeOpening.2.2.1 42 = .ok (.iload_n 3, 1) := by decide +kernel
theorem d_Mo_writeOpening_43 : decode m_Mo_writeOpening.2.2.1 43 = .ok (.iadd, 1) := by decide +kernel
theorem d_Mo_writeOpening_44 : decode m_Mo_writeOpening.2.2.1 44 = .ok (.iaload, 1) := by decide +kernel
theorem d_Mo_writeOpening_45 : decode m_Mo_writeOpening.2.2.1 45 = .ok (.invokevirtual 143, 3) := by decide +kernel
theorem d_Mo_writeOpening_48 : decode m_Mo_writeOpening.2.2.1 48 = .ok (.aload_n 0, 1) := by decide +kernel
theorem d_Mo_writeOpening_49 : decode m_Mo_writeOpening.2.2.1 49 = .ok (.iconst 0, 1) := by decide +kernel
theorem d_Mo_writeOpening_50 : decode m_Mo_writeOpening.2.2.1 50 = .ok (.iload_n 3, 1) := by decide +kernel
theorem d_Mo_writeOpening_51 : decode m_Mo_writeOpening.2.2.1 51 = .ok (.invokevirtual 146, 3) := by decide +kernel
theorem d_Mo_writeOpening_54 : decode m_Mo_writeOpening.2.2.1 54 = .ok (.iinc 2 (1), 3) := by decide +kernel
theorem d_Mo_writeOpening_57 : decode m_Mo_writeOpening.2.2.1 57 = .ok (.goto (-55), 3) := by decide +kernel
theorem d_Mo_writeOpening_60 : decode m_Mo_writeOpening.2.2.1 60 = .ok (.iconst 0, 1) := by decide +kernel
theorem d_Mo_writeOpening_61 : decode m_Mo_writeOpening.2.2.1 61 = .ok (.istore_n 2, 1) := by decide +kernel
theorem d_Mo_writeOpening_62 : decode m_Mo_writeOpening.2.2.1 62 = .ok (.iload_n 2, 1) := by decide +kernel
theorem d_Mo_writeOpening_63 : decode m_Mo_writeOpening.2.2.1 63 = .ok (.iconst 3, 1) := by decide +kernel
theorem d_Mo_writeOpening_64 : decode m_Mo_writeOpening.2.2.1 64 = .ok (.if_icmp .ge (64), 3) := by decide +kernel
theorem d_Mo_writeOpening_67 : decode m_Mo_writeOpening.2.2.1 67 = .ok (.bipush (16), 2) := by decide +kernel
theorem d_Mo_writeOpening_69 : decode m_Mo_writeOpening.2.2.1 69 = .ok (.iload_n 2, 1) := by decide +kernel
theorem d_Mo_writeOpening_70 : decode m_Mo_writeOpening.2.2.1 70 = .ok (.ishr, 1) := by decide +kernel
theorem d_Mo_writeOpening_71 : decode m_Mo_writeOpening.2.2.1 71 = .ok (.istore_n 3, 1) := by decide +kernel
theorem d_Mo_writeOpening_72 : decode m_Mo_writeOpening.2.2.1 72 = .ok (.iconst 0, 1) := by decide +kernel
theorem d_Mo_writeOpening_73 : decode m_Mo_writeOpening.2.2.1 73 = .ok (.istore 4, 2) := by decide +kernel
theorem d_Mo_writeOpening_75 : decode m_Mo_writeOpening.2.2.1 75 = .ok (.iload 4, 2) := by decide +kernel
theorem d_Mo_writeOpening_77 : decode m_Mo_writeOpening.2.2.1 77 = .ok (.iconst 2, 1) := by decide +kernel
theorem d_Mo_writeOpening_78 : decode m_Mo_writeOpening.2.2.1 78 = .ok (.if_icmp .ge (44), 3) := by decide +kernel
theorem d_Mo_writeOpening_81 : decode m_Mo_writeOpening.2.2.1 81 = .ok (.iload_n 1, 1) := by decide +kernel
theorem d_Mo_writeOpening_82 : decode m_Mo_writeOpening.2.2.1 82 = .ok (.iload_n 3, 1) := by decide +kernel
theorem d_Mo_writeOpening_83 : decode m_Mo_writeOpening.2.2.1 83 = .ok (.irem, 1) := by decide +kernel
theorem d_Mo_writeOpening_84 : decode m_Mo_writeOpening.2.2.1 84 = .ok (.iload 4, 2) := by decide +kernel
theorem d_Mo_writeOpening_86 : decode m_Mo_writeOpening.2.2.1 86 = .ok (.iload_n 3, 1) := by decide +kernel
theorem d_Mo_writeOpening_87 : decode m_Mo_writeOpening.2.2.1 87 = .ok (.imul, 1) := by decide +kernel
theorem d_Mo_writeOpening_88 : decode m_Mo_writeOpening.2.2.1 88 = .ok (.iadd, 1) := by decide +kernel
theorem d_Mo_writeOpening_89 : decode m_Mo_writeOpening.2.2.1 89 = .ok (.istore 5, 2) := by decide +kernel
theorem d_Mo_writeOpening_91 : decode m_Mo_writeOpening.2.2.1 91 = .ok (.aload_n 0, 1) := by decide +kernel
theorem d_Mo_writeOpening_92 : decode m_Mo_writeOpening.2.2.1 92 = .ok (.aload_n 0, 1) := by decide +kernel
theorem d_Mo_writeOpening_93 : decode m_Mo_writeOpening.2.2.1 93 = .ok (.getfield 52, 3) := by decide +kernel
theorem d_Mo_writeOpening_96 : decode m_Mo_writeOpening.2.2.1 96 = .ok (.iload_n 2, 1) := by decide +kernel
theorem d_Mo_writeOpening_97 : decode m_Mo_writeOpening.2.2.1 97 = .ok (.invokestatic 137, 3) := by decide +kernel
theorem d_Mo_writeOpening_100 : decode m_Mo_writeOpening.2.2.1 100 = .ok (.iload 5, 2) := by decide +kernel
theorem d_Mo_writeOpening_102 : decode m_Mo_writeOpening.2.2.1 102 = .ok (.iadd, 1) := by decide +kernel
theorem d_Mo_writeOpening_103 : decode m_Mo_writeOpening.2.2.1 103 = .ok (.iaload, 1) := by decide +kernel
theorem d_Mo_writeOpening_104 : decode m_Mo_writeOpening.2.2.1 104 = .ok (.invokevirtual 143, 3) := by decide +kernel
theorem d_Mo_writeOpening_107 : decode m_Mo_writeOpening.2.2.1 107 = .ok (.aload_n 0, 1) := by decide +kernel
theorem d_Mo_writeOpening_108 : decode m_Mo_writeOpening.2.2.1 108 = .ok (.iload_n 2, 1) := by decide +kernel
theorem d_Mo_writeOpening_109 : decode m_Mo_writeOpening.2.2.1 109 = .ok (.iconst 1, 1) := by decide +kernel
theorem d_Mo_writeOpening_110 : decode m_Mo_writeOpening.2.2.1 110 = .ok (.iadd, 1) := by decide +kernel
theorem d_Mo_writeOpening_111 : decode m_Mo_writeOpening.2.2.1 111 = .ok (.iload 5, 2) := by decide +kernel
theorem d_Mo_writeOpening_113 : decode m_Mo_writeOpening.2.2.1 113 = .ok (.invokevirtual 146, 3) := by decide +kernel
theorem d_Mo_writeOpening_116 : decode m_Mo_writeOpening.2.2.1 116 = .ok (.iinc 4 (1), 3) := by decide +kernel
theorem d_Mo_writeOpening_119 : decode m_Mo_writeOpening.2.2.1 119 = .ok (.goto (-44), 3) := by decide +kernel
theorem d_Mo_writeOpening_122 : decode m_Mo_writeOpening.2.2.1 122 = .ok (.iinc 2 (1), 3) := by decide +kernel
theorem d_Mo_writeOpening_125 : decode m_Mo_writeOpening.2.2.1 125 = .ok (.goto (-63), 3) := by decide +kernel
theorem d_Mo_writeOpening_128 : decode m_Mo_writeOpening.2.2.1 128 = .ok (.return_, 1) := by decide +kernel
theorem d_Mo_nextLayer_0 : decode m_Mo_nextLayer.2.2.1 0 = .ok (.bipush (16), 2) := by decide +kernel
theorem d_Mo_nextLayer_2 : decode m_Mo_nextLayer.2.2.1 2 = .ok (.iload_n 1, 1) := by decide +kernel
theorem d_Mo_nextLayer_3 : decode m_Mo_nextLayer.2.2.1 3 = .ok (.ishr, 1) := by decide +kernel
theorem d_Mo_nextLayer_4 : decode m_Mo_nextLayer.2.2.1 4 = .ok (.istore_n 2, 1) := by decide +kernel
theorem d_Mo_nextLayer_5 : decode m_Mo_nextLayer.2.2.1 5 = .ok (.iload_n 1, 1) := by decide +kernel
theorem d_Mo_nextLayer_6 : decode m_Mo_nextLayer.2.2.1 6 = .ok (.invokestatic 137, 3) := by decide +kernel
theorem d_Mo_nextLayer_9 : decode m_Mo_nextLayer.2.2.1 9 = .ok (.istore_n 3, 1) := by decide +kernel
theorem d_Mo_nextLayer_10 : decode m_Mo_nextLayer.2.2.1 10 = .ok (.iconst 0, 1) := by decide +kernel
theorem d_Mo_nextLayer_11 : decode m_Mo_nextLayer.2.2.1 11 = .ok (.istore 4, 2) := by decide +kernel
theorem d_Mo_nextLayer_13 : decode m_Mo_nextLayer.2.2.1 13 = .ok (.iload 4, 2) := by decide +kernel
theorem d_Mo_nextLayer_15 : decode m_Mo_nextLayer.2.2.1 15 = .ok (.iload_n 2, 1) := by decide +kernel
theorem d_Mo_nextLayer_16 : decode m_Mo_nextLayer.2.2.1 16 = .ok (.if_icmp .ge (50), 3) := by decide +kernel
theorem d_Mo_nextLayer_19 : decode m_Mo_nextLayer.2.2.1 19 = .ok (.aload_n 0, 1) := by decide +kernel
theorem d_Mo_nextLayer_20 : decode m_Mo_nextLayer.2.2.1 20 = .ok (.getfield 52, 3) := by decide +kernel
theorem d_Mo_nextLayer_23 : decode m_Mo_nextLayer.2.2.1 23 = .ok (.iload_n 1, 1) := by decide +kernel
theorem d_Mo_nextLayer_24 : decode m_Mo_nextLayer.2.2.1 24 = .ok (.iconst 1, 1) := by decide +kernel
theorem d_Mo_nextLayer_25 : decode m_Mo_nextLayer.2.2.1 25 = .ok (.iadd, 1) := by decide +kernel
theorem d_Mo_nextLayer_26 : decode m_Mo_nextLayer.2.2.1 26 = .ok (.invokestatic 137, 3) := by decide +kernel
theorem d_Mo_nextLayer_29 : decode m_Mo_nextLayer.2.2.1 29 = .ok (.iload 4, 2) := by decide +kernel
theorem d_Mo_nextLayer_31 : decode m_Mo_nextLayer.2.2.1 31 = .ok (.iadd, 1) := by decide +kernel
theorem d_Mo_nextLayer_32 : decode m_Mo_nextLayer.2.2.1 32 = .ok (.aload_n 0, 1) := by decide +kernel
theorem d_Mo_nextLayer_33 : decode m_Mo_nextLayer.2.2.1 33 = .ok (.iload_n 1, 1) := by decide +kernel
theorem d_Mo_nextLayer_34 : decode m_Mo_nextLayer.2.2.1 34 = .ok (.iload 4, 2) := by decide +kernel
theorem d_Mo_nextLayer_36 : decode m_Mo_nextLayer.2.2.1 36 = .ok (.aload_n 0, 1) := by decide +kernel
theorem d_Mo_nextLayer_37 : decode m_Mo_nextLayer.2.2.1 37 = .ok (.getfield 52, 3) := by decide +kernel
theorem d_Mo_nextLayer_40 : decode m_Mo_nextLayer.2.2.1 40 = .ok (.iload_n 3, 1) := by decide +kernel
theorem d_Mo_nextLayer_41 : decode m_Mo_nextLayer.2.2.1 41 = .ok (.iload 4, 2) := by decide +kernel
theorem d_Mo_nextLayer_43 : decode m_Mo_nextLayer.2.2.1 43 = .ok (.iadd, 1) := by decide +kernel
theorem d_Mo_nextLayer_44 : decode m_Mo_nextLayer.2.2.1 44 = .ok (.iaload, 1) := by decide +kernel
theorem d_Mo_nextLayer_45 : decode m_Mo_nextLayer.2.2.1 45 = .ok (.aload_n 0, 1) := by decide +kernel
theorem d_Mo_nextLayer_46 : decode m_Mo_nextLayer.2.2.1 46 = .ok (.getfield 52, 3) := by decide +kernel
theorem d_Mo_nextLayer_49 : decode m_Mo_nextLayer.2.2.1 49 = .ok (.iload_n 3, 1) := by decide +kernel
theorem d_Mo_nextLayer_50 : decode m_Mo_nextLayer.2.2.1 50 = .ok (.iload_n 2, 1) := by decide +kernel
theorem d_Mo_nextLayer_51 : decode m_Mo_nextLayer.2.2.1 51 = .ok (.iadd, 1) := by decide +kernel
theorem d_Mo_nextLayer_52 : decode m_Mo_nextLayer.2.2.1 52 = .ok (.iload 4, 2) := by decide +kernel
theorem d_Mo_nextLayer_54 : decode m_Mo_nextLayer.2.2.1 54 = .ok (.iadd, 1) := by decide +kernel
theorem d_Mo_nextLayer_55 : decode m_Mo_nextLayer.2.2.1 55 = .ok (.iaload, 1) := by decide +kernel
theorem d_Mo_nextLayer_56 : decode m_Mo_nextLayer.2.2.1 56 = .ok (.invokevirtual 150, 3) := by decide +kernel
theorem d_Mo_nextLayer_59 : decode m_Mo_nextLayer.2.2.1 59 = .ok (.iastore, 1) := by decide +kernel
theorem d_Mo_nextLayer_60 : decode m_Mo_nextLayer.2.2.1 60 = .ok (.iinc 4 (1), 3) := by decide +kernel
theorem d_Mo_nextLayer_63 : decode m_Mo_nextLayer.2.2.1 63 = .ok (.goto (-50), 3) := by decide +kernel
theorem d_Mo_nextLayer_66 : decode m_Mo_nextLayer.2.2.1 66 = .ok (.return_, 1) := by decide +kernel
theorem d_Mo_prove_0 : decode m_Mo_prove.2.2.1 0 = .ok (.aload_n 0, 1) := by decide +kernel
theorem d_Mo_prove_1 : decode m_Mo_prove.2.2.1 1 = .ok (.invokevirtual 113, 3) := by decide +kernel
theorem d_Mo_prove_4 : decode m_Mo_prove.2.2.1 4 = .ok (.aload_n 0, 1) := by decide +kernel
theorem d_Mo_prove_5 : decode m_Mo_prove.2.2.1 5 = .ok (.getfield 84, 3) := by decide +kernel
theorem d_Mo_prove_8 : decode m_Mo_prove.2.2.1 8 = .ok (.iadd, 1) := by decide +kernel
theorem d_Mo_prove_9 : decode m_Mo_prove.2.2.1 9 = .ok (.ifCond .ne (5), 3) := by decide +kernel
theorem d_Mo_prove_12 : decode m_Mo_prove.2.2.1 12 = .ok (.iconst (-1), 1) := by decide +kernel
theorem d_Mo_prove_13 : decode m_Mo_prove.2.2.1 13 = .ok (.ireturn, 1) := by decide +kernel
theorem d_Mo_prove_14 : decode m_Mo_prove.2.2.1 14 = .ok (.aload_n 0, 1) := by decide +kernel
theorem d_Mo_prove_15 : decode m_Mo_prove.2.2.1 15 = .ok (.invokevirtual 154, 3) := by decide +kernel
theorem d_Mo_prove_18 : decode m_Mo_prove.2.2.1 18 = .ok (.istore_n 1, 1) := by decide +kernel
theorem d_Mo_prove_19 : decode m_Mo_prove.2.2.1 19 = .ok (.iload_n 1, 1) := by decide +kernel
theorem d_Mo_prove_20 : decode m_Mo_prove.2.2.1 20 = .ok (.ifCond .lt (8), 3) := by decide +kernel
theorem d_Mo_prove_23 : decode m_Mo_prove.2.2.1 23 = .ok (.bipush (-10), 2) := by decide +kernel
theorem d_Mo_prove_25 : decode m_Mo_prove.2.2.1 25 = .ok (.iload_n 1, 1) := by decide +kernel
theorem d_Mo_prove_26 : decode m_Mo_prove.2.2.1 26 = .ok (.isub, 1) := by decide +kernel
theorem d_Mo_prove_27 : decode m_Mo_prove.2.2.1 27 = .ok (.ireturn, 1) := by decide +kernel
theorem d_Mo_prove_28 : decode m_Mo_prove.2.2.1 28 = .ok (.iconst 0, 1) := by decide +kernel
theorem d_Mo_prove_29 : decode m_Mo_prove.2.2.1 29 = .ok (.istore_n 2, 1) := by decide +kernel
theorem d_Mo_prove_30 : decode m_Mo_prove.2.2.1 30 = .ok (.iload_n 2, 1) := by decide +kernel
theorem d_Mo_prove_31 : decode m_Mo_prove.2.2.1 31 = .ok (.iconst 2, 1) := by decide +kernel
theorem d_Mo_prove_32 : decode m_Mo_prove.2.2.1 32 = .ok (.if_icmp .ge (44), 3) := by decide +kernel
theorem d_Mo_prove_35 : decode m_Mo_prove.2.2.1 35 = .ok (.iconst 0, 1) := by decide +kernel
theorem d_Mo_prove_36 : decode m_Mo_prove.2.2.1 36 = .ok (.istore_n 3, 1) := by decide +kernel
theorem d_Mo_prove_37 : decode m_Mo_prove.2.2.1 37 = .ok (.iload_n 3, 1) := by decide +kernel
theorem d_Mo_prove_38 : decode m_Mo_prove.2.2.1 38 = .ok (.bipush (32), 2) := by decide +kernel
theorem d_Mo_prove_40 : decode m_Mo_prove.2.2.1 40 = .ok (.if_icmp .ge (30), 3) := by decide +kernel
theorem d_Mo_prove_43 : decode m_Mo_prove.2.2.1 43 = .ok (.aload_n 0, 1) := by decide +kernel
theorem d_Mo_prove_44 : decode m_Mo_prove.2.2.1 44 = .ok (.getfield 49, 3) := by decide +kernel
theorem d_Mo_prove_47 : decode m_Mo_prove.2.2.1 47 = .ok (.bipush (32), 2) := by decide +kernel
theorem d_Mo_prove_49 : decode m_Mo_prove.2.2.1 49 = .ok (.iload_n 2, 1) := by decide +kernel
theorem d_Mo_prove_50 : decode m_Mo_prove.2.2.1 50 = .ok (.imul, 1) := by decide +kernel
theorem d_Mo_prove_51 : decode m_Mo_prove.2.2.1 51 = .ok (.iload_n 3, 1) := by decide +kernel
theorem d_Mo_prove_52 : decode m_Mo_prove.2.2.1 52 = .ok (.iadd, 1) := by decide +kernel
theorem d_Mo_prove_53 : decode m_Mo_prove.2.2.1 53 = .ok (.aload_n 0, 1) := by decide +kernel
theorem d_Mo_prove_54 : decode m_Mo_prove.2.2.1 54 = .ok (.iload_n 2, 1) := by decide +kernel
theorem d_Mo_prove_55 : decode m_Mo_prove.2.2.1 55 = .ok (.aload_n 0, 1) := by decide +kernel
theorem d_Mo_prove_56 : decode m_Mo_prove.2.2.1 56 = .ok (.iload_n 3, 1) := by decide +kernel
theorem d_Mo_prove_57 : decode m_Mo_prove.2.2.1 57 = .ok (.invokevirtual 97, 3) := by decide +kernel
theorem d_Mo_prove_60 : decode m_Mo_prove.2.2.1 60 = .ok (.invokevirtual 100, 3) := by decide +kernel
theorem d_Mo_prove_63 : decode m_Mo_prove.2.2.1 63 = .ok (.iastore, 1) := by decide +kernel
theorem d_Mo_prove_64 : decode m_Mo_prove.2.2.1 64 = .ok (.iinc 3 (1), 3) := by decide +kernel
theorem d_Mo_prove_67 : decode m_Mo_prove.2.2.1 67 = .ok (.goto (-30), 3) := by decide +kernel
theorem d_Mo_prove_70 : decode m_Mo_prove.2.2.1 70 = .ok (.iinc 2 (1), 3) := by decide +kernel
theorem d_Mo_prove_73 : decode m_Mo_prove.2.2.1 73 = .ok (.goto (-43), 3) := by decide +kernel
theorem d_Mo_prove_76 : decode m_Mo_prove.2.2.1 76 = .ok (.aload_n 0, 1) := by decide +kernel
theorem d_Mo_prove_77 : decode m_Mo_prove.2.2.1 77 = .ok (.invokevirtual 157, 3) := by decide +kernel
theorem d_Mo_prove_80 : decode m_Mo_prove.2.2.1 80 = .ok (.aload_n 0, 1) := by decide +kernel
theorem d_Mo_prove_81 : decode m_Mo_prove.2.2.1 81 = .ok (.getfield 34, 3) := by decide +kernel
theorem d_Mo_prove_84 : decode m_Mo_prove.2.2.1 84 = .ok (.iconst 0, 1) := by decide +kernel
theorem d_Mo_prove_85 : decode m_Mo_prove.2.2.1 85 = .ok (.aload_n 0, 1) := by decide +kernel
theorem d_Mo_prove_86 : decode m_Mo_prove.2.2.1 86 = .ok (.iconst 0, 1) := by decide +kernel
theorem d_Mo_prove_87 : decode m_Mo_prove.2.2.1 87 = .ok (.invokevirtual 160, 3) := by decide +kernel
theorem d_Mo_prove_90 : decode m_Mo_prove.2.2.1 90 = .ok (.iastore, 1) := by decide +kernel
theorem d_Mo_prove_91 : decode m_Mo_prove.2.2.1 91 = .ok (.aload_n 0, 1) := by decide +kernel
theorem d_Mo_prove_92 : decode m_Mo_prove.2.2.1 92 = .ok (.aload_n 0, 1) := by decide +kernel
theorem d_Mo_prove_93 : decode m_Mo_prove.2.2.1 93 = .ok (.getfield 34, 3) := by decide +kernel
theorem d_Mo_prove_96 : decode m_Mo_prove.2.2.1 96 = .ok (.iconst 0, 1) := by decide +kernel
theorem d_Mo_prove_97 : decode m_Mo_prove.2.2.1 97 = .ok (.iaload, 1) := by decide +kernel
theorem d_Mo_prove_98 : decode m_Mo_prove.2.2.1 98 = .ok (.invokevirtual 126, 3) := by decide +kernel
theorem d_Mo_prove_101 : decode m_Mo_prove.2.2.1 101 = .ok (.aload_n 0, 1) := by decide +kernel
theorem d_Mo_prove_102 : decode m_Mo_prove.2.2.1 102 = .ok (.aload_n 0, 1) := by decide +kernel
theorem d_Mo_prove_103 : decode m_Mo_prove.2.2.1 103 = .ok (.invokevirtual 163, 3) := by decide +kernel
theorem d_Mo_prove_106 : decode m_Mo_prove.2.2.1 106 = .ok (.putfield 117, 3) := by decide +kernel
theorem d_Mo_prove_109 : decode m_Mo_prove.2.2.1 109 = .ok (.iconst 0, 1) := by decide +kernel
theorem d_Mo_prove_110 : decode m_Mo_prove.2.2.1 110 = .ok (.istore_n 2, 1) := by decide +kernel
theorem d_Mo_prove_111 : decode m_Mo_prove.2.2.1 111 = .ok (.iload_n 2, 1) := by decide +kernel
theorem d_Mo_prove_112 : decode m_Mo_prove.2.2.1 112 = .ok (.bipush (32), 2) := by decide +kernel
theorem d_Mo_prove_114 : decode m_Mo_prove.2.2.1 114 = .ok (.if_icmp .ge (64), 3) := by decide +kernel
theorem d_Mo_prove_117 : decode m_Mo_prove.2.2.1 117 = .ok (.aload_n 0, 1) := by decide +kernel
theorem d_Mo_prove_118 : decode m_Mo_prove.2.2.1 118 = .ok (.aload_n 0, 1) := by decide +kernel
theorem d_Mo_prove_119 : decode m_Mo_prove.2.2.1 119 = .ok (.getfield 49, 3) := by decide +kernel
theorem d_Mo_prove_122 : decode m_Mo_prove.2.2.1 122 = .ok (.iload_n 2, 1) := by decide +kernel
theorem d_Mo_prove_123 : decode m_Mo_prove.2.2.1 123 = .ok (.iaload, 1) := by decide +kernel
theorem d_Mo_prove_124 : decode m_Mo_prove.2.2.1 124 = .ok (.aload_n 0, 1) := by decide +kernel
theorem d_Mo_prove_125 : decode m_Mo_prove.2.2.1 125 = .ok (.getfield 49, 3) := by decide +kernel
theorem d_Mo_prove_128 : decode m_Mo_prove.2.2.1 128 = .ok (.bipush (32), 2) := by decide +kernel
theorem d_Mo_prove_130 : decode m_Mo_prove.2.2.1 130 = .ok (.iload_n 2, 1) := by decide +kernel
theorem d_Mo_prove_131 : decode m_Mo_prove.2.2.1 131 = .ok (.iadd, 1) := by decide +kernel
theorem d_Mo_prove_132 : decode m_Mo_prove.2.2.1 132 = .ok (.iaload, 1) := by decide +kernel
theorem d_Mo_prove_133 : decode m_Mo_prove.2.2.1 133 = .ok (.aload_n 0, 1) := by decide +kernel
theorem d_Mo_prove_134 : decode m_Mo_prove.2.2.1 134 = .ok (.getfield 49, 3) := by decide +kernel
theorem d_Mo_prove_137 : decode m_Mo_prove.2.2.1 137 = .ok (.iload_n 2, 1) := by decide +kernel
theorem d_Mo_prove_138 : decode m_Mo_prove.2.2.1 138 = .ok (.iconst 4, 1) := by decide +kernel
theorem d_Mo_prove_139 : decode m_Mo_prove.2.2.1 139 = .ok (.iadd, 1) := by decide +kernel
theorem d_Mo_prove_140 : decode m_Mo_prove.2.2.1 140 = .ok (.bipush (32), 2) := by decide +kernel
theorem d_Mo_prove_142 : decode m_Mo_prove.2.2.1 142 = .ok (.irem, 1) := by decide +kernel
theorem d_Mo_prove_143 : decode m_Mo_prove.2.2.1 143 = .ok (.iaload, 1) := by decide +kernel
theorem d_Mo_prove_144 : decode m_Mo_prove.2.2.1 144 = .ok (.aload_n 0, 1) := by decide +kernel
theorem d_Mo_prove_145 : decode m_Mo_prove.2.2.1 145 = .ok (.getfield 49, 3) := by decide +kernel
theorem d_Mo_prove_148 : decode m_Mo_prove.2.2.1 148 = .ok (.bipush (32), 2) := by decide +kernel
theorem d_Mo_prove_150 : decode m_Mo_prove.2.2.1 150 = .ok (.iload_n 2, 1) := by decide +kernel
theorem d_Mo_prove_151 : decode m_Mo_prove.2.2.1 151 = .ok (.iconst 4, 1) := by decide +kernel
theorem d_Mo_prove_152 : decode m_Mo_prove.2.2.1 152 = .ok (.iadd, 1) := by decide +kernel
theorem d_Mo_prove_153 : decode m_Mo_prove.2.2.1 153 = .ok (.bipush (32), 2) := by decide +kernel
theorem d_Mo_prove_155 : decode m_Mo_prove.2.2.1 155 = .ok (.irem, 1) := by decide +kernel
theorem d_Mo_prove_156 : decode m_Mo_prove.2.2.1 156 = .ok (.iadd, 1) := by decide +kernel
theorem d_Mo_prove_157 : decode m_Mo_prove.2.2.1 157 = .ok (.iaload, 1) := by decide +kernel
theorem d_Mo_prove_158 : decode m_Mo_prove.2.2.1 158 = .ok (.invokevirtual 103, 3) := by decide +kernel
theorem d_Mo_prove_161 : decode m_Mo_prove.2.2.1 161 = .ok (.aload_n 0, 1) := by decide +kernel
theorem d_Mo_prove_162 : decode m_Mo_prove.2.2.1 162 = .ok (.getfield 52, 3) := by decide +kernel
theorem d_Mo_prove_165 : decode m_Mo_prove.2.2.1 165 = .ok (.iload_n 2, 1) := by decide +kernel
theorem d_Mo_prove_166 : decode m_Mo_prove.2.2.1 166 = .ok (.aload_n 0, 1) := by decide +kernel
theorem d_Mo_prove_167 : decode m_Mo_prove.2.2.1 167 = .ok (.iload_n 2, 1) := by decide +kernel
theorem d_Mo_prove_168 : decode m_Mo_prove.2.2.1 168 = .ok (.invokevirtual 166, 3) := by decide +kernel
theorem d_Mo_prove_171 : decode m_Mo_prove.2.2.1 171 = .ok (.iastore, 1) := by decide +kernel
theorem d_Mo_prove_172 : decode m_Mo_prove.2.2.1 172 = .ok (.iinc 2 (1), 3) := by decide +kernel
theorem d_Mo_prove_175 : decode m_Mo_prove.2.2.1 175 = .ok (.goto (-64), 3) := by decide +kernel
theorem d_Mo_prove_178 : decode m_Mo_prove.2.2.1 178 = .ok (.iconst 0, 1) := by decide +kernel
theorem d_Mo_prove_179 : decode m_Mo_prove.2.2.1 179 = .ok (.istore_n 2, 1) := by decide +kernel
theorem d_Mo_prove_180 : decode m_Mo_prove.2.2.1 180 = .ok (.iload_n 2, 1) := by decide +kernel
theorem d_Mo_prove_181 : decode m_Mo_prove.2.2.1 181 = .ok (.iconst 3, 1) := by decide +kernel
theorem d_Mo_prove_182 : decode m_Mo_prove.2.2.1 182 = .ok (.if_icmp .ge (51), 3) := by decide +kernel
theorem d_Mo_prove_185 : decode m_Mo_prove.2.2.1 185 = .ok (.aload_n 0, 1) := by decide +kernel
theorem d_Mo_prove_186 : decode m_Mo_prove.2.2.1 186 = .ok (.getfield 34, 3) := by decide +kernel
theorem d_Mo_prove_189 : decode m_Mo_prove.2.2.1 189 = .ok (.iload_n 2, 1) := by decide +kernel
theorem d_Mo_prove_190 : decode m_Mo_prove.2.2.1 190 = .ok (.iconst 1, 1) := by decide +kernel
theorem d_Mo_prove_191 : decode m_Mo_prove.2.2.1 191 = .ok (.iadd, 1) := by decide +kernel
theorem d_Mo_prove_192 : decode m_Mo_prove.2.2.1 192 = .ok (.aload_n 0, 1) := by decide +kernel
theorem d_Mo_prove_193 : decode m_Mo_prove.2.2.1 193 = .ok (.iload_n 2, 1) := by decide +kernel
theorem d_Mo_prove_194 : decode m_Mo_prove.2.2.1 194 = .ok (.iconst 1, 1) := by decide +kernel
theorem d_Mo_prove_195 : decode m_Mo_prove.2.2.1 195 = .ok (.iadd, 1) := by decide +kernel
theorem d_Mo_prove_196 : decode m_Mo_prove.2.2.1 196 = .ok (.invokevirtual 160, 3) := by decide +kernel
theorem d_Mo_prove_199 : decode m_Mo_prove.2.2.1 199 = .ok (.iastore, 1) := by decide +kernel
theorem d_Mo_prove_200 : decode m_Mo_prove.2.2.1 200 = .ok (.aload_n 0, 1) := by decide +kernel
theorem d_Mo_prove_201 : decode m_Mo_prove.2.2.1 201 = .ok (.aload_n 0, 1) := by decide +kernel
theorem d_Mo_prove_202 : decode m_Mo_prove.2.2.1 202 = .ok (.getfield 34, 3) := by decide +kernel
theorem d_Mo_prove_205 : decode m_Mo_prove.2.2.1 205 = .ok (.iload_n 2, 1) := by decide +kernel
theorem d_Mo_prove_206 : decode m_Mo_prove.2.2.1 206 = .ok (.iconst 1, 1) := by decide +kernel
theorem d_Mo_prove_207 : decode m_Mo_prove.2.2.1 207 = .ok (.iadd, 1) := by decide +kernel
theorem d_Mo_prove_208 : decode m_Mo_prove.2.2.1 208 = .ok (.iaload, 1) := by decide +kernel
theorem d_Mo_prove_209 : decode m_Mo_prove.2.2.1 209 = .ok (.invokevirtual 126, 3) := by decide +kernel
theorem d_Mo_prove_212 : decode m_Mo_prove.2.2.1 212 = .ok (.aload_n 0, 1) := by decide +kernel
theorem d_Mo_prove_213 : decode m_Mo_prove.2.2.1 213 = .ok (.getfield 37, 3) := by decide +kernel
theorem d_Mo_prove_216 : decode m_Mo_prove.2.2.1 216 = .ok (.iload_n 2, 1) := by decide +kernel
theorem d_Mo_prove_217 : decode m_Mo_prove.2.2.1 217 = .ok (.aload_n 0, 1) := by decide +kernel
theorem d_Mo_prove_218 : decode m_Mo_prove.2.2.1 218 = .ok (.invokevirtual 163, 3) := by decide +kernel
theorem d_Mo_prove_221 : decode m_Mo_prove.2.2.1 221 = .ok (.iastore, 1) := by decide +kernel
theorem d_Mo_prove_222 : decode m_Mo_prove.2.2.1 222 = .ok (.aload_n 0, 1) := by decide +kernel
theorem d_Mo_prove_223 : decode m_Mo_prove.2.2.1 223 = .ok (.iload_n 2, 1) := by decide +kernel
theorem d_Mo_prove_224 : decode m_Mo_prove.2.2.1 224 = .ok (.invokevirtual 169, 3) := by decide +kernel
theorem d_Mo_prove_227 : decode m_Mo_prove.2.2.1 227 = .ok (.iinc 2 (1), 3) := by decide +kernel
theorem d_Mo_prove_230 : decode m_Mo_prove.2.2.1 230 = .ok (.goto (-50), 3) := by decide +kernel
theorem d_Mo_prove_233 : decode m_Mo_prove.2.2.1 233 = .ok (.aload_n 0, 1) := by decide +kernel
theorem d_Mo_prove_234 : decode m_Mo_prove.2.2.1 234 = .ok (.getfield 34, 3) := by decide +kernel
theorem d_Mo_prove_237 : decode m_Mo_prove.2.2.1 237 = .ok (.iconst 4, 1) := by decide +kernel
theorem d_Mo_prove_238 : decode m_Mo_prove.2.2.1 238 = .ok (.aload_n 0, 1) := by decide +kernel
theorem d_Mo_prove_239 : decode m_Mo_prove.2.2.1 239 = .ok (.getfield 52, 3) := by decide +kernel
theorem d_Mo_prove_242 : decode m_Mo_prove.2.2.1 242 = .ok (.bipush (56), 2) := by decide +kernel
theorem d_Mo_prove_244 : decode m_Mo_prove.2.2.1 244 = .ok (.iaload, 1) := by decide +kernel
theorem d_Mo_prove_245 : decode m_Mo_prove.2.2.1 245 = .ok (.iastore, 1) := by decide +kernel
theorem d_Mo_prove_246 : decode m_Mo_prove.2.2.1 246 = .ok (.aload_n 0, 1) := by decide +kernel
theorem d_Mo_prove_247 : decode m_Mo_prove.2.2.1 247 = .ok (.aload_n 0, 1) := by decide +kernel
theorem d_Mo_prove_248 : decode m_Mo_prove.2.2.1 248 = .ok (.getfield 34, 3) := by decide +kernel
theorem d_Mo_prove_251 : decode m_Mo_prove.2.2.1 251 = .ok (.iconst 4, 1) := by decide +kernel
theorem d_Mo_prove_252 : decode m_Mo_prove.2.2.1 252 = .ok (.iaload, 1) := by decide +kernel
theorem d_Mo_prove_253 : decode m_Mo_prove.2.2.1 253 = .ok (.invokevirtual 172, 3) := by decide +kernel
theorem d_Mo_prove_256 : decode m_Mo_prove.2.2.1 256 = .ok (.aload_n 0, 1) := by decide +kernel
theorem d_Mo_prove_257 : decode m_Mo_prove.2.2.1 257 = .ok (.iconst 5, 1) := by decide +kernel
theorem d_Mo_prove_258 : decode m_Mo_prove.2.2.1 258 = .ok (.putfield 140, 3) := by decide +kernel
theorem d_Mo_prove_261 : decode m_Mo_prove.2.2.1 261 = .ok (.iconst 0, 1) := by decide +kernel
theorem d_Mo_prove_262 : decode m_Mo_prove.2.2.1 262 = .ok (.istore_n 2, 1) := by decide +kernel
theorem d_Mo_prove_263 : decode m_Mo_prove.2.2.1 263 = .ok (.iload_n 2, 1) := by decide +kernel
theorem d_Mo_prove_264 : decode m_Mo_prove.2.2.1 264 = .ok (.iconst 3, 1) := by decide +kernel
theorem d_Mo_prove_265 : decode m_Mo_prove.2.2.1 265 = .ok (.if_icmp .ge (19), 3) := by decide +kernel
theorem d_Mo_prove_268 : decode m_Mo_prove.2.2.1 268 = .ok (.aload_n 0, 1) := by decide +kernel
theorem d_Mo_prove_269 : decode m_Mo_prove.2.2.1 269 = .ok (.aload_n 0, 1) := by decide +kernel
theorem d_Mo_prove_270 : decode m_Mo_prove.2.2.1 270 = .ok (.getfield 40, 3) := by decide +kernel
theorem d_Mo_prove_273 : decode m_Mo_prove.2.2.1 273 = .ok (.iload_n 2, 1) := by decide +kernel
theorem d_Mo_prove_274 : decode m_Mo_prove.2.2.1 274 = .ok (.iaload, 1) := by decide +kernel
theorem d_Mo_prove_275 : decode m_Mo_prove.2.2.1 275 = .ok (.invokevirtual 175, 3) := by decide +kernel
theorem d_Mo_prove_278 : decode m_Mo_prove.2.2.1 278 = .ok (.iinc 2 (1), 3) := by decide +kernel
theorem d_Mo_prove_281 : decode m_Mo_prove.2.2.1 281 = .ok (.goto (-18), 3) := by decide +kernel
theorem d_Mo_prove_284 : decode m_Mo_prove.2.2.1 284 = .ok (.aload_n 0, 1) := by decide +kernel
theorem d_Mo_prove_285 : decode m_Mo_prove.2.2.1 285 = .ok (.iconst 1, 1) := by decide +kernel
theorem d_Mo_prove_286 : decode m_Mo_prove.2.2.1 286 = .ok (.putfield 178, 3) := by decide +kernel
theorem d_Mo_prove_289 : decode m_Mo_prove.2.2.1 289 = .ok (.iconst 0, 1) := by decide +kernel
theorem d_Mo_prove_290 : decode m_Mo_prove.2.2.1 290 = .ok (.ireturn, 1) := by decide +kernel
theorem d_Mo_proof_0 : decode m_Mo_proof.2.2.1 0 = .ok (.aload_n 0, 1) := by decide +kernel
theorem d_Mo_proof_1 : decode m_Mo_proof.2.2.1 1 = .ok (.getfield 178, 3) := by decide +kernel
theorem d_Mo_proof_4 : decode m_Mo_proof.2.2.1 4 = .ok (.ifCond .eq (23), 3) := by decide +kernel
theorem d_Mo_proof_7 : decode m_Mo_proof.2.2.1 7 = .ok (.iload_n 1, 1) := by decide +kernel
theorem d_Mo_proof_8 : decode m_Mo_proof.2.2.1 8 = .ok (.ifCond .lt (19), 3) := by decide +kernel
theorem d_Mo_proof_11 : decode m_Mo_proof.2.2.1 11 = .ok (.iload_n 1, 1) := by decide +kernel
theorem d_Mo_proof_12 : decode m_Mo_proof.2.2.1 12 = .ok (.sipush (179), 3) := by decide +kernel
theorem d_Mo_proof_15 : decode m_Mo_proof.2.2.1 15 = .ok (.if_icmp .ge (12), 3) := by decide +kernel
theorem d_Mo_proof_18 : decode m_Mo_proof.2.2.1 18 = .ok (.aload_n 0, 1) := by decide +kernel
theorem d_Mo_proof_19 : decode m_Mo_proof.2.2.1 19 = .ok (.getfield 34, 3) := by decide +kernel
theorem d_Mo_proof_22 : decode m_Mo_proof.2.2.1 22 = .ok (.iload_n 1, 1) := by decide +kernel
theorem d_Mo_proof_23 : decode m_Mo_proof.2.2.1 23 = .ok (.iaload, 1) := by decide +kernel
theorem d_Mo_proof_24 : decode m_Mo_proof.2.2.1 24 = .ok (.goto (4), 3) := by decide +kernel
theorem d_Mo_proof_27 : decode m_Mo_proof.2.2.1 27 = .ok (.iconst 0, 1) := by decide +kernel
theorem d_Mo_proof_28 : decode m_Mo_proof.2.2.1 28 = .ok (.ireturn, 1) := by decide +kernel
theorem d_Mo_alter_0 : decode m_Mo_alter.2.2.1 0 = .ok (.aload_n 0, 1) := by decide +kernel
theorem d_Mo_alter_1 : decode m_Mo_alter.2.2.1 1 = .ok (.getfield 178, 3) := by decide +kernel
theorem d_Mo_alter_4 : decode m_Mo_alter.2.2.1 4 = .ok (.ifCond .eq (14), 3) := by decide +kernel
theorem d_Mo_alter_7 : decode m_Mo_alter.2.2.1 7 = .ok (.iload_n 1, 1) := by decide +kernel
theorem d_Mo_alter_8 : decode m_Mo_alter.2.2.1 8 = .ok (.ifCond .lt (10), 3) := by decide +kernel
theorem d_Mo_alter_11 : decode m_Mo_alter.2.2.1 11 = .ok (.iload_n 1, 1) := by decide +kernel
theorem d_Mo_alter_12 : decode m_Mo_alter.2.2.1 12 = .ok (.sipush (179), 3) := by decide +kernel
theorem d_Mo_alter_15 : decode m_Mo_alter.2.2.1 15 = .ok (.if_icmp .lt (5), 3) := by decide +kernel
theorem d_Mo_alter_18 : decode m_Mo_alter.2.2.1 18 = .ok (.iconst 0, 1) := by decide +kernel
theorem d_Mo_alter_19 : decode m_Mo_alter.2.2.1 19 = .ok (.ireturn, 1) := by decide +kernel
theorem d_Mo_alter_20 : decode m_Mo_alter.2.2.1 20 = .ok (.aload_n 0, 1) := by decide +kernel
theorem d_Mo_alter_21 : decode m_Mo_alter.2.2.1 21 = .ok (.getfield 34, 3) := by decide +kernel
theorem d_Mo_alter_24 : decode m_Mo_alter.2.2.1 24 = .ok (.iload_n 1, 1) := by decide +kernel
theorem d_Mo_alter_25 : decode m_Mo_alter.2.2.1 25 = .ok (.iload_n 2, 1) := by decide +kernel
theorem d_Mo_alter_26 : decode m_Mo_alter.2.2.1 26 = .ok (.iastore, 1) := by decide +kernel
theorem d_Mo_alter_27 : decode m_Mo_alter.2.2.1 27 = .ok (.iconst 1, 1) := by decide +kernel
theorem d_Mo_alter_28 : decode m_Mo_alter.2.2.1 28 = .ok (.ireturn, 1) := by decide +kernel
theorem d_Mo_placeOf_0 : decode m_Mo_placeOf.2.2.1 0 = .ok (.iconst 5, 1) := by decide +kernel
theorem d_Mo_placeOf_1 : decode m_Mo_placeOf.2.2.1 1 = .ok (.bipush (58), 2) := by decide +kernel
theorem d_Mo_placeOf_3 : decode m_Mo_placeOf.2.2.1 3 = .ok (.iload_n 0, 1) := by decide +kernel
theorem d_Mo_placeOf_4 : decode m_Mo_placeOf.2.2.1 4 = .ok (.imul, 1) := by decide +kernel
theorem d_Mo_placeOf_5 : decode m_Mo_placeOf.2.2.1 5 = .ok (.iadd, 1) := by decide +kernel
theorem d_Mo_placeOf_6 : decode m_Mo_placeOf.2.2.1 6 = .ok (.istore_n 2, 1) := by decide +kernel
theorem d_Mo_placeOf_7 : decode m_Mo_placeOf.2.2.1 7 = .ok (.iload_n 1, 1) := by decide +kernel
theorem d_Mo_placeOf_8 : decode m_Mo_placeOf.2.2.1 8 = .ok (.iconst 4, 1) := by decide +kernel
theorem d_Mo_placeOf_9 : decode m_Mo_placeOf.2.2.1 9 = .ok (.if_icmp .ge (12), 3) := by decide +kernel
theorem d_Mo_placeOf_12 : decode m_Mo_placeOf.2.2.1 12 = .ok (.iload_n 2, 1) := by decide +kernel
theorem d_Mo_placeOf_13 : decode m_Mo_placeOf.2.2.1 13 = .ok (.bipush (7), 2) := by decide +kernel
theorem d_Mo_placeOf_15 : decode m_Mo_placeOf.2.2.1 15 = .ok (.iload_n 1, 1) := by decide +kernel
theorem d_Mo_placeOf_16 : decode m_Mo_placeOf.2.2.1 16 = .ok (.imul, 1) := by decide +kernel
theorem d_Mo_placeOf_17 : decode m_Mo_placeOf.2.2.1 17 = .ok (.iadd, 1) := by decide +kernel
theorem d_Mo_placeOf_18 : decode m_Mo_placeOf.2.2.1 18 = .ok (.goto (54), 3) := by decide +kernel
theorem d_Mo_placeOf_21 : decode m_Mo_placeOf.2.2.1 21 = .ok (.iload_n 1, 1) := by decide +kernel
theorem d_Mo_placeOf_22 : decode m_Mo_placeOf.2.2.1 22 = .ok (.bipush (6), 2) := by decide +kernel
theorem d_Mo_placeOf_24 : decode m_Mo_placeOf.2.2.1 24 = .ok (.if_icmp .ge (17), 3) := by decide +kernel
theorem d_Mo_placeOf_27 : decode m_Mo_placeOf.2.2.1 27 = .ok (.iload_n 2, 1) := by decide +kernel
theorem d_Mo_placeOf_28 : decode m_Mo_placeOf.2.2.1 28 = .ok (.bipush (28), 2) := by decide +kernel
theorem d_Mo_placeOf_30 : decode m_Mo_placeOf.2.2.1 30 = .ok (.iadd, 1) := by decide +kernel
theorem d_Mo_placeOf_31 : decode m_Mo_placeOf.2.2.1 31 = .ok (.bipush (6), 2) := by decide +kernel
theorem d_Mo_placeOf_33 : decode m_Mo_placeOf.2.2.1 33 = .ok (.iload_n 1, 1) := by decide +kernel
theorem d_Mo_placeOf_34 : decode m_Mo_placeOf.2.2.1 34 = .ok (.iconst 4, 1) := by decide +kernel
theorem d_Mo_placeOf_35 : decode m_Mo_placeOf.2.2.1 35 = .ok (.isub, 1) := by decide +kernel
theorem d_Mo_placeOf_36 : decode m_Mo_placeOf.2.2.1 36 = .ok (.imul, 1) := by decide +kernel
theorem d_Mo_placeOf_37 : decode m_Mo_placeOf.2.2.1 37 = .ok (.iadd, 1) := by decide +kernel
theorem d_Mo_placeOf_38 : decode m_Mo_placeOf.2.2.1 38 = .ok (.goto (34), 3) := by decide +kernel
theorem d_Mo_placeOf_41 : decode m_Mo_placeOf.2.2.1 41 = .ok (.iload_n 1, 1) := by decide +kernel
theorem d_Mo_placeOf_42 : decode m_Mo_placeOf.2.2.1 42 = .ok (.bipush (8), 2) := by decide +kernel
theorem d_Mo_placeOf_44 : decode m_Mo_placeOf.2.2.1 44 = .ok (.if_icmp .ge (17), 3) := by decide +kernel
theorem d_Mo_placeOf_47 : decode m_Mo_placeOf.2.2.1 47 = .ok (.iload_n 2, 1) := by decide +kernel
theorem d_Mo_placeOf_48 : decode m_Mo_placeOf.2.2.1 48 = .ok (.bipush (40), 2) := by decide +kernel
theorem d_Mo_placeOf_50 : decode m_Mo_placeOf.2.2.1 50 = .ok (.iadd, 1) := by decide +kernel
theorem d_Mo_placeOf_51 : decode m_Mo_placeOf.2.2.1 51 = .ok (.iconst 5, 1) := by decide +kernel
theorem d_Mo_placeOf_52 : decode m_Mo_placeOf.2.2.1 52 = .ok (.iload_n 1, 1) := by decide +kernel
theorem d_Mo_placeOf_53 : decode m_Mo_placeOf.2.2.1 53 = .ok (.bipush (6), 2) := by decide +kernel
theorem d_Mo_placeOf_55 : decode m_Mo_placeOf.2.2.1 55 = .ok (.isub, 1) := by decide +kernel
theorem d_Mo_placeOf_56 : decode m_Mo_placeOf.2.2.1 56 = .ok (.imul, 1) := by decide +kernel
theorem d_Mo_placeOf_57 : decode m_Mo_placeOf.2.2.1 57 = .ok (.iadd, 1) := by decide +kernel
theorem d_Mo_placeOf_58 : decode m_Mo_placeOf.2.2.1 58 = .ok (.goto (14), 3) := by decide +kernel
theorem d_Mo_placeOf_61 : decode m_Mo_placeOf.2.2.1 61 = .ok (.iload_n 2, 1) := by decide +kernel
theorem d_Mo_placeOf_62 : decode m_Mo_placeOf.2.2.1 62 = .ok (.bipush (50), 2) := by decide +kernel
theorem d_Mo_placeOf_64 : decode m_Mo_placeOf.2.2.1 64 = .ok (.iadd, 1) := by decide +kernel
theorem d_Mo_placeOf_65 : decode m_Mo_placeOf.2.2.1 65 = .ok (.iconst 4, 1) := by decide +kernel
theorem d_Mo_placeOf_66 : decode m_Mo_placeOf.2.2.1 66 = .ok (.iload_n 1, 1) := by decide +kernel
theorem d_Mo_placeOf_67 : decode m_Mo_placeOf.2.2.1 67 = .ok (.bipush (8), 2) := by decide +kernel
theorem d_Mo_placeOf_69 : decode m_Mo_placeOf.2.2.1 69 = .ok (.isub, 1) := by decide +kernel
theorem d_Mo_placeOf_70 : decode m_Mo_placeOf.2.2.1 70 = .ok (.imul, 1) := by decide +kernel
theorem d_Mo_placeOf_71 : decode m_Mo_placeOf.2.2.1 71 = .ok (.iadd, 1) := by decide +kernel
theorem d_Mo_placeOf_72 : decode m_Mo_placeOf.2.2.1 72 = .ok (.ireturn, 1) := by decide +kernel
theorem d_Mo_allNumbers_0 : decode m_Mo_allNumbers.2.2.1 0 = .ok (.aload_n 0, 1) := by decide +kernel
theorem d_Mo_allNumbers_1 : decode m_Mo_allNumbers.2.2.1 1 = .ok (.getfield 34, 3) := by decide +kernel
theorem d_Mo_allNumbers_4 : decode m_Mo_allNumbers.2.2.1 4 = .ok (.iconst 4, 1) := by decide +kernel
theorem d_Mo_allNumbers_5 : decode m_Mo_allNumbers.2.2.1 5 = .ok (.iaload, 1) := by decide +kernel
theorem d_Mo_allNumbers_6 : decode m_Mo_allNumbers.2.2.1 6 = .ok (.invokestatic 78, 3) := by decide +kernel
theorem d_Mo_allNumbers_9 : decode m_Mo_allNumbers.2.2.1 9 = .ok (.istore_n 1, 1) := by decide +kernel
theorem d_Mo_allNumbers_10 : decode m_Mo_allNumbers.2.2.1 10 = .ok (.iconst 0, 1) := by decide +kernel
theorem d_Mo_allNumbers_11 : decode m_Mo_allNumbers.2.2.1 11 = .ok (.istore_n 2, 1) := by decide +kernel
theorem d_Mo_allNumbers_12 : decode m_Mo_allNumbers.2.2.1 12 = .ok (.iload_n 2, 1) := by decide +kernel
theorem d_Mo_allNumbers_13 : decode m_Mo_allNumbers.2.2.1 13 = .ok (.iconst 3, 1) := by decide +kernel
theorem d_Mo_allNumbers_14 : decode m_Mo_allNumbers.2.2.1 14 = .ok (.if_icmp .ge (72), 3) := by decide +kernel
theorem d_Mo_allNumbers_17 : decode m_Mo_allNumbers.2.2.1 17 = .ok (.iconst 0, 1) := by decide +kernel
theorem d_Mo_allNumbers_18 : decode m_Mo_allNumbers.2.2.1 18 = .ok (.istore_n 3, 1) := by decide +kernel
theorem d_Mo_allNumbers_19 : decode m_Mo_allNumbers.2.2.1 19 = .ok (.iload_n 3, 1) := by decide +kernel
theorem d_Mo_allNumbers_20 : decode m_Mo_allNumbers.2.2.1 20 = .ok (.bipush (10), 2) := by decide +kernel
theorem d_Mo_allNumbers_22 : decode m_Mo_allNumbers.2.2.1 22 = .ok (.if_icmp .ge (58), 3) := by decide +kernel
theorem d_Mo_allNumbers_25 : decode m_Mo_allNumbers.2.2.1 25 = .ok (.iload_n 1, 1) := by decide +kernel
theorem d_Mo_allNumbers_26 : decode m_Mo_allNumbers.2.2.1 26 = .ok (.ifCond .eq (46), 3) := by decide +kernel
theorem d_Mo_allNumbers_29 : decode m_Mo_allNumbers.2.2.1 29 = .ok (.aload_n 0, 1) := by decide +kernel
theorem d_Mo_allNumbers_30 : decode m_Mo_allNumbers.2.2.1 30 = .ok (.getfield 34, 3) := by decide +kernel
theorem d_Mo_allNumbers_33 : decode m_Mo_allNumbers.2.2.1 33 = .ok (.iload_n 2, 1) := by decide +kernel
theorem d_Mo_allNumbers_34 : decode m_Mo_allNumbers.2.2.1 34 = .ok (.iload_n 3, 1) := by decide +kernel
theorem d_Mo_allNumbers_35 : decode m_Mo_allNumbers.2.2.1 35 = .ok (.invokestatic 182, 3) := by decide +kernel
theorem d_Mo_allNumbers_38 : decode m_Mo_allNumbers.2.2.1 38 = .ok (.iaload, 1) := by decide +kernel
theorem d_Mo_allNumbers_39 : decode m_Mo_allNumbers.2.2.1 39 = .ok (.invokestatic 78, 3) := by decide +kernel
theorem d_Mo_allNumbers_42 : decode m_Mo_allNumbers.2.2.1 42 = .ok (.ifCond .eq (30), 3) := by decide +kernel
theorem d_Mo_allNumbers_45 : decode m_Mo_allNumbers.2.2.1 45 = .ok (.iload_n 3, 1) := by decide +kernel
theorem d_Mo_allNumbers_46 : decode m_Mo_allNumbers.2.2.1 46 = .ok (.iconst 3, 1) := by decide +kernel
theorem d_Mo_allNumbers_47 : decode m_Mo_allNumbers.2.2.1 47 = .ok (.if_icmp .gt (21), 3) := by decide +kernel
theorem d_Mo_allNumbers_50 : decode m_Mo_allNumbers.2.2.1 50 = .ok (.aload_n 0, 1) := by decide +kernel
theorem d_Mo_allNumbers_51 : decode m_Mo_allNumbers.2.2.1 51 = .ok (.getfield 34, 3) := by decide +kernel
theorem d_Mo_allNumbers_54 : decode m_Mo_allNumbers.2.2.1 54 = .ok (.iload_n 2, 1) := by decide +kernel
theorem d_Mo_allNumbers_55 : decode m_Mo_allNumbers.2.2.1 55 = .ok (.iload_n 3, 1) := by decide +kernel
theorem d_Mo_allNumbers_56 : decode m_Mo_allNumbers.2.2.1 56 = .ok (.invokestatic 182, 3) := by decide +kernel
theorem d_Mo_allNumbers_59 : decode m_Mo_allNumbers.2.2.1 59 = .ok (.iconst 1, 1) := by decide +kernel
theorem d_Mo_allNumbers_60 : decode m_Mo_allNumbers.2.2.1 60 = .ok (.iadd, 1) := by decide +kernel
theorem d_Mo_allNumbers_61 : decode m_Mo_allNumbers.2.2.1 61 = .ok (.iaload, 1) := by decide +kernel
theorem d_Mo_allNumbers_62 : decode m_Mo_allNumbers.2.2.1 62 = .ok (.invokestatic 78, 3) := by decide +kernel
theorem d_Mo_allNumbers_65 : decode m_Mo_allNumbers.2.2.1 65 = .ok (.ifCond .eq (7), 3) := by decide +kernel
theorem d_Mo_allNumbers_68 : decode m_Mo_allNumbers.2.2.1 68 = .ok (.iconst 1, 1) := by decide +kernel
theorem d_Mo_allNumbers_69 : decode m_Mo_allNumbers.2.2.1 69 = .ok (.goto (4), 3) := by decide +kernel
theorem d_Mo_allNumbers_72 : decode m_Mo_allNumbers.2.2.1 72 = .ok (.iconst 0, 1) := by decide +kernel
theorem d_Mo_allNumbers_73 : decode m_Mo_allNumbers.2.2.1 73 = .ok (.istore_n 1, 1) := by decide +kernel
theorem d_Mo_allNumbers_74 : decode m_Mo_allNumbers.2.2.1 74 = .ok (.iinc 3 (1), 3) := by decide +kernel
theorem d_Mo_allNumbers_77 : decode m_Mo_allNumbers.2.2.1 77 = .ok (.goto (-58), 3) := by decide +kernel
theorem d_Mo_allNumbers_80 : decode m_Mo_allNumbers.2.2.1 80 = .ok (.iinc 2 (1), 3) := by decide +kernel
theorem d_Mo_allNumbers_83 : decode m_Mo_allNumbers.2.2.1 83 = .ok (.goto (-71), 3) := by decide +kernel
theorem d_Mo_allNumbers_86 : decode m_Mo_allNumbers.2.2.1 86 = .ok (.iload_n 1, 1) := by decide +kernel
theorem d_Mo_allNumbers_87 : decode m_Mo_allNumbers.2.2.1 87 = .ok (.ireturn, 1) := by decide +kernel
theorem d_Mo_leads_0 : decode m_Mo_leads.2.2.1 0 = .ok (.iload_n 3, 1) := by decide +kernel
theorem d_Mo_leads_1 : decode m_Mo_leads.2.2.1 1 = .ok (.istore 5, 2) := by decide +kernel
theorem d_Mo_leads_3 : decode m_Mo_leads.2.2.1 3 = .ok (.iload 4, 2) := by decide +kernel
theorem d_Mo_leads_5 : decode m_Mo_leads.2.2.1 5 = .ok (.istore 6, 2) := by decide +kernel
theorem d_Mo_leads_7 : decode m_Mo_leads.2.2.1 7 = .ok (.iload_n 1, 1) := by decide +kernel
theorem d_Mo_leads_8 : decode m_Mo_leads.2.2.1 8 = .ok (.invokestatic 134, 3) := by decide +kernel
theorem d_Mo_leads_11 : decode m_Mo_leads.2.2.1 11 = .ok (.iload_n 2, 1) := by decide +kernel
theorem d_Mo_leads_12 : decode m_Mo_leads.2.2.1 12 = .ok (.iadd, 1) := by decide +kernel
theorem d_Mo_leads_13 : decode m_Mo_leads.2.2.1 13 = .ok (.istore 7, 2) := by decide +kernel
theorem d_Mo_leads_15 : decode m_Mo_leads.2.2.1 15 = .ok (.iload 7, 2) := by decide +kernel
theorem d_Mo_leads_17 : decode m_Mo_leads.2.2.1 17 = .ok (.iconst 1, 1) := by decide +kernel
theorem d_Mo_leads_18 : decode m_Mo_leads.2.2.1 18 = .ok (.if_icmp .le (51), 3) := by decide +kernel
theorem d_Mo_leads_21 : decode m_Mo_leads.2.2.1 21 = .ok (.iload 7, 2) := by decide +kernel
theorem d_Mo_leads_23 : decode m_Mo_leads.2.2.1 23 = .ok (.iconst 2, 1) := by decide +kernel
theorem d_Mo_leads_24 : decode m_Mo_leads.2.2.1 24 = .ok (.irem, 1) := by decide +kernel
theorem d_Mo_leads_25 : decode m_Mo_leads.2.2.1 25 = .ok (.ifCond .ne (18), 3) := by decide +kernel
theorem d_Mo_leads_28 : decode m_Mo_leads.2.2.1 28 = .ok (.iload 5, 2) := by decide +kernel
theorem d_Mo_leads_30 : decode m_Mo_leads.2.2.1 30 = .ok (.aload_n 0, 1) := by decide +kernel
theorem d_Mo_leads_31 : decode m_Mo_leads.2.2.1 31 = .ok (.getfield 34, 3) := by decide +kernel
theorem d_Mo_leads_34 : decode m_Mo_leads.2.2.1 34 = .ok (.iload 6, 2) := by decide +kernel
theorem d_Mo_leads_36 : decode m_Mo_leads.2.2.1 36 = .ok (.iaload, 1) := by decide +kernel
theorem d_Mo_leads_37 : decode m_Mo_leads.2.2.1 37 = .ok (.invokestatic 123, 3) := by decide +kernel
theorem d_Mo_leads_40 : decode m_Mo_leads.2.2.1 40 = .ok (.goto (15), 3) := by decide +kernel
theorem d_Mo_leads_43 : decode m_Mo_leads.2.2.1 43 = .ok (.aload_n 0, 1) := by decide +kernel
theorem d_Mo_leads_44 : decode m_Mo_leads.2.2.1 44 = .ok (.getfield 34, 3) := by decide +kernel
theorem d_Mo_leads_47 : decode m_Mo_leads.2.2.1 47 = .ok (.iload 6, 2) := by decide +kernel
theorem d_Mo_leads_49 : decode m_Mo_leads.2.2.1 49 = .ok (.iaload, 1) := by decide +kernel
theorem d_Mo_leads_50 : decode m_Mo_leads.2.2.1 50 = .ok (.iload 5, 2) := by decide +kernel
theorem d_Mo_leads_52 : decode m_Mo_leads.2.2.1 52 = .ok (.invokestatic 123, 3) := by decide +kernel
theorem d_Mo_leads_55 : decode m_Mo_leads.2.2.1 55 = .ok (.istore 5, 2) := by decide +kernel
theorem d_Mo_leads_57 : decode m_Mo_leads.2.2.1 57 = .ok (.iinc 6 (1), 3) := by decide +kernel
theorem d_Mo_leads_60 : decode m_Mo_leads.2.2.1 60 = .ok (.iload 7, 2) := by decide +kernel
theorem d_Mo_leads_62 : decode m_Mo_leads.2.2.1 62 = .ok (.iconst 2, 1) := by decide +kernel
theorem d_Mo_leads_63 : decode m_Mo_leads.2.2.1 63 = .ok (.idiv, 1) := by decide +kernel
theorem d_Mo_leads_64 : decode m_Mo_leads.2.2.1 64 = .ok (.istore 7, 2) := by decide +kernel
theorem d_Mo_leads_66 : decode m_Mo_leads.2.2.1 66 = .ok (.goto (-51), 3) := by decide +kernel
theorem d_Mo_leads_69 : decode m_Mo_leads.2.2.1 69 = .ok (.iload 5, 2) := by decide +kernel
theorem d_Mo_leads_71 : decode m_Mo_leads.2.2.1 71 = .ok (.aload_n 0, 1) := by decide +kernel
theorem d_Mo_leads_72 : decode m_Mo_leads.2.2.1 72 = .ok (.getfield 34, 3) := by decide +kernel
theorem d_Mo_leads_75 : decode m_Mo_leads.2.2.1 75 = .ok (.iload_n 1, 1) := by decide +kernel
theorem d_Mo_leads_76 : decode m_Mo_leads.2.2.1 76 = .ok (.iaload, 1) := by decide +kernel
theorem d_Mo_leads_77 : decode m_Mo_leads.2.2.1 77 = .ok (.if_icmp .ne (7), 3) := by decide +kernel
theorem d_Mo_leads_80 : decode m_Mo_leads.2.2.1 80 = .ok (.iconst 1, 1) := by decide +kernel
theorem d_Mo_leads_81 : decode m_Mo_leads.2.2.1 81 = .ok (.goto (4), 3) := by decide +kernel
theorem d_Mo_leads_84 : decode m_Mo_leads.2.2.1 84 = .ok (.iconst 0, 1) := by decide +kernel
theorem d_Mo_leads_85 : decode m_Mo_leads.2.2.1 85 = .ok (.ireturn, 1) := by decide +kernel
theorem d_Mo_opens_0 : decode m_Mo_opens.2.2.1 0 = .ok (.iconst 1, 1) := by decide +kernel
theorem d_Mo_opens_1 : decode m_Mo_opens.2.2.1 1 = .ok (.istore_n 3, 1) := by decide +kernel
theorem d_Mo_opens_2 : decode m_Mo_opens.2.2.1 2 = .ok (.iconst 0, 1) := by decide +kernel
theorem d_Mo_opens_3 : decode m_Mo_opens.2.2.1 3 = .ok (.istore 4, 2) := by decide +kernel
theorem d_Mo_opens_5 : decode m_Mo_opens.2.2.1 5 = .ok (.iload 4, 2) := by decide +kernel
theorem d_Mo_opens_7 : decode m_Mo_opens.2.2.1 7 = .ok (.iconst 4, 1) := by decide +kernel
theorem d_Mo_opens_8 : decode m_Mo_opens.2.2.1 8 = .ok (.if_icmp .ge (77), 3) := by decide +kernel
theorem d_Mo_opens_11 : decode m_Mo_opens.2.2.1 11 = .ok (.iload_n 1, 1) := by decide +kernel
theorem d_Mo_opens_12 : decode m_Mo_opens.2.2.1 12 = .ok (.iload 4, 2) := by decide +kernel
theorem d_Mo_opens_14 : decode m_Mo_opens.2.2.1 14 = .ok (.invokestatic 182, 3) := by decide +kernel
theorem d_Mo_opens_17 : decode m_Mo_opens.2.2.1 17 = .ok (.istore 5, 2) := by decide +kernel
theorem d_Mo_opens_19 : decode m_Mo_opens.2.2.1 19 = .ok (.iload_n 3, 1) := by decide +kernel
theorem d_Mo_opens_20 : decode m_Mo_opens.2.2.1 20 = .ok (.ifCond .eq (57), 3) := by decide +kernel
theorem d_Mo_opens_23 : decode m_Mo_opens.2.2.1 23 = .ok (.aload_n 0, 1) := by decide +kernel
theorem d_Mo_opens_24 : decode m_Mo_opens.2.2.1 24 = .ok (.iconst 0, 1) := by decide +kernel
theorem d_Mo_opens_25 : decode m_Mo_opens.2.2.1 25 = .ok (.iload_n 2, 1) := by decide +kernel
theorem d_Mo_opens_26 : decode m_Mo_opens.2.2.1 26 = .ok (.iload 4, 2) := by decide +kernel
theorem d_Mo_opens_28 : decode m_Mo_opens.2.2.1 28 = .ok (.iconst 2, 1) := by decide +kernel
theorem d_Mo_opens_29 : decode m_Mo_opens.2.2.1 29 = .ok (.irem, 1) := by decide +kernel
theorem d_Mo_opens_30 : decode m_Mo_opens.2.2.1 30 = .ok (.iconst 4, 1) := by decide +kernel
theorem d_Mo_opens_31 : decode m_Mo_opens.2.2.1 31 = .ok (.imul, 1) := by decide +kernel
theorem d_Mo_opens_32 : decode m_Mo_opens.2.2.1 32 = .ok (.iadd, 1) := by decide +kernel
theorem d_Mo_opens_33 : decode m_Mo_opens.2.2.1 33 = .ok (.iload 4, 2) := by decide +kernel
theorem d_Mo_opens_35 : decode m_Mo_opens.2.2.1 35 = .ok (.iconst 2, 1) := by decide +kernel
theorem d_Mo_opens_36 : decode m_Mo_opens.2.2.1 36 = .ok (.idiv, 1) := by decide +kernel
theorem d_Mo_opens_37 : decode m_Mo_opens.2.2.1 37 = .ok (.bipush (16), 2) := by decide +kernel
theorem d_Mo_opens_39 : decode m_Mo_opens.2.2.1 39 = .ok (.imul, 1) := by decide +kernel
theorem d_Mo_opens_40 : decode m_Mo_opens.2.2.1 40 = .ok (.iadd, 1) := by decide +kernel
theorem d_Mo_opens_41 : decode m_Mo_opens.2.2.1 41 = .ok (.bipush (32), 2) := by decide +kernel
theorem d_Mo_opens_43 : decode m_Mo_opens.2.2.1 43 = .ok (.irem, 1) := by decide +kernel
theorem d_Mo_opens_44 : decode m_Mo_opens.2.2.1 44 = .ok (.aload_n 0, 1) := by decide +kernel
theorem d_Mo_opens_45 : decode m_Mo_opens.2.2.1 45 = .ok (.getfield 34, 3) := by decide +kernel
theorem d_Mo_opens_48 : decode m_Mo_opens.2.2.1 48 = .ok (.iload 5, 2) := by decide +kernel
theorem d_Mo_opens_50 : decode m_Mo_opens.2.2.1 50 = .ok (.iaload, 1) := by decide +kernel
theorem d_Mo_opens_51 : decode m_Mo_opens.2.2.1 51 = .ok (.aload_n 0, 1) := by decide +kernel
theorem d_Mo_opens_52 : decode m_Mo_opens.2.2.1 52 = .ok (.getfield 34, 3) := by decide +kernel
theorem d_Mo_opens_55 : decode m_Mo_opens.2.2.1 55 = .ok (.iload 5, 2) := by decide +kernel
theorem d_Mo_opens_57 : decode m_Mo_opens.2.2.1 57 = .ok (.iconst 1, 1) := by decide +kernel
theorem d_Mo_opens_58 : decode m_Mo_opens.2.2.1 58 = .ok (.iadd, 1) := by decide +kernel
theorem d_Mo_opens_59 : decode m_Mo_opens.2.2.1 59 = .ok (.iaload, 1) := by decide +kernel
theorem d_Mo_opens_60 : decode m_Mo_opens.2.2.1 60 = .ok (.invokestatic 123, 3) := by decide +kernel
theorem d_Mo_opens_63 : decode m_Mo_opens.2.2.1 63 = .ok (.iload 5, 2) := by decide +kernel
theorem d_Mo_opens_65 : decode m_Mo_opens.2.2.1 65 = .ok (.iconst 2, 1) := by decide +kernel
theorem d_Mo_opens_66 : decode m_Mo_opens.2.2.1 66 = .ok (.iadd, 1) := by decide +kernel
theorem d_Mo_opens_67 : decode m_Mo_opens.2.2.1 67 = .ok (.invokevirtual 185, 3) := by decide +kernel
theorem d_Mo_opens_70 : decode m_Mo_opens.2.2.1 70 = .ok (.ifCond .eq (7), 3) := by decide +kernel
theorem d_Mo_opens_73 : decode m_Mo_opens.2.2.1 73 = .ok (.iconst 1, 1) := by decide +kernel
theorem d_Mo_opens_74 : decode m_Mo_opens.2.2.1 74 = .ok (.goto (4), 3) := by decide +kernel
theorem d_Mo_opens_77 : decode m_Mo_opens.2.2.1 77 = .ok (.iconst 0, 1) := by decide +kernel
theorem d_Mo_opens_78 : decode m_Mo_opens.2.2.1 78 = .ok (.istore_n 3, 1) := by decide +kernel
theorem d_Mo_opens_79 : decode m_Mo_opens.2.2.1 79 = .ok (.iinc 4 (1), 3) := by decide +kernel
theorem d_Mo_opens_82 : decode m_Mo_opens.2.2.1 82 = .ok (.goto (-77), 3) := by decide +kernel
theorem d_Mo_opens_85 : decode m_Mo_opens.2.2.1 85 = .ok (.iload_n 3, 1) := by decide +kernel
theorem d_Mo_opens_86 : decode m_Mo_opens.2.2.1 86 = .ok (.ireturn, 1) := by decide +kernel
theorem d_Mo_opensLayer_0 : decode m_Mo_opensLayer.2.2.1 0 = .ok (.iconst 1, 1) := by decide +kernel
theorem d_Mo_opensLayer_1 : decode m_Mo_opensLayer.2.2.1 1 = .ok (.istore 4, 2) := by decide +kernel
theorem d_Mo_opensLayer_3 : decode m_Mo_opensLayer.2.2.1 3 = .ok (.bipush (16), 2) := by decide +kernel
theorem d_Mo_opensLayer_5 : decode m_Mo_opensLayer.2.2.1 5 = .ok (.iload_n 3, 1) := by decide +kernel
theorem d_Mo_opensLayer_6 : decode m_Mo_opensLayer.2.2.1 6 = .ok (.ishr, 1) := by decide +kernel
theorem d_Mo_opensLayer_7 : decode m_Mo_opensLayer.2.2.1 7 = .ok (.istore 5, 2) := by decide +kernel
theorem d_Mo_opensLayer_9 : decode m_Mo_opensLayer.2.2.1 9 = .ok (.iconst 0, 1) := by decide +kernel
theorem d_Mo_opensLayer_10 : decode m_Mo_opensLayer.2.2.1 10 = .ok (.istore 6, 2) := by decide +kernel
theorem d_Mo_opensLayer_12 : decode m_Mo_opensLayer.2.2.1 12 = .ok (.iload 6, 2) := by decide +kernel
theorem d_Mo_opensLayer_14 : decode m_Mo_opensLayer.2.2.1 14 = .ok (.iconst 2, 1) := by decide +kernel
theorem d_Mo_opensLayer_15 : decode m_Mo_opensLayer.2.2.1 15 = .ok (.if_icmp .ge (72), 3) := by decide +kernel
theorem d_Mo_opensLayer_18 : decode m_Mo_opensLayer.2.2.1 18 = .ok (.iload_n 1, 1) := by decide +kernel
theorem d_Mo_opensLayer_19 : decode m_Mo_opensLayer.2.2.1 19 = .ok (.iconst 4, 1) := by decide +kernel
theorem d_Mo_opensLayer_20 : decode m_Mo_opensLayer.2.2.1 20 = .ok (.iconst 2, 1) := by decide +kernel
theorem d_Mo_opensLayer_21 : decode m_Mo_opensLayer.2.2.1 21 = .ok (.iload_n 3, 1) := by decide +kernel
theorem d_Mo_opensLayer_22 : decode m_Mo_opensLayer.2.2.1 22 = .ok (.imul, 1) := by decide +kernel
theorem d_Mo_opensLayer_23 : decode m_Mo_opensLayer.2.2.1 23 = .ok (.iadd, 1) := by decide +kernel
theorem d_Mo_opensLayer_24 : decode m_Mo_opensLayer.2.2.1 24 = .ok (.iload 6, 2) := by decide +kernel
theorem d_Mo_opensLayer_26 : decode m_Mo_opensLayer.2.2.1 26 = .ok (.iadd, 1) := by decide +kernel
theorem d_Mo_opensLayer_27 : decode m_Mo_opensLayer.2.2.1 27 = .ok (.invokestatic 182, 3) := by decide +kernel
theorem d_Mo_opensLayer_30 : decode m_Mo_opensLayer.2.2.1 30 = .ok (.istore 7, 2) := by decide +kernel
theorem d_Mo_opensLayer_32 : decode m_Mo_opensLayer.2.2.1 32 = .ok (.iload 4, 2) := by decide +kernel
theorem d_Mo_opensLayer_34 : decode m_Mo_opensLayer.2.2.1 34 = .ok (.ifCond .eq (44), 3) := by decide +kernel
theorem d_Mo_opensLayer_37 : decode m_Mo_opensLayer.2.2.1 37 = .ok (.aload_n 0, 1) := by decide +kernel
theorem d_Mo_opensLayer_38 : decode m_Mo_opensLayer.2.2.1 38 = .ok (.iload_n 3, 1) := by decide +kernel
theorem d_Mo_opensLayer_39 : decode m_Mo_opensLayer.2.2.1 39 = .ok (.iconst 1, 1) := by decide +kernel
theorem d_Mo_opensLayer_40 : decode m_Mo_opensLayer.2.2.1 40 = .ok (.iadd, 1) := by decide +kernel
theorem d_Mo_opensLayer_41 : decode m_Mo_opensLayer.2.2.1 41 = .ok (.iload_n 2, 1) := by decide +kernel
theorem d_Mo_opensLayer_42 : decode m_Mo_opensLayer.2.2.1 42 = .ok (.iload 5, 2) := by decide +kernel
theorem d_Mo_opensLayer_44 : decode m_Mo_opensLayer.2.2.1 44 = .ok (.irem, 1) := by decide +kernel
theorem d_Mo_opensLayer_45 : decode m_Mo_opensLayer.2.2.1 45 = .ok (.iload 6, 2) := by decide +kernel
theorem d_Mo_opensLayer_47 : decode m_Mo_opensLayer.2.2.1 47 = .ok (.iload 5, 2) := by decide +kernel
theorem d_Mo_opensLayer_49 : decode m_Mo_opensLayer.2.2.1 49 = .ok (.imul, 1) := by decide +kernel
theorem d_Mo_opensLayer_50 : decode m_Mo_opensLayer.2.2.1 50 = .ok (.iadd, 1) := by decide +kernel
theorem d_Mo_opensLayer_51 : decode m_Mo_opensLayer.2.2.1 51 = .ok (.aload_n 0, 1) := by decide +kernel
theorem d_Mo_opensLayer_52 : decode m_Mo_opensLayer.2.2.1 52 = .ok (.getfield 34, 3) := by decide +kernel
theorem d_Mo_opensLayer_55 : decode m_Mo_opensLayer.2.2.1 55 = .ok (.iload 7, 2) := by decide +kernel
theorem d_Mo_opensLayer_57 : decode m_Mo_opensLayer.2.2.1 57 = .ok (.iaload, 1) := by decide +kernel
theorem d_Mo_opensLayer_58 : decode m_Mo_opensLayer.2.2.1 58 = .ok (.sipush (12289), 3) := by decide +kernel
theorem d_Mo_opensLayer_61 : decode m_Mo_opensLayer.2.2.1 61 = .ok (.invokestatic 123, 3) := by decide +kernel
theorem d_Mo_opensLayer_64 : decode m_Mo_opensLayer.2.2.1 64 = .ok (.iload 7, 2) := by decide +kernel
theorem d_Mo_opensLayer_66 : decode m_Mo_opensLayer.2.2.1 66 = .ok (.iconst 1, 1) := by decide +kernel
theorem d_Mo_opensLayer_67 : decode m_Mo_opensLayer.2.2.1 67 = .ok (.iadd, 1) := by decide +kernel
theorem d_Mo_opensLayer_68 : decode m_Mo_opensLayer.2.2.1 68 = .ok (.invokevirtual 185, 3) := by decide +kernel
theorem d_Mo_opensLayer_71 : decode m_Mo_opensLayer.2.2.1 71 = .ok (.ifCond .eq (7), 3) := by decide +kernel
theorem d_Mo_opensLayer_74 : decode m_Mo_opensLayer.2.2.1 74 = .ok (.iconst 1, 1) := by decide +kernel
theorem d_Mo_opensLayer_75 : decode m_Mo_opensLayer.2.2.1 75 = .ok (.goto (4), 3) := by decide +kernel
theorem d_Mo_opensLayer_78 : decode m_Mo_opensLayer.2.2.1 78 = .ok (.iconst 0, 1) := by decide +kernel
theorem d_Mo_opensLayer_79 : decode m_Mo_opensLayer.2.2.1 79 = .ok (.istore 4, 2) := by decide +kernel
theorem d_Mo_opensLayer_81 : decode m_Mo_opensLayer.2.2.1 81 = .ok (.iinc 6 (1), 3) := by decide +kernel
theorem d_Mo_opensLayer_84 : decode m_Mo_opensLayer.2.2.1 84 = .ok (.goto (-72), 3) := by decide +kernel
theorem d_Mo_opensLayer_87 : decode m_Mo_opensLayer.2.2.1 87 = .ok (.iload 4, 2) := by decide +kernel
theorem d_Mo_opensLayer_89 : decode m_Mo_opensLayer.2.2.1 89 = .ok (.ireturn, 1) := by decide +kernel
theorem d_Mo_composes_0 : decode m_Mo_composes.2.2.1 0 = .ok (.iconst 1, 1) := by decide +kernel
theorem d_Mo_composes_1 : decode m_Mo_composes.2.2.1 1 = .ok (.istore_n 3, 1) := by decide +kernel
theorem d_Mo_composes_2 : decode m_Mo_composes.2.2.1 2 = .ok (.iconst 0, 1) := by decide +kernel
theorem d_Mo_composes_3 : decode m_Mo_composes.2.2.1 3 = .ok (.istore 4, 2) := by decide +kernel
theorem d_Mo_composes_5 : decode m_Mo_composes.2.2.1 5 = .ok (.iload 4, 2) := by decide +kernel
theorem d_Mo_composes_7 : decode m_Mo_composes.2.2.1 7 = .ok (.iconst 2, 1) := by decide +kernel
theorem d_Mo_composes_8 : decode m_Mo_composes.2.2.1 8 = .ok (.if_icmp .ge (107), 3) := by decide +kernel
theorem d_Mo_composes_11 : decode m_Mo_composes.2.2.1 11 = .ok (.iload_n 1, 1) := by decide +kernel
theorem d_Mo_composes_12 : decode m_Mo_composes.2.2.1 12 = .ok (.iconst 2, 1) := by decide +kernel
theorem d_Mo_composes_13 : decode m_Mo_composes.2.2.1 13 = .ok (.iload 4, 2) := by decide +kernel
theorem d_Mo_composes_15 : decode m_Mo_composes.2.2.1 15 = .ok (.imul, 1) := by decide +kernel
theorem d_Mo_composes_16 : decode m_Mo_composes.2.2.1 16 = .ok (.invokestatic 182, 3) := by decide +kernel
theorem d_Mo_composes_19 : decode m_Mo_composes.2.2.1 19 = .ok (.istore 5, 2) := by decide +kernel
theorem d_Mo_composes_21 : decode m_Mo_composes.2.2.1 21 = .ok (.iload_n 1, 1) := by decide +kernel
theorem d_Mo_composes_22 : decode m_Mo_composes.2.2.1 22 = .ok (.iconst 2, 1) := by decide +kernel
theorem d_Mo_composes_23 : decode m_Mo_composes.2.2.1 23 = .ok (.iload 4, 2) := by decide +kernel
theorem d_Mo_composes_25 : decode m_Mo_composes.2.2.1 25 = .ok (.imul, 1) := by decide +kernel
theorem d_Mo_composes_26 : decode m_Mo_composes.2.2.1 26 = .ok (.iconst 1, 1) := by decide +kernel
theorem d_Mo_composes_27 : decode m_Mo_composes.2.2.1 27 = .ok (.iadd, 1) := by decide +kernel
theorem d_Mo_composes_28 : decode m_Mo_composes.2.2.1 28 = .ok (.invokestatic 182, 3) := by decide +kernel
theorem d_Mo_composes_31 : decode m_Mo_composes.2.2.1 31 = .ok (.istore 6, 2) := by decide +kernel
theorem d_Mo_composes_33 : decode m_Mo_composes.2.2.1 33 = .ok (.aload_n 0, 1) := by decide +kernel
theorem d_Mo_composes_34 : decode m_Mo_composes.2.2.1 34 = .ok (.aload_n 0, 1) := by decide +kernel
theorem d_Mo_composes_35 : decode m_Mo_composes.2.2.1 35 = .ok (.getfield 34, 3) := by decide +kernel
theorem d_Mo_composes_38 : decode m_Mo_composes.2.2.1 38 = .ok (.iload 5, 2) := by decide +kernel
theorem d_Mo_composes_40 : decode m_Mo_composes.2.2.1 40 = .ok (.iaload, 1) := by decide +kernel
theorem d_Mo_composes_41 : decode m_Mo_composes.2.2.1 41 = .ok (.aload_n 0, 1) := by decide +kernel
theorem d_Mo_composes_42 : decode m_Mo_composes.2.2.1 42 = .ok (.getfield 34, 3) := by decide +kernel
theorem d_Mo_composes_45 : decode m_Mo_composes.2.2.1 45 = .ok (.iload 5, 2) := by decide +kernel
theorem d_Mo_composes_47 : decode m_Mo_composes.2.2.1 47 = .ok (.iconst 1, 1) := by decide +kernel
theorem d_Mo_composes_48 : decode m_Mo_composes.2.2.1 48 = .ok (.iadd, 1) := by decide +kernel
theorem d_Mo_composes_49 : decode m_Mo_composes.2.2.1 49 = .ok (.iaload, 1) := by decide +kernel
theorem d_Mo_composes_50 : decode m_Mo_composes.2.2.1 50 = .ok (.aload_n 0, 1) := by decide +kernel
theorem d_Mo_composes_51 : decode m_Mo_composes.2.2.1 51 = .ok (.getfield 34, 3) := by decide +kernel
theorem d_Mo_composes_54 : decode m_Mo_composes.2.2.1 54 = .ok (.iload 6, 2) := by decide +kernel
theorem d_Mo_composes_56 : decode m_Mo_composes.2.2.1 56 = .ok (.iaload, 1) := by decide +kernel
theorem d_Mo_composes_57 : decode m_Mo_composes.2.2.1 57 = .ok (.aload_n 0, 1) := by decide +kernel
theorem d_Mo_composes_58 : decode m_Mo_composes.2.2.1 58 = .ok (.getfield 34, 3) := by decide +kernel
theorem d_Mo_composes_61 : decode m_Mo_composes.2.2.1 61 = .ok (.iload 6, 2) := by decide +kernel
theorem d_Mo_composes_63 : decode m_Mo_composes.2.2.1 63 = .ok (.iconst 1, 1) := by decide +kernel
theorem d_Mo_composes_64 : decode m_Mo_composes.2.2.1 64 = .ok (.iadd, 1) := by decide +kernel
theorem d_Mo_composes_65 : decode m_Mo_composes.2.2.1 65 = .ok (.iaload, 1) := by decide +kernel
theorem d_Mo_composes_66 : decode m_Mo_composes.2.2.1 66 = .ok (.invokevirtual 103, 3) := by decide +kernel
theorem d_Mo_composes_69 : decode m_Mo_composes.2.2.1 69 = .ok (.iload_n 3, 1) := by decide +kernel
theorem d_Mo_composes_70 : decode m_Mo_composes.2.2.1 70 = .ok (.ifCond .eq (37), 3) := by decide +kernel
theorem d_Mo_composes_73 : decode m_Mo_composes.2.2.1 73 = .ok (.aload_n 0, 1) := by decide +kernel
theorem d_Mo_composes_74 : decode m_Mo_composes.2.2.1 74 = .ok (.getfield 34, 3) := by decide +kernel
theorem d_Mo_composes_77 : decode m_Mo_composes.2.2.1 77 = .ok (.iload_n 1, 1) := by decide +kernel
theorem d_Mo_composes_78 : decode m_Mo_composes.2.2.1 78 = .ok (.iconst 4, 1) := by decide +kernel
theorem d_Mo_composes_79 : decode m_Mo_composes.2.2.1 79 = .ok (.iload 4, 2) := by decide +kernel
theorem d_Mo_composes_81 : decode m_Mo_composes.2.2.1 81 = .ok (.iadd, 1) := by decide +kernel
theorem d_Mo_composes_82 : decode m_Mo_composes.2.2.1 82 = .ok (.invokestatic 182, 3) := by decide +kernel
theorem d_Mo_composes_85 : decode m_Mo_composes.2.2.1 85 = .ok (.iaload, 1) := by decide +kernel
theorem d_Mo_composes_86 : decode m_Mo_composes.2.2.1 86 = .ok (.aload_n 0, 1) := by decide +kernel
theorem d_Mo_composes_87 : decode m_Mo_composes.2.2.1 87 = .ok (.iload_n 2, 1) := by decide +kernel
theorem d_Mo_composes_88 : decode m_Mo_composes.2.2.1 88 = .ok (.bipush (16), 2) := by decide +kernel
theorem d_Mo_composes_90 : decode m_Mo_composes.2.2.1 90 = .ok (.iload 4, 2) := by decide +kernel
theorem d_Mo_composes_92 : decode m_Mo_composes.2.2.1 92 = .ok (.imul, 1) := by decide +kernel
theorem d_Mo_composes_93 : decode m_Mo_composes.2.2.1 93 = .ok (.iadd, 1) := by decide +kernel
theorem d_Mo_composes_94 : decode m_Mo_composes.2.2.1 94 = .ok (.bipush (32), 2) := by decide +kernel
theorem d_Mo_composes_96 : decode m_Mo_composes.2.2.1 96 = .ok (.irem, 1) := by decide +kernel
theorem d_Mo_composes_97 : decode m_Mo_composes.2.2.1 97 = .ok (.invokevirtual 166, 3) := by decide +kernel
theorem d_Mo_composes_100 : decode m_Mo_composes.2.2.1 100 = .ok (.if_icmp .ne (7), 3) := by decide +kernel
theorem d_Mo_composes_103 : decode m_Mo_composes.2.2.1 103 = .ok (.iconst 1, 1) := by decide +kernel
theorem d_Mo_composes_104 : decode m_Mo_composes.2.2.1 104 = .ok (.goto (4), 3) := by decide +kernel
theorem d_Mo_composes_107 : decode m_Mo_composes.2.2.1 107 = .ok (.iconst 0, 1) := by decide +kernel
theorem d_Mo_composes_108 : decode m_Mo_composes.2.2.1 108 = .ok (.istore_n 3, 1) := by decide +kernel
theorem d_Mo_composes_109 : decode m_Mo_composes.2.2.1 109 = .ok (.iinc 4 (1), 3) := by decide +kernel
theorem d_Mo_composes_112 : decode m_Mo_composes.2.2.1 112 = .ok (.goto (-107), 3) := by decide +kernel
theorem d_Mo_composes_115 : decode m_Mo_composes.2.2.1 115 = .ok (.iload_n 3, 1) := by decide +kernel
theorem d_Mo_composes_116 : decode m_Mo_composes.2.2.1 116 = .ok (.ireturn, 1) := by decide +kernel
theorem d_Mo_folds_0 : decode m_Mo_folds.2.2.1 0 = .ok (.bipush (16), 2) := by decide +kernel
theorem d_Mo_folds_2 : decode m_Mo_folds.2.2.1 2 = .ok (.iload_n 3, 1) := by decide +kernel
theorem d_Mo_folds_3 : decode m_Mo_folds.2.2.1 3 = .ok (.ishr, 1) := by decide +kernel
theorem d_Mo_folds_4 : decode m_Mo_folds.2.2.1 4 = .ok (.istore 4, 2) := by decide +kernel
theorem d_Mo_folds_6 : decode m_Mo_folds.2.2.1 6 = .ok (.iload_n 2, 1) := by decide +kernel
theorem d_Mo_folds_7 : decode m_Mo_folds.2.2.1 7 = .ok (.iload 4, 2) := by decide +kernel
theorem d_Mo_folds_9 : decode m_Mo_folds.2.2.1 9 = .ok (.irem, 1) := by decide +kernel
theorem d_Mo_folds_10 : decode m_Mo_folds.2.2.1 10 = .ok (.istore 5, 2) := by decide +kernel
theorem d_Mo_folds_12 : decode m_Mo_folds.2.2.1 12 = .ok (.aload_n 0, 1) := by decide +kernel
theorem d_Mo_folds_13 : decode m_Mo_folds.2.2.1 13 = .ok (.iload_n 3, 1) := by decide +kernel
theorem d_Mo_folds_14 : decode m_Mo_folds.2.2.1 14 = .ok (.iload 5, 2) := by decide +kernel
theorem d_Mo_folds_16 : decode m_Mo_folds.2.2.1 16 = .ok (.aload_n 0, 1) := by decide +kernel
theorem d_Mo_folds_17 : decode m_Mo_folds.2.2.1 17 = .ok (.getfield 34, 3) := by decide +kernel
theorem d_Mo_folds_20 : decode m_Mo_folds.2.2.1 20 = .ok (.iload_n 1, 1) := by decide +kernel
theorem d_Mo_folds_21 : decode m_Mo_folds.2.2.1 21 = .ok (.iconst 4, 1) := by decide +kernel
theorem d_Mo_folds_22 : decode m_Mo_folds.2.2.1 22 = .ok (.iconst 2, 1) := by decide +kernel
theorem d_Mo_folds_23 : decode m_Mo_folds.2.2.1 23 = .ok (.iload_n 3, 1) := by decide +kernel
theorem d_Mo_folds_24 : decode m_Mo_folds.2.2.1 24 = .ok (.imul, 1) := by decide +kernel
theorem d_Mo_folds_25 : decode m_Mo_folds.2.2.1 25 = .ok (.iadd, 1) := by decide +kernel
theorem d_Mo_folds_26 : decode m_Mo_folds.2.2.1 26 = .ok (.invokestatic 182, 3) := by decide +kernel
theorem d_Mo_folds_29 : decode m_Mo_folds.2.2.1 29 = .ok (.iaload, 1) := by decide +kernel
theorem d_Mo_folds_30 : decode m_Mo_folds.2.2.1 30 = .ok (.aload_n 0, 1) := by decide +kernel
theorem d_Mo_folds_31 : decode m_Mo_folds.2.2.1 31 = .ok (.getfield 34, 3) := by decide +kernel
theorem d_Mo_folds_34 : decode m_Mo_folds.2.2.1 34 = .ok (.iload_n 1, 1) := by decide +kernel
theorem d_Mo_folds_35 : decode m_Mo_folds.2.2.1 35 = .ok (.iconst 5, 1) := by decide +kernel
theorem d_Mo_folds_36 : decode m_Mo_folds.2.2.1 36 = .ok (.iconst 2, 1) := by decide +kernel
theorem d_Mo_folds_37 : decode m_Mo_folds.2.2.1 37 = .ok (.iload_n 3, 1) := by decide +kernel
theorem d_Mo_folds_38 : decode m_Mo_folds.2.2.1 38 = .ok (.imul, 1) := by decide +kernel
theorem d_Mo_folds_39 : decode m_Mo_folds.2.2.1 39 = .ok (.iadd, 1) := by decide +kernel
theorem d_Mo_folds_40 : decode m_Mo_folds.2.2.1 40 = .ok (.invokestatic 182, 3) := by decide +kernel
theorem d_Mo_folds_43 : decode m_Mo_folds.2.2.1 43 = .ok (.iaload, 1) := by decide +kernel
theorem d_Mo_folds_44 : decode m_Mo_folds.2.2.1 44 = .ok (.invokevirtual 150, 3) := by decide +kernel
theorem d_Mo_folds_47 : decode m_Mo_folds.2.2.1 47 = .ok (.istore 6, 2) := by decide +kernel
theorem d_Mo_folds_49 : decode m_Mo_folds.2.2.1 49 = .ok (.iload_n 3, 1) := by decide +kernel
theorem d_Mo_folds_50 : decode m_Mo_folds.2.2.1 50 = .ok (.iconst 2, 1) := by decide +kernel
theorem d_Mo_folds_51 : decode m_Mo_folds.2.2.1 51 = .ok (.if_icmp .ne (20), 3) := by decide +kernel
theorem d_Mo_folds_54 : decode m_Mo_folds.2.2.1 54 = .ok (.iload 6, 2) := by decide +kernel
theorem d_Mo_folds_56 : decode m_Mo_folds.2.2.1 56 = .ok (.aload_n 0, 1) := by decide +kernel
theorem d_Mo_folds_57 : decode m_Mo_folds.2.2.1 57 = .ok (.getfield 34, 3) := by decide +kernel
theorem d_Mo_folds_60 : decode m_Mo_folds.2.2.1 60 = .ok (.iconst 4, 1) := by decide +kernel
theorem d_Mo_folds_61 : decode m_Mo_folds.2.2.1 61 = .ok (.iaload, 1) := by decide +kernel
theorem d_Mo_folds_62 : decode m_Mo_folds.2.2.1 62 = .ok (.if_icmp .ne (7), 3) := by decide +kernel
theorem d_Mo_folds_65 : decode m_Mo_folds.2.2.1 65 = .ok (.iconst 1, 1) := by decide +kernel
theorem d_Mo_folds_66 : decode m_Mo_folds.2.2.1 66 = .ok (.goto (4), 3) := by decide +kernel
theorem d_Mo_folds_69 : decode m_Mo_folds.2.2.1 69 = .ok (.iconst 0, 1) := by decide +kernel
theorem d_Mo_folds_70 : decode m_Mo_folds.2.2.1 70 = .ok (.ireturn, 1) := by decide +kernel
theorem d_Mo_folds_71 : decode m_Mo_folds.2.2.1 71 = .ok (.iload 6, 2) := by decide +kernel
theorem d_Mo_folds_73 : decode m_Mo_folds.2.2.1 73 = .ok (.aload_n 0, 1) := by decide +kernel
theorem d_Mo_folds_74 : decode m_Mo_folds.2.2.1 74 = .ok (.getfield 34, 3) := by decide +kernel
theorem d_Mo_folds_77 : decode m_Mo_folds.2.2.1 77 = .ok (.iload_n 1, 1) := by decide +kernel
theorem d_Mo_folds_78 : decode m_Mo_folds.2.2.1 78 = .ok (.bipush (6), 2) := by decide +kernel
theorem d_Mo_folds_80 : decode m_Mo_folds.2.2.1 80 = .ok (.iconst 2, 1) := by decide +kernel
theorem d_Mo_folds_81 : decode m_Mo_folds.2.2.1 81 = .ok (.iload_n 3, 1) := by decide +kernel
theorem d_Mo_folds_82 : decode m_Mo_folds.2.2.1 82 = .ok (.imul, 1) := by decide +kernel
theorem d_Mo_folds_83 : decode m_Mo_folds.2.2.1 83 = .ok (.iadd, 1) := by decide +kernel
theorem d_Mo_folds_84 : decode m_Mo_folds.2.2.1 84 = .ok (.iload 5, 2) := by decide +kernel
theorem d_Mo_folds_86 : decode m_Mo_folds.2.2.1 86 = .ok (.iload 4, 2) := by decide +kernel
theorem d_Mo_folds_88 : decode m_Mo_folds.2.2.1 88 = .ok (.iconst 2, 1) := by decide +kernel
theorem d_Mo_folds_89 : decode m_Mo_folds.2.2.1 89 = .ok (.idiv, 1) := by decide +kernel
theorem d_Mo_folds_90 : decode m_Mo_folds.2.2.1 90 = .ok (.if_icmp .lt (7), 3) := by decide +kernel
theorem d_Mo_folds_93 : decode m_Mo_folds.2.2.1 93 = .ok (.iconst 1, 1) := by decide +kernel
theorem d_Mo_folds_94 : decode m_Mo_folds.2.2.1 94 = .ok (.goto (4), 3) := by decide +kernel
theorem d_Mo_folds_97 : decode m_Mo_folds.2.2.1 97 = .ok (.iconst 0, 1) := by decide +kernel
theorem d_Mo_folds_98 : decode m_Mo_folds.2.2.1 98 = .ok (.iadd, 1) := by decide +kernel
theorem d_Mo_folds_99 : decode m_Mo_folds.2.2.1 99 = .ok (.invokestatic 182, 3) := by decide +kernel
theorem d_Mo_folds_102 : decode m_Mo_folds.2.2.1 102 = .ok (.iaload, 1) := by decide +kernel
theorem d_Mo_folds_103 : decode m_Mo_folds.2.2.1 103 = .ok (.if_icmp .ne (7), 3) := by decide +kernel
theorem d_Mo_folds_106 : decode m_Mo_folds.2.2.1 106 = .ok (.iconst 1, 1) := by decide +kernel
theorem d_Mo_folds_107 : decode m_Mo_folds.2.2.1 107 = .ok (.goto (4), 3) := by decide +kernel
theorem d_Mo_folds_110 : decode m_Mo_folds.2.2.1 110 = .ok (.iconst 0, 1) := by decide +kernel
theorem d_Mo_folds_111 : decode m_Mo_folds.2.2.1 111 = .ok (.ireturn, 1) := by decide +kernel
theorem d_Mo_code_0 : decode m_Mo_code.2.2.1 0 = .ok (.aload_n 0, 1) := by decide +kernel
theorem d_Mo_code_1 : decode m_Mo_code.2.2.1 1 = .ok (.getfield 40, 3) := by decide +kernel
theorem d_Mo_code_4 : decode m_Mo_code.2.2.1 4 = .ok (.iload_n 1, 1) := by decide +kernel
theorem d_Mo_code_5 : decode m_Mo_code.2.2.1 5 = .ok (.iaload, 1) := by decide +kernel
theorem d_Mo_code_6 : decode m_Mo_code.2.2.1 6 = .ok (.istore_n 2, 1) := by decide +kernel
theorem d_Mo_code_7 : decode m_Mo_code.2.2.1 7 = .ok (.aload_n 0, 1) := by decide +kernel
theorem d_Mo_code_8 : decode m_Mo_code.2.2.1 8 = .ok (.iload_n 1, 1) := by decide +kernel
theorem d_Mo_code_9 : decode m_Mo_code.2.2.1 9 = .ok (.iload_n 2, 1) := by decide +kernel
theorem d_Mo_code_10 : decode m_Mo_code.2.2.1 10 = .ok (.invokevirtual 189, 3) := by decide +kernel
theorem d_Mo_code_13 : decode m_Mo_code.2.2.1 13 = .ok (.ifCond .ne (5), 3) := by decide +kernel
theorem d_Mo_code_16 : decode m_Mo_code.2.2.1 16 = .ok (.iconst 2, 1) := by decide +kernel
theorem d_Mo_code_17 : decode m_Mo_code.2.2.1 17 = .ok (.ireturn, 1) := by decide +kernel
theorem d_Mo_code_18 : decode m_Mo_code.2.2.1 18 = .ok (.aload_n 0, 1) := by decide +kernel
theorem d_Mo_code_19 : decode m_Mo_code.2.2.1 19 = .ok (.iload_n 1, 1) := by decide +kernel
theorem d_Mo_code_20 : decode m_Mo_code.2.2.1 20 = .ok (.iload_n 2, 1) := by decide +kernel
theorem d_Mo_code_21 : decode m_Mo_code.2.2.1 21 = .ok (.iconst 0, 1) := by decide +kernel
theorem d_Mo_code_22 : decode m_Mo_code.2.2.1 22 = .ok (.invokevirtual 193, 3) := by decide +kernel
theorem d_Mo_code_25 : decode m_Mo_code.2.2.1 25 = .ok (.ifCond .ne (5), 3) := by decide +kernel
theorem d_Mo_code_28 : decode m_Mo_code.2.2.1 28 = .ok (.iconst 3, 1) := by decide +kernel
theorem d_Mo_code_29 : decode m_Mo_code.2.2.1 29 = .ok (.ireturn, 1) := by decide +kernel
theorem d_Mo_code_30 : decode m_Mo_code.2.2.1 30 = .ok (.aload_n 0, 1) := by decide +kernel
theorem d_Mo_code_31 : decode m_Mo_code.2.2.1 31 = .ok (.iload_n 1, 1) := by decide +kernel
theorem d_Mo_code_32 : decode m_Mo_code.2.2.1 32 = .ok (.iload_n 2, 1) := by decide +kernel
theorem d_Mo_code_33 : decode m_Mo_code.2.2.1 33 = .ok (.invokevirtual 197, 3) := by decide +kernel
theorem d_Mo_code_36 : decode m_Mo_code.2.2.1 36 = .ok (.ifCond .ne (5), 3) := by decide +kernel
theorem d_Mo_code_39 : decode m_Mo_code.2.2.1 39 = .ok (.iconst 4, 1) := by decide +kernel
theorem d_Mo_code_40 : decode m_Mo_code.2.2.1 40 = .ok (.ireturn, 1) := by decide +kernel
theorem d_Mo_code_41 : decode m_Mo_code.2.2.1 41 = .ok (.aload_n 0, 1) := by decide +kernel
theorem d_Mo_code_42 : decode m_Mo_code.2.2.1 42 = .ok (.iload_n 1, 1) := by decide +kernel
theorem d_Mo_code_43 : decode m_Mo_code.2.2.1 43 = .ok (.iload_n 2, 1) := by decide +kernel
theorem d_Mo_code_44 : decode m_Mo_code.2.2.1 44 = .ok (.iconst 1, 1) := by decide +kernel
theorem d_Mo_code_45 : decode m_Mo_code.2.2.1 45 = .ok (.invokevirtual 193, 3) := by decide +kernel
theorem d_Mo_code_48 : decode m_Mo_code.2.2.1 48 = .ok (.ifCond .ne (5), 3) := by decide +kernel
theorem d_Mo_code_51 : decode m_Mo_code.2.2.1 51 = .ok (.iconst 5, 1) := by decide +kernel
theorem d_Mo_code_52 : decode m_Mo_code.2.2.1 52 = .ok (.ireturn, 1) := by decide +kernel
theorem d_Mo_code_53 : decode m_Mo_code.2.2.1 53 = .ok (.aload_n 0, 1) := by decide +kernel
theorem d_Mo_code_54 : decode m_Mo_code.2.2.1 54 = .ok (.iload_n 1, 1) := by decide +kernel
theorem d_Mo_code_55 : decode m_Mo_code.2.2.1 55 = .ok (.iload_n 2, 1) := by decide +kernel
theorem d_Mo_code_56 : decode m_Mo_code.2.2.1 56 = .ok (.iconst 0, 1) := by decide +kernel
theorem d_Mo_code_57 : decode m_Mo_code.2.2.1 57 = .ok (.invokevirtual 200, 3) := by decide +kernel
theorem d_Mo_code_60 : decode m_Mo_code.2.2.1 60 = .ok (.ifCond .ne (6), 3) := by decide +kernel
theorem d_Mo_code_63 : decode m_Mo_code.2.2.1 63 = .ok (.bipush (6), 2) := by decide +kernel
theorem d_Mo_code_65 : decode m_Mo_code.2.2.1 65 = .ok (.ireturn, 1) := by decide +kernel
theorem d_Mo_code_66 : decode m_Mo_code.2.2.1 66 = .ok (.aload_n 0, 1) := by decide +kernel
theorem d_Mo_code_67 : decode m_Mo_code.2.2.1 67 = .ok (.iload_n 1, 1) := by decide +kernel
theorem d_Mo_code_68 : decode m_Mo_code.2.2.1 68 = .ok (.iload_n 2, 1) := by decide +kernel
theorem d_Mo_code_69 : decode m_Mo_code.2.2.1 69 = .ok (.iconst 2, 1) := by decide +kernel
theorem d_Mo_code_70 : decode m_Mo_code.2.2.1 70 = .ok (.invokevirtual 193, 3) := by decide +kernel
theorem d_Mo_code_73 : decode m_Mo_code.2.2.1 73 = .ok (.ifCond .ne (6), 3) := by decide +kernel
theorem d_Mo_code_76 : decode m_Mo_code.2.2.1 76 = .ok (.bipush (7), 2) := by decide +kernel
theorem d_Mo_code_78 : decode m_Mo_code.2.2.1 78 = .ok (.ireturn, 1) := by decide +kernel
theorem d_Mo_code_79 : decode m_Mo_code.2.2.1 79 = .ok (.aload_n 0, 1) := by decide +kernel
theorem d_Mo_code_80 : decode m_Mo_code.2.2.1 80 = .ok (.iload_n 1, 1) := by decide +kernel
theorem d_Mo_code_81 : decode m_Mo_code.2.2.1 81 = .ok (.iload_n 2, 1) := by decide +kernel
theorem d_Mo_code_82 : decode m_Mo_code.2.2.1 82 = .ok (.iconst 1, 1) := by decide +kernel
theorem d_Mo_code_83 : decode m_Mo_code.2.2.1 83 = .ok (.invokevirtual 200, 3) := by decide +kernel
theorem d_Mo_code_86 : decode m_Mo_code.2.2.1 86 = .ok (.ifCond .ne (6), 3) := by decide +kernel
theorem d_Mo_code_89 : decode m_Mo_code.2.2.1 89 = .ok (.bipush (8), 2) := by decide +kernel
theorem d_Mo_code_91 : decode m_Mo_code.2.2.1 91 = .ok (.ireturn, 1) := by decide +kernel
theorem d_Mo_code_92 : decode m_Mo_code.2.2.1 92 = .ok (.aload_n 0, 1) := by decide +kernel
theorem d_Mo_code_93 : decode m_Mo_code.2.2.1 93 = .ok (.iload_n 1, 1) := by decide +kernel
theorem d_Mo_code_94 : decode m_Mo_code.2.2.1 94 = .ok (.iload_n 2, 1) := by decide +kernel
theorem d_Mo_code_95 : decode m_Mo_code.2.2.1 95 = .ok (.iconst 2, 1) := by decide +kernel
theorem d_Mo_code_96 : decode m_Mo_code.2.2.1 96 = .ok (.invokevirtual 200, 3) := by decide +kernel
theorem d_Mo_code_99 : decode m_Mo_code.2.2.1 99 = .ok (.ifCond .eq (7), 3) := by decide +kernel
theorem d_Mo_code_102 : decode m_Mo_code.2.2.1 102 = .ok (.iconst 0, 1) := by decide +kernel
theorem d_Mo_code_103 : decode m_Mo_code.2.2.1 103 = .ok (.goto (5), 3) := by decide +kernel
theorem d_Mo_code_106 : decode m_Mo_code.2.2.1 106 = .ok (.bipush (9), 2) := by decide +kernel
theorem d_Mo_code_108 : decode m_Mo_code.2.2.1 108 = .ok (.ireturn, 1) := by decide +kernel
theorem d_Mo_verify_0 : decode m_Mo_verify.2.2.1 0 = .ok (.aload_n 0, 1) := by decide +kernel
theorem d_Mo_verify_1 : decode m_Mo_verify.2.2.1 1 = .ok (.iconst 0, 1) := by decide +kernel
theorem d_Mo_verify_2 : decode m_Mo_verify.2.2.1 2 = .ok (.putfield 203, 3) := by decide +kernel
theorem d_Mo_verify_5 : decode m_Mo_verify.2.2.1 5 = .ok (.aload_n 0, 1) := by decide +kernel
theorem d_Mo_verify_6 : decode m_Mo_verify.2.2.1 6 = .ok (.getfield 178, 3) := by decide +kernel
theorem d_Mo_verify_9 : decode m_Mo_verify.2.2.1 9 = .ok (.ifCond .ne (6), 3) := by decide +kernel
theorem d_Mo_verify_12 : decode m_Mo_verify.2.2.1 12 = .ok (.bipush (-2), 2) := by decide +kernel
theorem d_Mo_verify_14 : decode m_Mo_verify.2.2.1 14 = .ok (.ireturn, 1) := by decide +kernel
theorem d_Mo_verify_15 : decode m_Mo_verify.2.2.1 15 = .ok (.aload_n 0, 1) := by decide +kernel
theorem d_Mo_verify_16 : decode m_Mo_verify.2.2.1 16 = .ok (.invokevirtual 113, 3) := by decide +kernel
theorem d_Mo_verify_19 : decode m_Mo_verify.2.2.1 19 = .ok (.aload_n 0, 1) := by decide +kernel
theorem d_Mo_verify_20 : decode m_Mo_verify.2.2.1 20 = .ok (.getfield 84, 3) := by decide +kernel
theorem d_Mo_verify_23 : decode m_Mo_verify.2.2.1 23 = .ok (.iadd, 1) := by decide +kernel
theorem d_Mo_verify_24 : decode m_Mo_verify.2.2.1 24 = .ok (.ifCond .ne (5), 3) := by decide +kernel
theorem d_Mo_verify_27 : decode m_Mo_verify.2.2.1 27 = .ok (.iconst (-1), 1) := by decide +kernel
theorem d_Mo_verify_28 : decode m_Mo_verify.2.2.1 28 = .ok (.ireturn, 1) := by decide +kernel
theorem d_Mo_verify_29 : decode m_Mo_verify.2.2.1 29 = .ok (.aload_n 0, 1) := by decide +kernel
theorem d_Mo_verify_30 : decode m_Mo_verify.2.2.1 30 = .ok (.invokevirtual 206, 3) := by decide +kernel
theorem d_Mo_verify_33 : decode m_Mo_verify.2.2.1 33 = .ok (.ifCond .ne (5), 3) := by decide +kernel
theorem d_Mo_verify_36 : decode m_Mo_verify.2.2.1 36 = .ok (.iconst 1, 1) := by decide +kernel
theorem d_Mo_verify_37 : decode m_Mo_verify.2.2.1 37 = .ok (.ireturn, 1) := by decide +kernel
theorem d_Mo_verify_38 : decode m_Mo_verify.2.2.1 38 = .ok (.aload_n 0, 1) := by decide +kernel
theorem d_Mo_verify_39 : decode m_Mo_verify.2.2.1 39 = .ok (.invokevirtual 157, 3) := by decide +kernel
theorem d_Mo_verify_42 : decode m_Mo_verify.2.2.1 42 = .ok (.aload_n 0, 1) := by decide +kernel
theorem d_Mo_verify_43 : decode m_Mo_verify.2.2.1 43 = .ok (.aload_n 0, 1) := by decide +kernel
theorem d_Mo_verify_44 : decode m_Mo_verify.2.2.1 44 = .ok (.getfield 34, 3) := by decide +kernel
theorem d_Mo_verify_47 : decode m_Mo_verify.2.2.1 47 = .ok (.iconst 0, 1) := by decide +kernel
theorem d_Mo_verify_48 : decode m_Mo_verify.2.2.1 48 = .ok (.iaload, 1) := by decide +kernel
theorem d_Mo_verify_49 : decode m_Mo_verify.2.2.1 49 = .ok (.invokevirtual 126, 3) := by decide +kernel
theorem d_Mo_verify_52 : decode m_Mo_verify.2.2.1 52 = .ok (.aload_n 0, 1) := by decide +kernel
theorem d_Mo_verify_53 : decode m_Mo_verify.2.2.1 53 = .ok (.aload_n 0, 1) := by decide +kernel
theorem d_Mo_verify_54 : decode m_Mo_verify.2.2.1 54 = .ok (.invokevirtual 163, 3) := by decide +kernel
theorem d_Mo_verify_57 : decode m_Mo_verify.2.2.1 57 = .ok (.putfield 117, 3) := by decide +kernel
theorem d_Mo_verify_60 : decode m_Mo_verify.2.2.1 60 = .ok (.iconst 0, 1) := by decide +kernel
theorem d_Mo_verify_61 : decode m_Mo_verify.2.2.1 61 = .ok (.istore_n 1, 1) := by decide +kernel
theorem d_Mo_verify_62 : decode m_Mo_verify.2.2.1 62 = .ok (.iload_n 1, 1) := by decide +kernel
theorem d_Mo_verify_63 : decode m_Mo_verify.2.2.1 63 = .ok (.iconst 3, 1) := by decide +kernel
theorem d_Mo_verify_64 : decode m_Mo_verify.2.2.1 64 = .ok (.if_icmp .ge (31), 3) := by decide +kernel
theorem d_Mo_verify_67 : decode m_Mo_verify.2.2.1 67 = .ok (.aload_n 0, 1) := by decide +kernel
theorem d_Mo_verify_68 : decode m_Mo_verify.2.2.1 68 = .ok (.aload_n 0, 1) := by decide +kernel
theorem d_Mo_verify_69 : decode m_Mo_verify.2.2.1 69 = .ok (.getfield 34, 3) := by decide +kernel
theorem d_Mo_verify_72 : decode m_Mo_verify.2.2.1 72 = .ok (.iload_n 1, 1) := by decide +kernel
theorem d_Mo_verify_73 : decode m_Mo_verify.2.2.1 73 = .ok (.iconst 1, 1) := by decide +kernel
theorem d_Mo_verify_74 : decode m_Mo_verify.2.2.1 74 = .ok (.iadd, 1) := by decide +kernel
theorem d_Mo_verify_75 : decode m_Mo_verify.2.2.1 75 = .ok (.iaload, 1) := by decide +kernel
theorem d_Mo_verify_76 : decode m_Mo_verify.2.2.1 76 = .ok (.invokevirtual 126, 3) := by decide +kernel
theorem d_Mo_verify_79 : decode m_Mo_verify.2.2.1 79 = .ok (.aload_n 0, 1) := by decide +kernel
theorem d_Mo_verify_80 : decode m_Mo_verify.2.2.1 80 = .ok (.getfield 37, 3) := by decide +kernel
theorem d_Mo_verify_83 : decode m_Mo_verify.2.2.1 83 = .ok (.iload_n 1, 1) := by decide +kernel
theorem d_Mo_verify_84 : decode m_Mo_verify.2.2.1 84 = .ok (.aload_n 0, 1) := by decide +kernel
theorem d_Mo_verify_85 : decode m_Mo_verify.2.2.1 85 = .ok (.invokevirtual 163, 3) := by decide +kernel
theorem d_Mo_verify_88 : decode m_Mo_verify.2.2.1 88 = .ok (.iastore, 1) := by decide +kernel
theorem d_Mo_verify_89 : decode m_Mo_verify.2.2.1 89 = .ok (.iinc 1 (1), 3) := by decide +kernel
theorem d_Mo_verify_92 : decode m_Mo_verify.2.2.1 92 = .ok (.goto (-30), 3) := by decide +kernel
theorem d_Mo_verify_95 : decode m_Mo_verify.2.2.1 95 = .ok (.aload_n 0, 1) := by decide +kernel
theorem d_Mo_verify_96 : decode m_Mo_verify.2.2.1 96 = .ok (.aload_n 0, 1) := by decide +kernel
theorem d_Mo_verify_97 : decode m_Mo_verify.2.2.1 97 = .ok (.getfield 34, 3) := by decide +kernel
theorem d_Mo_verify_100 : decode m_Mo_verify.2.2.1 100 = .ok (.iconst 4, 1) := by decide +kernel
theorem d_Mo_verify_101 : decode m_Mo_verify.2.2.1 101 = .ok (.iaload, 1) := by decide +kernel
theorem d_Mo_verify_102 : decode m_Mo_verify.2.2.1 102 = .ok (.invokevirtual 172, 3) := by decide +kernel
theorem d_Mo_verify_105 : decode m_Mo_verify.2.2.1 105 = .ok (.aload_n 0, 1) := by decide +kernel
theorem d_Mo_verify_106 : decode m_Mo_verify.2.2.1 106 = .ok (.iconst 1, 1) := by decide +kernel
theorem d_Mo_verify_107 : decode m_Mo_verify.2.2.1 107 = .ok (.putfield 203, 3) := by decide +kernel
theorem d_Mo_verify_110 : decode m_Mo_verify.2.2.1 110 = .ok (.iconst 0, 1) := by decide +kernel
theorem d_Mo_verify_111 : decode m_Mo_verify.2.2.1 111 = .ok (.istore_n 1, 1) := by decide +kernel
theorem d_Mo_verify_112 : decode m_Mo_verify.2.2.1 112 = .ok (.iload_n 1, 1) := by decide +kernel
theorem d_Mo_verify_113 : decode m_Mo_verify.2.2.1 113 = .ok (.iconst 3, 1) := by decide +kernel
theorem d_Mo_verify_114 : decode m_Mo_verify.2.2.1 114 = .ok (.if_icmp .ge (21), 3) := by decide +kernel
theorem d_Mo_verify_117 : decode m_Mo_verify.2.2.1 117 = .ok (.aload_n 0, 1) := by decide +kernel
theorem d_Mo_verify_118 : decode m_Mo_verify.2.2.1 118 = .ok (.getfield 43, 3) := by decide +kernel
theorem d_Mo_verify_121 : decode m_Mo_verify.2.2.1 121 = .ok (.iload_n 1, 1) := by decide +kernel
theorem d_Mo_verify_122 : decode m_Mo_verify.2.2.1 122 = .ok (.aload_n 0, 1) := by decide +kernel
theorem d_Mo_verify_123 : decode m_Mo_verify.2.2.1 123 = .ok (.getfield 40, 3) := by decide +kernel
theorem d_Mo_verify_126 : decode m_Mo_verify.2.2.1 126 = .ok (.iload_n 1, 1) := by decide +kernel
theorem d_Mo_verify_127 : decode m_Mo_verify.2.2.1 127 = .ok (.iaload, 1) := by decide +kernel
theorem d_Mo_verify_128 : decode m_Mo_verify.2.2.1 128 = .ok (.iastore, 1) := by decide +kernel
theorem d_Mo_verify_129 : decode m_Mo_verify.2.2.1 129 = .ok (.iinc 1 (1), 3) := by decide +kernel
theorem d_Mo_verify_132 : decode m_Mo_verify.2.2.1 132 = .ok (.goto (-20), 3) := by decide +kernel
theorem d_Mo_verify_135 : decode m_Mo_verify.2.2.1 135 = .ok (.iconst 0, 1) := by decide +kernel
theorem d_Mo_verify_136 : decode m_Mo_verify.2.2.1 136 = .ok (.istore_n 1, 1) := by decide +kernel
theorem d_Mo_verify_137 : decode m_Mo_verify.2.2.1 137 = .ok (.iconst 0, 1) := by decide +kernel
theorem d_Mo_verify_138 : decode m_Mo_verify.2.2.1 138 = .ok (.istore_n 2, 1) := by decide +kernel
theorem d_Mo_verify_139 : decode m_Mo_verify.2.2.1 139 = .ok (.iload_n 2, 1) := by decide +kernel
theorem d_Mo_verify_140 : decode m_Mo_verify.2.2.1 140 = .ok (.iconst 3, 1) := by decide +kernel
theorem d_Mo_verify_141 : decode m_Mo_verify.2.2.1 141 = .ok (.if_icmp .ge (19), 3) := by decide +kernel
theorem d_Mo_verify_144 : decode m_Mo_verify.2.2.1 144 = .ok (.iload_n 1, 1) := by decide +kernel
theorem d_Mo_verify_145 : decode m_Mo_verify.2.2.1 145 = .ok (.ifCond .ne (15), 3) := by decide +kernel
theorem d_Mo_verify_148 : decode m_Mo_verify.2.2.1 148 = .ok (.aload_n 0, 1) := by decide +kernel
theorem d_Mo_verify_149 : decode m_Mo_verify.2.2.1 149 = .ok (.iload_n 2, 1) := by decide +kernel
theorem d_Mo_verify_150 : decode m_Mo_verify.2.2.1 150 = .ok (.invokevirtual 210, 3) := by decide +kernel
theorem d_Mo_verify_153 : decode m_Mo_verify.2.2.1 153 = .ok (.istore_n 1, 1) := by decide +kernel
theorem d_Mo_verify_154 : decode m_Mo_verify.2.2.1 154 = .ok (.iinc 2 (1), 3) := by decide +kernel
theorem d_Mo_verify_157 : decode m_Mo_verify.2.2.1 157 = .ok (.goto (-18), 3) := by decide +kernel
theorem d_Mo_verify_160 : decode m_Mo_verify.2.2.1 160 = .ok (.iload_n 1, 1) := by decide +kernel
theorem d_Mo_verify_161 : decode m_Mo_verify.2.2.1 161 = .ok (.ireturn, 1) := by decide +kernel
theorem d_Mo_position_0 : decode m_Mo_position.2.2.1 0 = .ok (.aload_n 0, 1) := by decide +kernel
theorem d_Mo_position_1 : decode m_Mo_position.2.2.1 1 = .ok (.getfield 203, 3) := by decide +kernel
theorem d_Mo_position_4 : decode m_Mo_position.2.2.1 4 = .ok (.ifCond .eq (21), 3) := by decide +kernel
theorem d_Mo_position_7 : decode m_Mo_position.2.2.1 7 = .ok (.iload_n 1, 1) := by decide +kernel
theorem d_Mo_position_8 : decode m_Mo_position.2.2.1 8 = .ok (.ifCond .lt (17), 3) := by decide +kernel
theorem d_Mo_position_11 : decode m_Mo_position.2.2.1 11 = .ok (.iload_n 1, 1) := by decide +kernel
theorem d_Mo_position_12 : decode m_Mo_position.2.2.1 12 = .ok (.iconst 3, 1) := by decide +kernel
theorem d_Mo_position_13 : decode m_Mo_position.2.2.1 13 = .ok (.if_icmp .ge (12), 3) := by decide +kernel
theorem d_Mo_position_16 : decode m_Mo_position.2.2.1 16 = .ok (.aload_n 0, 1) := by decide +kernel
theorem d_Mo_position_17 : decode m_Mo_position.2.2.1 17 = .ok (.getfield 43, 3) := by decide +kernel
theorem d_Mo_position_20 : decode m_Mo_position.2.2.1 20 = .ok (.iload_n 1, 1) := by decide +kernel
theorem d_Mo_position_21 : decode m_Mo_position.2.2.1 21 = .ok (.iaload, 1) := by decide +kernel
theorem d_Mo_position_22 : decode m_Mo_position.2.2.1 22 = .ok (.goto (5), 3) := by decide +kernel
theorem d_Mo_position_25 : decode m_Mo_position.2.2.1 25 = .ok (.bipush (-2), 2) := by decide +kernel
theorem d_Mo_position_27 : decode m_Mo_position.2.2.1 27 = .ok (.ireturn, 1) := by decide +kernel
theorem d_Fi_holds_0 : decode m_Fi_holds.2.2.1 0 = .ok (.iload_n 0, 1) := by decide +kernel
theorem d_Fi_holds_1 : decode m_Fi_holds.2.2.1 1 = .ok (.ifCond .lt (14), 3) := by decide +kernel
theorem d_Fi_holds_4 : decode m_Fi_holds.2.2.1 4 = .ok (.iload_n 0, 1) := by decide +kernel
theorem d_Fi_holds_5 : decode m_Fi_holds.2.2.1 5 = .ok (.sipush (12289), 3) := by decide +kernel
theorem d_Fi_holds_8 : decode m_Fi_holds.2.2.1 8 = .ok (.if_icmp .ge (7), 3) := by decide +kernel
theorem d_Fi_holds_11 : decode m_Fi_holds.2.2.1 11 = .ok (.iconst 1, 1) := by decide +kernel
theorem d_Fi_holds_12 : decode m_Fi_holds.2.2.1 12 = .ok (.goto (4), 3) := by decide +kernel
theorem d_Fi_holds_15 : decode m_Fi_holds.2.2.1 15 = .ok (.iconst 0, 1) := by decide +kernel
theorem d_Fi_holds_16 : decode m_Fi_holds.2.2.1 16 = .ok (.ireturn, 1) := by decide +kernel
theorem d_Fi_plus_0 : decode m_Fi_plus.2.2.1 0 = .ok (.iload_n 0, 1) := by decide +kernel
theorem d_Fi_plus_1 : decode m_Fi_plus.2.2.1 1 = .ok (.iload_n 1, 1) := by decide +kernel
theorem d_Fi_plus_2 : decode m_Fi_plus.2.2.1 2 = .ok (.iadd, 1) := by decide +kernel
theorem d_Fi_plus_3 : decode m_Fi_plus.2.2.1 3 = .ok (.sipush (12289), 3) := by decide +kernel
theorem d_Fi_plus_6 : decode m_Fi_plus.2.2.1 6 = .ok (.irem, 1) := by decide +kernel
theorem d_Fi_plus_7 : decode m_Fi_plus.2.2.1 7 = .ok (.ireturn, 1) := by decide +kernel
theorem d_Fi_minus_0 : decode m_Fi_minus.2.2.1 0 = .ok (.iload_n 0, 1) := by decide +kernel
theorem d_Fi_minus_1 : decode m_Fi_minus.2.2.1 1 = .ok (.iload_n 1, 1) := by decide +kernel
theorem d_Fi_minus_2 : decode m_Fi_minus.2.2.1 2 = .ok (.isub, 1) := by decide +kernel
theorem d_Fi_minus_3 : decode m_Fi_minus.2.2.1 3 = .ok (.sipush (12289), 3) := by decide +kernel
theorem d_Fi_minus_6 : decode m_Fi_minus.2.2.1 6 = .ok (.iadd, 1) := by decide +kernel
theorem d_Fi_minus_7 : decode m_Fi_minus.2.2.1 7 = .ok (.sipush (12289), 3) := by decide +kernel
theorem d_Fi_minus_10 : decode m_Fi_minus.2.2.1 10 = .ok (.irem, 1) := by decide +kernel
theorem d_Fi_minus_11 : decode m_Fi_minus.2.2.1 11 = .ok (.ireturn, 1) := by decide +kernel
theorem d_Fi_times_0 : decode m_Fi_times.2.2.1 0 = .ok (.iload_n 0, 1) := by decide +kernel
theorem d_Fi_times_1 : decode m_Fi_times.2.2.1 1 = .ok (.iload_n 1, 1) := by decide +kernel
theorem d_Fi_times_2 : decode m_Fi_times.2.2.1 2 = .ok (.imul, 1) := by decide +kernel
theorem d_Fi_times_3 : decode m_Fi_times.2.2.1 3 = .ok (.sipush (12289), 3) := by decide +kernel
theorem d_Fi_times_6 : decode m_Fi_times.2.2.1 6 = .ok (.irem, 1) := by decide +kernel
theorem d_Fi_times_7 : decode m_Fi_times.2.2.1 7 = .ok (.ireturn, 1) := by decide +kernel
theorem d_Fi_power_0 : decode m_Fi_power.2.2.1 0 = .ok (.iconst 1, 1) := by decide +kernel
theorem d_Fi_power_1 : decode m_Fi_power.2.2.1 1 = .ok (.istore_n 2, 1) := by decide +kernel
theorem d_Fi_power_2 : decode m_Fi_power.2.2.1 2 = .ok (.iload_n 0, 1) := by decide +kernel
theorem d_Fi_power_3 : decode m_Fi_power.2.2.1 3 = .ok (.istore_n 3, 1) := by decide +kernel
theorem d_Fi_power_4 : decode m_Fi_power.2.2.1 4 = .ok (.iload_n 1, 1) := by decide +kernel
theorem d_Fi_power_5 : decode m_Fi_power.2.2.1 5 = .ok (.istore 4, 2) := by decide +kernel
theorem d_Fi_power_7 : decode m_Fi_power.2.2.1 7 = .ok (.iload 4, 2) := by decide +kernel
theorem d_Fi_power_9 : decode m_Fi_power.2.2.1 9 = .ok (.ifCond .le (32), 3) := by decide +kernel
theorem d_Fi_power_12 : decode m_Fi_power.2.2.1 12 = .ok (.iload 4, 2) := by decide +kernel
theorem d_Fi_power_14 : decode m_Fi_power.2.2.1 14 = .ok (.iconst 2, 1) := by decide +kernel
theorem d_Fi_power_15 : decode m_Fi_power.2.2.1 15 = .ok (.irem, 1) := by decide +kernel
theorem d_Fi_power_16 : decode m_Fi_power.2.2.1 16 = .ok (.iconst 1, 1) := by decide +kernel
theorem d_Fi_power_17 : decode m_Fi_power.2.2.1 17 = .ok (.if_icmp .ne (9), 3) := by decide +kernel
theorem d_Fi_power_20 : decode m_Fi_power.2.2.1 20 = .ok (.iload_n 2, 1) := by decide +kernel
theorem d_Fi_power_21 : decode m_Fi_power.2.2.1 21 = .ok (.iload_n 3, 1) := by decide +kernel
theorem d_Fi_power_22 : decode m_Fi_power.2.2.1 22 = .ok (.invokestatic 9, 3) := by decide +kernel
theorem d_Fi_power_25 : decode m_Fi_power.2.2.1 25 = .ok (.istore_n 2, 1) := by decide +kernel
theorem d_Fi_power_26 : decode m_Fi_power.2.2.1 26 = .ok (.iload_n 3, 1) := by decide +kernel
theorem d_Fi_power_27 : decode m_Fi_power.2.2.1 27 = .ok (.iload_n 3, 1) := by decide +kernel
theorem d_Fi_power_28 : decode m_Fi_power.2.2.1 28 = .ok (.invokestatic 9, 3) := by decide +kernel
theorem d_Fi_power_31 : decode m_Fi_power.2.2.1 31 = .ok (.istore_n 3, 1) := by decide +kernel
theorem d_Fi_power_32 : decode m_Fi_power.2.2.1 32 = .ok (.iload 4, 2) := by decide +kernel
theorem d_Fi_power_34 : decode m_Fi_power.2.2.1 34 = .ok (.iconst 2, 1) := by decide +kernel
theorem d_Fi_power_35 : decode m_Fi_power.2.2.1 35 = .ok (.idiv, 1) := by decide +kernel
theorem d_Fi_power_36 : decode m_Fi_power.2.2.1 36 = .ok (.istore 4, 2) := by decide +kernel
theorem d_Fi_power_38 : decode m_Fi_power.2.2.1 38 = .ok (.goto (-31), 3) := by decide +kernel
theorem d_Fi_power_41 : decode m_Fi_power.2.2.1 41 = .ok (.iload_n 2, 1) := by decide +kernel
theorem d_Fi_power_42 : decode m_Fi_power.2.2.1 42 = .ok (.ireturn, 1) := by decide +kernel
theorem d_Fi_inverse_0 : decode m_Fi_inverse.2.2.1 0 = .ok (.iload_n 0, 1) := by decide +kernel
theorem d_Fi_inverse_1 : decode m_Fi_inverse.2.2.1 1 = .ok (.sipush (12287), 3) := by decide +kernel
theorem d_Fi_inverse_4 : decode m_Fi_inverse.2.2.1 4 = .ok (.invokestatic 13, 3) := by decide +kernel
theorem d_Fi_inverse_7 : decode m_Fi_inverse.2.2.1 7 = .ok (.ireturn, 1) := by decide +kernel
theorem d_Pt_init_0 : decode m_Pt_init.2.2.1 0 = .ok (.aload_n 0, 1) := by decide +kernel
theorem d_Pt_init_1 : decode m_Pt_init.2.2.1 1 = .ok (.invokespecial 3, 3) := by decide +kernel
theorem d_Pt_init_4 : decode m_Pt_init.2.2.1 4 = .ok (.aload_n 0, 1) := by decide +kernel
theorem d_Pt_init_5 : decode m_Pt_init.2.2.1 5 = .ok (.bipush (32), 2) := by decide +kernel
theorem d_Pt_init_7 : decode m_Pt_init.2.2.1 7 = .ok (.newarray .int, 2) := by decide +kernel
theorem d_Pt_init_9 : decode m_Pt_init.2.2.1 9 = .ok (.putfield 9, 3) := by decide +kernel
theorem d_Pt_init_12 : decode m_Pt_init.2.2.1 12 = .ok (.aload_n 0, 1) := by decide +kernel
theorem d_Pt_init_13 : decode m_Pt_init.2.2.1 13 = .ok (.bipush (32), 2) := by decide +kernel
theorem d_Pt_init_15 : decode m_Pt_init.2.2.1 15 = .ok (.newarray .int, 2) := by decide +kernel
theorem d_Pt_init_17 : decode m_Pt_init.2.2.1 17 = .ok (.putfield 15, 3) := by decide +kernel
theorem d_Pt_init_20 : decode m_Pt_init.2.2.1 20 = .ok (.aload_n 0, 1) := by decide +kernel
theorem d_Pt_init_21 : decode m_Pt_init.2.2.1 21 = .ok (.bipush (32), 2) := by decide +kernel
theorem d_Pt_init_23 : decode m_Pt_init.2.2.1 23 = .ok (.newarray .int, 2) := by decide +kernel
theorem d_Pt_init_25 : decode m_Pt_init.2.2.1 25 = .ok (.putfield 18, 3) := by decide +kernel
theorem d_Pt_init_28 : decode m_Pt_init.2.2.1 28 = .ok (.aload_n 0, 1) := by decide +kernel
theorem d_Pt_init_29 : decode m_Pt_init.2.2.1 29 = .ok (.bipush (32), 2) := by decide +kernel
theorem d_Pt_init_31 : decode m_Pt_init.2.2.1 31 = .ok (.newarray .int, 2) := by decide +kernel
theorem d_Pt_init_33 : decode m_Pt_init.2.2.1 33 = .ok (.putfield 21, 3) := by decide +kernel
theorem d_Pt_init_36 : decode m_Pt_init.2.2.1 36 = .ok (.aload_n 0, 1) := by decide +kernel
theorem d_Pt_init_37 : decode m_Pt_init.2.2.1 37 = .ok (.bipush (32), 2) := by decide +kernel
theorem d_Pt_init_39 : decode m_Pt_init.2.2.1 39 = .ok (.newarray .int, 2) := by decide +kernel
theorem d_Pt_init_41 : decode m_Pt_init.2.2.1 41 = .ok (.putfield 24, 3) := by decide +kernel
theorem d_Pt_init_44 : decode m_Pt_init.2.2.1 44 = .ok (.bipush (11), 2) := by decide +kernel
end
section
theorem d_Pt_init_46 : decode m_Pt_init.2.2.1 46 = .ok (.sipush (384), 3) := by decide +kernel
theorem d_Pt_init_49 : decode m_Pt_init.2.2.1 49 = .ok (.invokestatic 27, 3) := by decide +kernel
theorem d_Pt_init_52 : decode m_Pt_init.2.2.1 52 = .ok (.istore_n 1, 1) := by decide +kernel
theorem d_Pt_init_53 : decode m_Pt_init.2.2.1 53 = .ok (.aload_n 0, 1) := by decide +kernel
theorem d_Pt_init_54 : decode m_Pt_init.2.2.1 54 = .ok (.getfield 9, 3) := by decide +kernel
theorem d_Pt_init_57 : decode m_Pt_init.2.2.1 57 = .ok (.iconst 0, 1) := by decide +kernel
theorem d_Pt_init_58 : decode m_Pt_init.2.2.1 58 = .ok (.iconst 1, 1) := by decide +kernel
theorem d_Pt_init_59 : decode m_Pt_init.2.2.1 59 = .ok (.iastore, 1) := by decide +kernel
theorem d_Pt_init_60 : decode m_Pt_init.2.2.1 60 = .ok (.iconst 1, 1) := by decide +kernel
theorem d_Pt_init_61 : decode m_Pt_init.2.2.1 61 = .ok (.istore_n 2, 1) := by decide +kernel
theorem d_Pt_init_62 : decode m_Pt_init.2.2.1 62 = .ok (.iload_n 2, 1) := by decide +kernel
theorem d_Pt_init_63 : decode m_Pt_init.2.2.1 63 = .ok (.bipush (32), 2) := by decide +kernel
theorem d_Pt_init_65 : decode m_Pt_init.2.2.1 65 = .ok (.if_icmp .ge (27), 3) := by decide +kernel
theorem d_Pt_init_68 : decode m_Pt_init.2.2.1 68 = .ok (.aload_n 0, 1) := by decide +kernel
theorem d_Pt_init_69 : decode m_Pt_init.2.2.1 69 = .ok (.getfield 9, 3) := by decide +kernel
theorem d_Pt_init_72 : decode m_Pt_init.2.2.1 72 = .ok (.iload_n 2, 1) := by decide +kernel
theorem d_Pt_init_73 : decode m_Pt_init.2.2.1 73 = .ok (.aload_n 0, 1) := by decide +kernel
theorem d_Pt_init_74 : decode m_Pt_init.2.2.1 74 = .ok (.getfield 9, 3) := by decide +kernel
theorem d_Pt_init_77 : decode m_Pt_init.2.2.1 77 = .ok (.iload_n 2, 1) := by decide +kernel
theorem d_Pt_init_78 : decode m_Pt_init.2.2.1 78 = .ok (.iconst 1, 1) := by decide +kernel
theorem d_Pt_init_79 : decode m_Pt_init.2.2.1 79 = .ok (.isub, 1) := by decide +kernel
theorem d_Pt_init_80 : decode m_Pt_init.2.2.1 80 = .ok (.iaload, 1) := by decide +kernel
theorem d_Pt_init_81 : decode m_Pt_init.2.2.1 81 = .ok (.iload_n 1, 1) := by decide +kernel
theorem d_Pt_init_82 : decode m_Pt_init.2.2.1 82 = .ok (.invokestatic 33, 3) := by decide +kernel
theorem d_Pt_init_85 : decode m_Pt_init.2.2.1 85 = .ok (.iastore, 1) := by decide +kernel
theorem d_Pt_init_86 : decode m_Pt_init.2.2.1 86 = .ok (.iinc 2 (1), 3) := by decide +kernel
theorem d_Pt_init_89 : decode m_Pt_init.2.2.1 89 = .ok (.goto (-27), 3) := by decide +kernel
theorem d_Pt_init_92 : decode m_Pt_init.2.2.1 92 = .ok (.bipush (8), 2) := by decide +kernel
theorem d_Pt_init_94 : decode m_Pt_init.2.2.1 94 = .ok (.invokestatic 36, 3) := by decide +kernel
theorem d_Pt_init_97 : decode m_Pt_init.2.2.1 97 = .ok (.istore_n 2, 1) := by decide +kernel
theorem d_Pt_init_98 : decode m_Pt_init.2.2.1 98 = .ok (.iconst 0, 1) := by decide +kernel
theorem d_Pt_init_99 : decode m_Pt_init.2.2.1 99 = .ok (.istore_n 3, 1) := by decide +kernel
theorem d_Pt_init_100 : decode m_Pt_init.2.2.1 100 = .ok (.iload_n 3, 1) := by decide +kernel
theorem d_Pt_init_101 : decode m_Pt_init.2.2.1 101 = .ok (.bipush (32), 2) := by decide +kernel
theorem d_Pt_init_103 : decode m_Pt_init.2.2.1 103 = .ok (.if_icmp .ge (102), 3) := by decide +kernel
theorem d_Pt_init_106 : decode m_Pt_init.2.2.1 106 = .ok (.bipush (11), 2) := by decide +kernel
theorem d_Pt_init_108 : decode m_Pt_init.2.2.1 108 = .ok (.aload_n 0, 1) := by decide +kernel
theorem d_Pt_init_109 : decode m_Pt_init.2.2.1 109 = .ok (.getfield 9, 3) := by decide +kernel
theorem d_Pt_init_112 : decode m_Pt_init.2.2.1 112 = .ok (.iload_n 3, 1) := by decide +kernel
theorem d_Pt_init_113 : decode m_Pt_init.2.2.1 113 = .ok (.iaload, 1) := by decide +kernel
theorem d_Pt_init_114 : decode m_Pt_init.2.2.1 114 = .ok (.invokestatic 33, 3) := by decide +kernel
theorem d_Pt_init_117 : decode m_Pt_init.2.2.1 117 = .ok (.istore 4, 2) := by decide +kernel
theorem d_Pt_init_119 : decode m_Pt_init.2.2.1 119 = .ok (.iload 4, 2) := by decide +kernel
theorem d_Pt_init_121 : decode m_Pt_init.2.2.1 121 = .ok (.bipush (8), 2) := by decide +kernel
theorem d_Pt_init_123 : decode m_Pt_init.2.2.1 123 = .ok (.invokestatic 27, 3) := by decide +kernel
theorem d_Pt_init_126 : decode m_Pt_init.2.2.1 126 = .ok (.iconst 1, 1) := by decide +kernel
theorem d_Pt_init_127 : decode m_Pt_init.2.2.1 127 = .ok (.invokestatic 40, 3) := by decide +kernel
theorem d_Pt_init_130 : decode m_Pt_init.2.2.1 130 = .ok (.istore 5, 2) := by decide +kernel
theorem d_Pt_init_132 : decode m_Pt_init.2.2.1 132 = .ok (.iload 4, 2) := by decide +kernel
theorem d_Pt_init_134 : decode m_Pt_init.2.2.1 134 = .ok (.aload_n 0, 1) := by decide +kernel
theorem d_Pt_init_135 : decode m_Pt_init.2.2.1 135 = .ok (.bipush (7), 2) := by decide +kernel
theorem d_Pt_init_137 : decode m_Pt_init.2.2.1 137 = .ok (.invokevirtual 43, 3) := by decide +kernel
theorem d_Pt_init_140 : decode m_Pt_init.2.2.1 140 = .ok (.invokestatic 40, 3) := by decide +kernel
theorem d_Pt_init_143 : decode m_Pt_init.2.2.1 143 = .ok (.istore 6, 2) := by decide +kernel
theorem d_Pt_init_145 : decode m_Pt_init.2.2.1 145 = .ok (.aload_n 0, 1) := by decide +kernel
theorem d_Pt_init_146 : decode m_Pt_init.2.2.1 146 = .ok (.getfield 15, 3) := by decide +kernel
theorem d_Pt_init_149 : decode m_Pt_init.2.2.1 149 = .ok (.iload_n 3, 1) := by decide +kernel
theorem d_Pt_init_150 : decode m_Pt_init.2.2.1 150 = .ok (.iload 4, 2) := by decide +kernel
theorem d_Pt_init_152 : decode m_Pt_init.2.2.1 152 = .ok (.invokestatic 36, 3) := by decide +kernel
theorem d_Pt_init_155 : decode m_Pt_init.2.2.1 155 = .ok (.iastore, 1) := by decide +kernel
theorem d_Pt_init_156 : decode m_Pt_init.2.2.1 156 = .ok (.aload_n 0, 1) := by decide +kernel
theorem d_Pt_init_157 : decode m_Pt_init.2.2.1 157 = .ok (.getfield 18, 3) := by decide +kernel
theorem d_Pt_init_160 : decode m_Pt_init.2.2.1 160 = .ok (.iload_n 3, 1) := by decide +kernel
theorem d_Pt_init_161 : decode m_Pt_init.2.2.1 161 = .ok (.iload 4, 2) := by decide +kernel
theorem d_Pt_init_163 : decode m_Pt_init.2.2.1 163 = .ok (.iconst 1, 1) := by decide +kernel
theorem d_Pt_init_164 : decode m_Pt_init.2.2.1 164 = .ok (.invokestatic 40, 3) := by decide +kernel
theorem d_Pt_init_167 : decode m_Pt_init.2.2.1 167 = .ok (.invokestatic 36, 3) := by decide +kernel
theorem d_Pt_init_170 : decode m_Pt_init.2.2.1 170 = .ok (.iastore, 1) := by decide +kernel
theorem d_Pt_init_171 : decode m_Pt_init.2.2.1 171 = .ok (.aload_n 0, 1) := by decide +kernel
theorem d_Pt_init_172 : decode m_Pt_init.2.2.1 172 = .ok (.getfield 21, 3) := by decide +kernel
theorem d_Pt_init_175 : decode m_Pt_init.2.2.1 175 = .ok (.iload_n 3, 1) := by decide +kernel
theorem d_Pt_init_176 : decode m_Pt_init.2.2.1 176 = .ok (.iload 6, 2) := by decide +kernel
theorem d_Pt_init_178 : decode m_Pt_init.2.2.1 178 = .ok (.iload 5, 2) := by decide +kernel
theorem d_Pt_init_180 : decode m_Pt_init.2.2.1 180 = .ok (.invokestatic 36, 3) := by decide +kernel
theorem d_Pt_init_183 : decode m_Pt_init.2.2.1 183 = .ok (.invokestatic 33, 3) := by decide +kernel
theorem d_Pt_init_186 : decode m_Pt_init.2.2.1 186 = .ok (.iastore, 1) := by decide +kernel
theorem d_Pt_init_187 : decode m_Pt_init.2.2.1 187 = .ok (.aload_n 0, 1) := by decide +kernel
theorem d_Pt_init_188 : decode m_Pt_init.2.2.1 188 = .ok (.getfield 24, 3) := by decide +kernel
theorem d_Pt_init_191 : decode m_Pt_init.2.2.1 191 = .ok (.iload_n 3, 1) := by decide +kernel
theorem d_Pt_init_192 : decode m_Pt_init.2.2.1 192 = .ok (.iload 5, 2) := by decide +kernel
theorem d_Pt_init_194 : decode m_Pt_init.2.2.1 194 = .ok (.iload_n 2, 1) := by decide +kernel
theorem d_Pt_init_195 : decode m_Pt_init.2.2.1 195 = .ok (.invokestatic 33, 3) := by decide +kernel
theorem d_Pt_init_198 : decode m_Pt_init.2.2.1 198 = .ok (.iastore, 1) := by decide +kernel
theorem d_Pt_init_199 : decode m_Pt_init.2.2.1 199 = .ok (.iinc 3 (1), 3) := by decide +kernel
theorem d_Pt_init_202 : decode m_Pt_init.2.2.1 202 = .ok (.goto (-102), 3) := by decide +kernel
theorem d_Pt_init_205 : decode m_Pt_init.2.2.1 205 = .ok (.return_, 1) := by decide +kernel
theorem d_Pt_rowPoint_0 : decode m_Pt_rowPoint.2.2.1 0 = .ok (.aload_n 0, 1) := by decide +kernel
theorem d_Pt_rowPoint_1 : decode m_Pt_rowPoint.2.2.1 1 = .ok (.getfield 9, 3) := by decide +kernel
theorem d_Pt_rowPoint_4 : decode m_Pt_rowPoint.2.2.1 4 = .ok (.iconst 4, 1) := by decide +kernel
theorem d_Pt_rowPoint_5 : decode m_Pt_rowPoint.2.2.1 5 = .ok (.iload_n 1, 1) := by decide +kernel
theorem d_Pt_rowPoint_6 : decode m_Pt_rowPoint.2.2.1 6 = .ok (.imul, 1) := by decide +kernel
theorem d_Pt_rowPoint_7 : decode m_Pt_rowPoint.2.2.1 7 = .ok (.iaload, 1) := by decide +kernel
theorem d_Pt_rowPoint_8 : decode m_Pt_rowPoint.2.2.1 8 = .ok (.ireturn, 1) := by decide +kernel
theorem d_Pt_constraintFactor_0 : decode m_Pt_constraintFactor.2.2.1 0 = .ok (.aload_n 0, 1) := by decide +kernel
theorem d_Pt_constraintFactor_1 : decode m_Pt_constraintFactor.2.2.1 1 = .ok (.getfield 21, 3) := by decide +kernel
theorem d_Pt_constraintFactor_4 : decode m_Pt_constraintFactor.2.2.1 4 = .ok (.iload_n 1, 1) := by decide +kernel
theorem d_Pt_constraintFactor_5 : decode m_Pt_constraintFactor.2.2.1 5 = .ok (.iaload, 1) := by decide +kernel
theorem d_Pt_constraintFactor_6 : decode m_Pt_constraintFactor.2.2.1 6 = .ok (.ireturn, 1) := by decide +kernel
theorem d_Pt_boundFactor_0 : decode m_Pt_boundFactor.2.2.1 0 = .ok (.aload_n 0, 1) := by decide +kernel
theorem d_Pt_boundFactor_1 : decode m_Pt_boundFactor.2.2.1 1 = .ok (.bipush (8), 2) := by decide +kernel
theorem d_Pt_boundFactor_3 : decode m_Pt_boundFactor.2.2.1 3 = .ok (.iload_n 2, 1) := by decide +kernel
theorem d_Pt_boundFactor_4 : decode m_Pt_boundFactor.2.2.1 4 = .ok (.isub, 1) := by decide +kernel
theorem d_Pt_boundFactor_5 : decode m_Pt_boundFactor.2.2.1 5 = .ok (.bipush (8), 2) := by decide +kernel
theorem d_Pt_boundFactor_7 : decode m_Pt_boundFactor.2.2.1 7 = .ok (.irem, 1) := by decide +kernel
theorem d_Pt_boundFactor_8 : decode m_Pt_boundFactor.2.2.1 8 = .ok (.invokevirtual 43, 3) := by decide +kernel
theorem d_Pt_boundFactor_11 : decode m_Pt_boundFactor.2.2.1 11 = .ok (.istore_n 3, 1) := by decide +kernel
theorem d_Pt_boundFactor_12 : decode m_Pt_boundFactor.2.2.1 12 = .ok (.iload_n 3, 1) := by decide +kernel
theorem d_Pt_boundFactor_13 : decode m_Pt_boundFactor.2.2.1 13 = .ok (.aload_n 0, 1) := by decide +kernel
theorem d_Pt_boundFactor_14 : decode m_Pt_boundFactor.2.2.1 14 = .ok (.getfield 18, 3) := by decide +kernel
theorem d_Pt_boundFactor_17 : decode m_Pt_boundFactor.2.2.1 17 = .ok (.iload_n 1, 1) := by decide +kernel
theorem d_Pt_boundFactor_18 : decode m_Pt_boundFactor.2.2.1 18 = .ok (.iload_n 2, 1) := by decide +kernel
theorem d_Pt_boundFactor_19 : decode m_Pt_boundFactor.2.2.1 19 = .ok (.invokestatic 46, 3) := by decide +kernel
theorem d_Pt_boundFactor_22 : decode m_Pt_boundFactor.2.2.1 22 = .ok (.iaload, 1) := by decide +kernel
theorem d_Pt_boundFactor_23 : decode m_Pt_boundFactor.2.2.1 23 = .ok (.invokestatic 33, 3) := by decide +kernel
theorem d_Pt_boundFactor_26 : decode m_Pt_boundFactor.2.2.1 26 = .ok (.ireturn, 1) := by decide +kernel
theorem d_Pt_interpolate_0 : decode m_Pt_interpolate.2.2.1 0 = .ok (.iconst 0, 1) := by decide +kernel
theorem d_Pt_interpolate_1 : decode m_Pt_interpolate.2.2.1 1 = .ok (.istore_n 3, 1) := by decide +kernel
theorem d_Pt_interpolate_2 : decode m_Pt_interpolate.2.2.1 2 = .ok (.iconst 0, 1) := by decide +kernel
theorem d_Pt_interpolate_3 : decode m_Pt_interpolate.2.2.1 3 = .ok (.istore 4, 2) := by decide +kernel
theorem d_Pt_interpolate_5 : decode m_Pt_interpolate.2.2.1 5 = .ok (.iload 4, 2) := by decide +kernel
theorem d_Pt_interpolate_7 : decode m_Pt_interpolate.2.2.1 7 = .ok (.bipush (8), 2) := by decide +kernel
theorem d_Pt_interpolate_9 : decode m_Pt_interpolate.2.2.1 9 = .ok (.if_icmp .ge (32), 3) := by decide +kernel
theorem d_Pt_interpolate_12 : decode m_Pt_interpolate.2.2.1 12 = .ok (.iload_n 3, 1) := by decide +kernel
theorem d_Pt_interpolate_13 : decode m_Pt_interpolate.2.2.1 13 = .ok (.aload_n 1, 1) := by decide +kernel
theorem d_Pt_interpolate_14 : decode m_Pt_interpolate.2.2.1 14 = .ok (.iload 4, 2) := by decide +kernel
theorem d_Pt_interpolate_16 : decode m_Pt_interpolate.2.2.1 16 = .ok (.iaload, 1) := by decide +kernel
theorem d_Pt_interpolate_17 : decode m_Pt_interpolate.2.2.1 17 = .ok (.aload_n 0, 1) := by decide +kernel
theorem d_Pt_interpolate_18 : decode m_Pt_interpolate.2.2.1 18 = .ok (.getfield 18, 3) := by decide +kernel
theorem d_Pt_interpolate_21 : decode m_Pt_interpolate.2.2.1 21 = .ok (.iload_n 2, 1) := by decide +kernel
theorem d_Pt_interpolate_22 : decode m_Pt_interpolate.2.2.1 22 = .ok (.iload 4, 2) := by decide +kernel
theorem d_Pt_interpolate_24 : decode m_Pt_interpolate.2.2.1 24 = .ok (.invokestatic 46, 3) := by decide +kernel
theorem d_Pt_interpolate_27 : decode m_Pt_interpolate.2.2.1 27 = .ok (.iaload, 1) := by decide +kernel
theorem d_Pt_interpolate_28 : decode m_Pt_interpolate.2.2.1 28 = .ok (.invokestatic 33, 3) := by decide +kernel
theorem d_Pt_interpolate_31 : decode m_Pt_interpolate.2.2.1 31 = .ok (.invokestatic 49, 3) := by decide +kernel
theorem d_Pt_interpolate_34 : decode m_Pt_interpolate.2.2.1 34 = .ok (.istore_n 3, 1) := by decide +kernel
theorem d_Pt_interpolate_35 : decode m_Pt_interpolate.2.2.1 35 = .ok (.iinc 4 (1), 3) := by decide +kernel
theorem d_Pt_interpolate_38 : decode m_Pt_interpolate.2.2.1 38 = .ok (.goto (-33), 3) := by decide +kernel
theorem d_Pt_interpolate_41 : decode m_Pt_interpolate.2.2.1 41 = .ok (.iload_n 3, 1) := by decide +kernel
theorem d_Pt_interpolate_42 : decode m_Pt_interpolate.2.2.1 42 = .ok (.aload_n 0, 1) := by decide +kernel
theorem d_Pt_interpolate_43 : decode m_Pt_interpolate.2.2.1 43 = .ok (.getfield 24, 3) := by decide +kernel
theorem d_Pt_interpolate_46 : decode m_Pt_interpolate.2.2.1 46 = .ok (.iload_n 2, 1) := by decide +kernel
theorem d_Pt_interpolate_47 : decode m_Pt_interpolate.2.2.1 47 = .ok (.iaload, 1) := by decide +kernel
theorem d_Pt_interpolate_48 : decode m_Pt_interpolate.2.2.1 48 = .ok (.invokestatic 33, 3) := by decide +kernel
theorem d_Pt_interpolate_51 : decode m_Pt_interpolate.2.2.1 51 = .ok (.ireturn, 1) := by decide +kernel
theorem d_Pt_rowsBefore_0 : decode m_Pt_rowsBefore.2.2.1 0 = .ok (.iload_n 0, 1) := by decide +kernel
theorem d_Pt_rowsBefore_1 : decode m_Pt_rowsBefore.2.2.1 1 = .ok (.bipush (32), 2) := by decide +kernel
theorem d_Pt_rowsBefore_3 : decode m_Pt_rowsBefore.2.2.1 3 = .ok (.iadd, 1) := by decide +kernel
theorem d_Pt_rowsBefore_4 : decode m_Pt_rowsBefore.2.2.1 4 = .ok (.iconst 4, 1) := by decide +kernel
theorem d_Pt_rowsBefore_5 : decode m_Pt_rowsBefore.2.2.1 5 = .ok (.iload_n 1, 1) := by decide +kernel
theorem d_Pt_rowsBefore_6 : decode m_Pt_rowsBefore.2.2.1 6 = .ok (.imul, 1) := by decide +kernel
theorem d_Pt_rowsBefore_7 : decode m_Pt_rowsBefore.2.2.1 7 = .ok (.isub, 1) := by decide +kernel
theorem d_Pt_rowsBefore_8 : decode m_Pt_rowsBefore.2.2.1 8 = .ok (.bipush (32), 2) := by decide +kernel
theorem d_Pt_rowsBefore_10 : decode m_Pt_rowsBefore.2.2.1 10 = .ok (.irem, 1) := by decide +kernel
theorem d_Pt_rowsBefore_11 : decode m_Pt_rowsBefore.2.2.1 11 = .ok (.ireturn, 1) := by decide +kernel
theorem d_Pt_rowBehind_0 : decode m_Pt_rowBehind.2.2.1 0 = .ok (.iload_n 0, 1) := by decide +kernel
theorem d_Pt_rowBehind_1 : decode m_Pt_rowBehind.2.2.1 1 = .ok (.iconst 4, 1) := by decide +kernel
theorem d_Pt_rowBehind_2 : decode m_Pt_rowBehind.2.2.1 2 = .ok (.iadd, 1) := by decide +kernel
theorem d_Pt_rowBehind_3 : decode m_Pt_rowBehind.2.2.1 3 = .ok (.bipush (32), 2) := by decide +kernel
theorem d_Pt_rowBehind_5 : decode m_Pt_rowBehind.2.2.1 5 = .ok (.irem, 1) := by decide +kernel
theorem d_Pt_rowBehind_6 : decode m_Pt_rowBehind.2.2.1 6 = .ok (.ireturn, 1) := by decide +kernel
theorem d_Pt_fold_0 : decode m_Pt_fold.2.2.1 0 = .ok (.aload_n 0, 1) := by decide +kernel
theorem d_Pt_fold_1 : decode m_Pt_fold.2.2.1 1 = .ok (.getfield 15, 3) := by decide +kernel
theorem d_Pt_fold_4 : decode m_Pt_fold.2.2.1 4 = .ok (.iload_n 2, 1) := by decide +kernel
theorem d_Pt_fold_5 : decode m_Pt_fold.2.2.1 5 = .ok (.iaload, 1) := by decide +kernel
theorem d_Pt_fold_6 : decode m_Pt_fold.2.2.1 6 = .ok (.iconst 1, 1) := by decide +kernel
theorem d_Pt_fold_7 : decode m_Pt_fold.2.2.1 7 = .ok (.iload_n 1, 1) := by decide +kernel
theorem d_Pt_fold_8 : decode m_Pt_fold.2.2.1 8 = .ok (.ishl, 1) := by decide +kernel
theorem d_Pt_fold_9 : decode m_Pt_fold.2.2.1 9 = .ok (.invokestatic 27, 3) := by decide +kernel
theorem d_Pt_fold_12 : decode m_Pt_fold.2.2.1 12 = .ok (.istore 6, 2) := by decide +kernel
theorem d_Pt_fold_14 : decode m_Pt_fold.2.2.1 14 = .ok (.iload_n 3, 1) := by decide +kernel
theorem d_Pt_fold_15 : decode m_Pt_fold.2.2.1 15 = .ok (.iload 4, 2) := by decide +kernel
theorem d_Pt_fold_17 : decode m_Pt_fold.2.2.1 17 = .ok (.invokestatic 40, 3) := by decide +kernel
theorem d_Pt_fold_20 : decode m_Pt_fold.2.2.1 20 = .ok (.iload 6, 2) := by decide +kernel
theorem d_Pt_fold_22 : decode m_Pt_fold.2.2.1 22 = .ok (.invokestatic 33, 3) := by decide +kernel
theorem d_Pt_fold_25 : decode m_Pt_fold.2.2.1 25 = .ok (.istore 7, 2) := by decide +kernel
theorem d_Pt_fold_27 : decode m_Pt_fold.2.2.1 27 = .ok (.iload_n 3, 1) := by decide +kernel
theorem d_Pt_fold_28 : decode m_Pt_fold.2.2.1 28 = .ok (.iload 4, 2) := by decide +kernel
theorem d_Pt_fold_30 : decode m_Pt_fold.2.2.1 30 = .ok (.invokestatic 49, 3) := by decide +kernel
theorem d_Pt_fold_33 : decode m_Pt_fold.2.2.1 33 = .ok (.iload 5, 2) := by decide +kernel
theorem d_Pt_fold_35 : decode m_Pt_fold.2.2.1 35 = .ok (.iload 7, 2) := by decide +kernel
theorem d_Pt_fold_37 : decode m_Pt_fold.2.2.1 37 = .ok (.invokestatic 33, 3) := by decide +kernel
theorem d_Pt_fold_40 : decode m_Pt_fold.2.2.1 40 = .ok (.invokestatic 49, 3) := by decide +kernel
theorem d_Pt_fold_43 : decode m_Pt_fold.2.2.1 43 = .ok (.istore 8, 2) := by decide +kernel
theorem d_Pt_fold_45 : decode m_Pt_fold.2.2.1 45 = .ok (.iload 8, 2) := by decide +kernel
theorem d_Pt_fold_47 : decode m_Pt_fold.2.2.1 47 = .ok (.sipush (6145), 3) := by decide +kernel
theorem d_Pt_fold_50 : decode m_Pt_fold.2.2.1 50 = .ok (.invokestatic 33, 3) := by decide +kernel
theorem d_Pt_fold_53 : decode m_Pt_fold.2.2.1 53 = .ok (.ireturn, 1) := by decide +kernel
theorem d_Pf_init_0 : decode m_Pf_init.2.2.1 0 = .ok (.aload_n 0, 1) := by decide +kernel
theorem d_Pf_init_1 : decode m_Pf_init.2.2.1 1 = .ok (.invokespecial 3, 3) := by decide +kernel
theorem d_Pf_init_4 : decode m_Pf_init.2.2.1 4 = .ok (.aload_n 0, 1) := by decide +kernel
theorem d_Pf_init_5 : decode m_Pf_init.2.2.1 5 = .ok (.sipush (179), 3) := by decide +kernel
theorem d_Pf_init_8 : decode m_Pf_init.2.2.1 8 = .ok (.newarray .int, 2) := by decide +kernel
theorem d_Pf_init_10 : decode m_Pf_init.2.2.1 10 = .ok (.putfield 11, 3) := by decide +kernel
theorem d_Pf_init_13 : decode m_Pf_init.2.2.1 13 = .ok (.return_, 1) := by decide +kernel
theorem d_Pf_columnStart_0 : decode m_Pf_columnStart.2.2.1 0 = .ok (.iconst 5, 1) := by decide +kernel
theorem d_Pf_columnStart_1 : decode m_Pf_columnStart.2.2.1 1 = .ok (.bipush (58), 2) := by decide +kernel
theorem d_Pf_columnStart_3 : decode m_Pf_columnStart.2.2.1 3 = .ok (.iload_n 0, 1) := by decide +kernel
theorem d_Pf_columnStart_4 : decode m_Pf_columnStart.2.2.1 4 = .ok (.imul, 1) := by decide +kernel
theorem d_Pf_columnStart_5 : decode m_Pf_columnStart.2.2.1 5 = .ok (.iadd, 1) := by decide +kernel
theorem d_Pf_columnStart_6 : decode m_Pf_columnStart.2.2.1 6 = .ok (.bipush (7), 2) := by decide +kernel
theorem d_Pf_columnStart_8 : decode m_Pf_columnStart.2.2.1 8 = .ok (.iload_n 1, 1) := by decide +kernel
theorem d_Pf_columnStart_9 : decode m_Pf_columnStart.2.2.1 9 = .ok (.imul, 1) := by decide +kernel
theorem d_Pf_columnStart_10 : decode m_Pf_columnStart.2.2.1 10 = .ok (.iadd, 1) := by decide +kernel
theorem d_Pf_columnStart_11 : decode m_Pf_columnStart.2.2.1 11 = .ok (.ireturn, 1) := by decide +kernel
theorem d_Pf_columnIndex_0 : decode m_Pf_columnIndex.2.2.1 0 = .ok (.iload_n 0, 1) := by decide +kernel
theorem d_Pf_columnIndex_1 : decode m_Pf_columnIndex.2.2.1 1 = .ok (.getstatic 15, 3) := by decide +kernel
theorem d_Pf_columnIndex_4 : decode m_Pf_columnIndex.2.2.1 4 = .ok (.iload_n 1, 1) := by decide +kernel
theorem d_Pf_columnIndex_5 : decode m_Pf_columnIndex.2.2.1 5 = .ok (.iaload, 1) := by decide +kernel
theorem d_Pf_columnIndex_6 : decode m_Pf_columnIndex.2.2.1 6 = .ok (.iadd, 1) := by decide +kernel
theorem d_Pf_columnIndex_7 : decode m_Pf_columnIndex.2.2.1 7 = .ok (.bipush (32), 2) := by decide +kernel
theorem d_Pf_columnIndex_9 : decode m_Pf_columnIndex.2.2.1 9 = .ok (.irem, 1) := by decide +kernel
theorem d_Pf_columnIndex_10 : decode m_Pf_columnIndex.2.2.1 10 = .ok (.ireturn, 1) := by decide +kernel
theorem d_Pf_layerStart_0 : decode m_Pf_layerStart.2.2.1 0 = .ok (.iconst 5, 1) := by decide +kernel
theorem d_Pf_layerStart_1 : decode m_Pf_layerStart.2.2.1 1 = .ok (.bipush (58), 2) := by decide +kernel
theorem d_Pf_layerStart_3 : decode m_Pf_layerStart.2.2.1 3 = .ok (.iload_n 0, 1) := by decide +kernel
theorem d_Pf_layerStart_4 : decode m_Pf_layerStart.2.2.1 4 = .ok (.imul, 1) := by decide +kernel
theorem d_Pf_layerStart_5 : decode m_Pf_layerStart.2.2.1 5 = .ok (.iadd, 1) := by decide +kernel
theorem d_Pf_layerStart_6 : decode m_Pf_layerStart.2.2.1 6 = .ok (.getstatic 18, 3) := by decide +kernel
theorem d_Pf_layerStart_9 : decode m_Pf_layerStart.2.2.1 9 = .ok (.iload_n 1, 1) := by decide +kernel
theorem d_Pf_layerStart_10 : decode m_Pf_layerStart.2.2.1 10 = .ok (.iaload, 1) := by decide +kernel
theorem d_Pf_layerStart_11 : decode m_Pf_layerStart.2.2.1 11 = .ok (.iadd, 1) := by decide +kernel
theorem d_Pf_layerStart_12 : decode m_Pf_layerStart.2.2.1 12 = .ok (.bipush (6), 2) := by decide +kernel
theorem d_Pf_layerStart_14 : decode m_Pf_layerStart.2.2.1 14 = .ok (.iload_n 1, 1) := by decide +kernel
theorem d_Pf_layerStart_15 : decode m_Pf_layerStart.2.2.1 15 = .ok (.isub, 1) := by decide +kernel
theorem d_Pf_layerStart_16 : decode m_Pf_layerStart.2.2.1 16 = .ok (.iload_n 2, 1) := by decide +kernel
theorem d_Pf_layerStart_17 : decode m_Pf_layerStart.2.2.1 17 = .ok (.imul, 1) := by decide +kernel
theorem d_Pf_layerStart_18 : decode m_Pf_layerStart.2.2.1 18 = .ok (.iadd, 1) := by decide +kernel
theorem d_Pf_layerStart_19 : decode m_Pf_layerStart.2.2.1 19 = .ok (.ireturn, 1) := by decide +kernel
theorem d_Pf_layerIndex_0 : decode m_Pf_layerIndex.2.2.1 0 = .ok (.iload_n 1, 1) := by decide +kernel
theorem d_Pf_layerIndex_1 : decode m_Pf_layerIndex.2.2.1 1 = .ok (.invokestatic 21, 3) := by decide +kernel
theorem d_Pf_layerIndex_4 : decode m_Pf_layerIndex.2.2.1 4 = .ok (.iconst 2, 1) := by decide +kernel
theorem d_Pf_layerIndex_5 : decode m_Pf_layerIndex.2.2.1 5 = .ok (.idiv, 1) := by decide +kernel
theorem d_Pf_layerIndex_6 : decode m_Pf_layerIndex.2.2.1 6 = .ok (.istore_n 3, 1) := by decide +kernel
theorem d_Pf_layerIndex_7 : decode m_Pf_layerIndex.2.2.1 7 = .ok (.iload_n 0, 1) := by decide +kernel
theorem d_Pf_layerIndex_8 : decode m_Pf_layerIndex.2.2.1 8 = .ok (.iload_n 3, 1) := by decide +kernel
theorem d_Pf_layerIndex_9 : decode m_Pf_layerIndex.2.2.1 9 = .ok (.irem, 1) := by decide +kernel
theorem d_Pf_layerIndex_10 : decode m_Pf_layerIndex.2.2.1 10 = .ok (.iload_n 3, 1) := by decide +kernel
theorem d_Pf_layerIndex_11 : decode m_Pf_layerIndex.2.2.1 11 = .ok (.iload_n 2, 1) := by decide +kernel
theorem d_Pf_layerIndex_12 : decode m_Pf_layerIndex.2.2.1 12 = .ok (.imul, 1) := by decide +kernel
theorem d_Pf_layerIndex_13 : decode m_Pf_layerIndex.2.2.1 13 = .ok (.iadd, 1) := by decide +kernel
theorem d_Pf_layerIndex_14 : decode m_Pf_layerIndex.2.2.1 14 = .ok (.ireturn, 1) := by decide +kernel
theorem d_Pf_layerSize_0 : decode m_Pf_layerSize.2.2.1 0 = .ok (.bipush (32), 2) := by decide +kernel
theorem d_Pf_layerSize_2 : decode m_Pf_layerSize.2.2.1 2 = .ok (.iload_n 0, 1) := by decide +kernel
theorem d_Pf_layerSize_3 : decode m_Pf_layerSize.2.2.1 3 = .ok (.ishr, 1) := by decide +kernel
theorem d_Pf_layerSize_4 : decode m_Pf_layerSize.2.2.1 4 = .ok (.ireturn, 1) := by decide +kernel
theorem d_Pf_columnLeaf_0 : decode m_Pf_columnLeaf.2.2.1 0 = .ok (.iload_n 0, 1) := by decide +kernel
theorem d_Pf_columnLeaf_1 : decode m_Pf_columnLeaf.2.2.1 1 = .ok (.iload_n 1, 1) := by decide +kernel
theorem d_Pf_columnLeaf_2 : decode m_Pf_columnLeaf.2.2.1 2 = .ok (.invokestatic 25, 3) := by decide +kernel
theorem d_Pf_columnLeaf_5 : decode m_Pf_columnLeaf.2.2.1 5 = .ok (.ireturn, 1) := by decide +kernel
theorem d_Pf_layerLeaf_0 : decode m_Pf_layerLeaf.2.2.1 0 = .ok (.iload_n 0, 1) := by decide +kernel
theorem d_Pf_layerLeaf_1 : decode m_Pf_layerLeaf.2.2.1 1 = .ok (.sipush (12289), 3) := by decide +kernel
theorem d_Pf_layerLeaf_4 : decode m_Pf_layerLeaf.2.2.1 4 = .ok (.invokestatic 25, 3) := by decide +kernel
theorem d_Pf_layerLeaf_7 : decode m_Pf_layerLeaf.2.2.1 7 = .ok (.ireturn, 1) := by decide +kernel
theorem d_Pf_isInField_0 : decode m_Pf_isInField.2.2.1 0 = .ok (.aload_n 0, 1) := by decide +kernel
theorem d_Pf_isInField_1 : decode m_Pf_isInField.2.2.1 1 = .ok (.getfield 11, 3) := by decide +kernel
theorem d_Pf_isInField_4 : decode m_Pf_isInField.2.2.1 4 = .ok (.iconst 4, 1) := by decide +kernel
theorem d_Pf_isInField_5 : decode m_Pf_isInField.2.2.1 5 = .ok (.iaload, 1) := by decide +kernel
theorem d_Pf_isInField_6 : decode m_Pf_isInField.2.2.1 6 = .ok (.invokestatic 31, 3) := by decide +kernel
theorem d_Pf_isInField_9 : decode m_Pf_isInField.2.2.1 9 = .ok (.ifCond .ne (5), 3) := by decide +kernel
theorem d_Pf_isInField_12 : decode m_Pf_isInField.2.2.1 12 = .ok (.iconst 0, 1) := by decide +kernel
theorem d_Pf_isInField_13 : decode m_Pf_isInField.2.2.1 13 = .ok (.ireturn, 1) := by decide +kernel
theorem d_Pf_isInField_14 : decode m_Pf_isInField.2.2.1 14 = .ok (.iconst 0, 1) := by decide +kernel
theorem d_Pf_isInField_15 : decode m_Pf_isInField.2.2.1 15 = .ok (.istore_n 1, 1) := by decide +kernel
theorem d_Pf_isInField_16 : decode m_Pf_isInField.2.2.1 16 = .ok (.iload_n 1, 1) := by decide +kernel
theorem d_Pf_isInField_17 : decode m_Pf_isInField.2.2.1 17 = .ok (.iconst 3, 1) := by decide +kernel
theorem d_Pf_isInField_18 : decode m_Pf_isInField.2.2.1 18 = .ok (.if_icmp .ge (27), 3) := by decide +kernel
theorem d_Pf_isInField_21 : decode m_Pf_isInField.2.2.1 21 = .ok (.aload_n 0, 1) := by decide +kernel
theorem d_Pf_isInField_22 : decode m_Pf_isInField.2.2.1 22 = .ok (.iload_n 1, 1) := by decide +kernel
theorem d_Pf_isInField_23 : decode m_Pf_isInField.2.2.1 23 = .ok (.invokevirtual 35, 3) := by decide +kernel
theorem d_Pf_isInField_26 : decode m_Pf_isInField.2.2.1 26 = .ok (.ifCond .eq (11), 3) := by decide +kernel
theorem d_Pf_isInField_29 : decode m_Pf_isInField.2.2.1 29 = .ok (.aload_n 0, 1) := by decide +kernel
theorem d_Pf_isInField_30 : decode m_Pf_isInField.2.2.1 30 = .ok (.iload_n 1, 1) := by decide +kernel
theorem d_Pf_isInField_31 : decode m_Pf_isInField.2.2.1 31 = .ok (.invokevirtual 38, 3) := by decide +kernel
theorem d_Pf_isInField_34 : decode m_Pf_isInField.2.2.1 34 = .ok (.ifCond .ne (5), 3) := by decide +kernel
theorem d_Pf_isInField_37 : decode m_Pf_isInField.2.2.1 37 = .ok (.iconst 0, 1) := by decide +kernel
theorem d_Pf_isInField_38 : decode m_Pf_isInField.2.2.1 38 = .ok (.ireturn, 1) := by decide +kernel
theorem d_Pf_isInField_39 : decode m_Pf_isInField.2.2.1 39 = .ok (.iinc 1 (1), 3) := by decide +kernel
theorem d_Pf_isInField_42 : decode m_Pf_isInField.2.2.1 42 = .ok (.goto (-26), 3) := by decide +kernel
theorem d_Pf_isInField_45 : decode m_Pf_isInField.2.2.1 45 = .ok (.iconst 1, 1) := by decide +kernel
theorem d_Pf_isInField_46 : decode m_Pf_isInField.2.2.1 46 = .ok (.ireturn, 1) := by decide +kernel
theorem d_Pf_areColumnsInField_0 : decode m_Pf_areColumnsInField.2.2.1 0 = .ok (.iconst 0, 1) := by decide +kernel
theorem d_Pf_areColumnsInField_1 : decode m_Pf_areColumnsInField.2.2.1 1 = .ok (.istore_n 2, 1) := by decide +kernel
theorem d_Pf_areColumnsInField_2 : decode m_Pf_areColumnsInField.2.2.1 2 = .ok (.iload_n 2, 1) := by decide +kernel
theorem d_Pf_areColumnsInField_3 : decode m_Pf_areColumnsInField.2.2.1 3 = .ok (.iconst 4, 1) := by decide +kernel
theorem d_Pf_areColumnsInField_4 : decode m_Pf_areColumnsInField.2.2.1 4 = .ok (.if_icmp .ge (43), 3) := by decide +kernel
theorem d_Pf_areColumnsInField_7 : decode m_Pf_areColumnsInField.2.2.1 7 = .ok (.iload_n 1, 1) := by decide +kernel
theorem d_Pf_areColumnsInField_8 : decode m_Pf_areColumnsInField.2.2.1 8 = .ok (.iload_n 2, 1) := by decide +kernel
theorem d_Pf_areColumnsInField_9 : decode m_Pf_areColumnsInField.2.2.1 9 = .ok (.invokestatic 41, 3) := by decide +kernel
theorem d_Pf_areColumnsInField_12 : decode m_Pf_areColumnsInField.2.2.1 12 = .ok (.istore_n 3, 1) := by decide +kernel
theorem d_Pf_areColumnsInField_13 : decode m_Pf_areColumnsInField.2.2.1 13 = .ok (.aload_n 0, 1) := by decide +kernel
theorem d_Pf_areColumnsInField_14 : decode m_Pf_areColumnsInField.2.2.1 14 = .ok (.getfield 11, 3) := by decide +kernel
theorem d_Pf_areColumnsInField_17 : decode m_Pf_areColumnsInField.2.2.1 17 = .ok (.iload_n 3, 1) := by decide +kernel
theorem d_Pf_areColumnsInField_18 : decode m_Pf_areColumnsInField.2.2.1 18 = .ok (.iaload, 1) := by decide +kernel
theorem d_Pf_areColumnsInField_19 : decode m_Pf_areColumnsInField.2.2.1 19 = .ok (.invokestatic 31, 3) := by decide +kernel
theorem d_Pf_areColumnsInField_22 : decode m_Pf_areColumnsInField.2.2.1 22 = .ok (.ifCond .eq (17), 3) := by decide +kernel
theorem d_Pf_areColumnsInField_25 : decode m_Pf_areColumnsInField.2.2.1 25 = .ok (.aload_n 0, 1) := by decide +kernel
theorem d_Pf_areColumnsInField_26 : decode m_Pf_areColumnsInField.2.2.1 26 = .ok (.getfield 11, 3) := by decide +kernel
theorem d_Pf_areColumnsInField_29 : decode m_Pf_areColumnsInField.2.2.1 29 = .ok (.iload_n 3, 1) := by decide +kernel
theorem d_Pf_areColumnsInField_30 : decode m_Pf_areColumnsInField.2.2.1 30 = .ok (.iconst 1, 1) := by decide +kernel
theorem d_Pf_areColumnsInField_31 : decode m_Pf_areColumnsInField.2.2.1 31 = .ok (.iadd, 1) := by decide +kernel
theorem d_Pf_areColumnsInField_32 : decode m_Pf_areColumnsInField.2.2.1 32 = .ok (.iaload, 1) := by decide +kernel
theorem d_Pf_areColumnsInField_33 : decode m_Pf_areColumnsInField.2.2.1 33 = .ok (.invokestatic 31, 3) := by decide +kernel
theorem d_Pf_areColumnsInField_36 : decode m_Pf_areColumnsInField.2.2.1 36 = .ok (.ifCond .ne (5), 3) := by decide +kernel
theorem d_Pf_areColumnsInField_39 : decode m_Pf_areColumnsInField.2.2.1 39 = .ok (.iconst 0, 1) := by decide +kernel
theorem d_Pf_areColumnsInField_40 : decode m_Pf_areColumnsInField.2.2.1 40 = .ok (.ireturn, 1) := by decide +kernel
theorem d_Pf_areColumnsInField_41 : decode m_Pf_areColumnsInField.2.2.1 41 = .ok (.iinc 2 (1), 3) := by decide +kernel
theorem d_Pf_areColumnsInField_44 : decode m_Pf_areColumnsInField.2.2.1 44 = .ok (.goto (-42), 3) := by decide +kernel
theorem d_Pf_areColumnsInField_47 : decode m_Pf_areColumnsInField.2.2.1 47 = .ok (.iconst 1, 1) := by decide +kernel
theorem d_Pf_areColumnsInField_48 : decode m_Pf_areColumnsInField.2.2.1 48 = .ok (.ireturn, 1) := by decide +kernel
theorem d_Pf_areLayersInField_0 : decode m_Pf_areLayersInField.2.2.1 0 = .ok (.iconst 0, 1) := by decide +kernel
theorem d_Pf_areLayersInField_1 : decode m_Pf_areLayersInField.2.2.1 1 = .ok (.istore_n 2, 1) := by decide +kernel
theorem d_Pf_areLayersInField_2 : decode m_Pf_areLayersInField.2.2.1 2 = .ok (.iload_n 2, 1) := by decide +kernel
theorem d_Pf_areLayersInField_3 : decode m_Pf_areLayersInField.2.2.1 3 = .ok (.iconst 3, 1) := by decide +kernel
theorem d_Pf_areLayersInField_4 : decode m_Pf_areLayersInField.2.2.1 4 = .ok (.if_icmp .ge (41), 3) := by decide +kernel
theorem d_Pf_areLayersInField_7 : decode m_Pf_areLayersInField.2.2.1 7 = .ok (.iconst 0, 1) := by decide +kernel
theorem d_Pf_areLayersInField_8 : decode m_Pf_areLayersInField.2.2.1 8 = .ok (.istore_n 3, 1) := by decide +kernel
theorem d_Pf_areLayersInField_9 : decode m_Pf_areLayersInField.2.2.1 9 = .ok (.iload_n 3, 1) := by decide +kernel
theorem d_Pf_areLayersInField_10 : decode m_Pf_areLayersInField.2.2.1 10 = .ok (.iconst 2, 1) := by decide +kernel
theorem d_Pf_areLayersInField_11 : decode m_Pf_areLayersInField.2.2.1 11 = .ok (.if_icmp .ge (28), 3) := by decide +kernel
theorem d_Pf_areLayersInField_14 : decode m_Pf_areLayersInField.2.2.1 14 = .ok (.aload_n 0, 1) := by decide +kernel
theorem d_Pf_areLayersInField_15 : decode m_Pf_areLayersInField.2.2.1 15 = .ok (.getfield 11, 3) := by decide +kernel
theorem d_Pf_areLayersInField_18 : decode m_Pf_areLayersInField.2.2.1 18 = .ok (.iload_n 1, 1) := by decide +kernel
theorem d_Pf_areLayersInField_19 : decode m_Pf_areLayersInField.2.2.1 19 = .ok (.iload_n 2, 1) := by decide +kernel
theorem d_Pf_areLayersInField_20 : decode m_Pf_areLayersInField.2.2.1 20 = .ok (.iload_n 3, 1) := by decide +kernel
theorem d_Pf_areLayersInField_21 : decode m_Pf_areLayersInField.2.2.1 21 = .ok (.invokestatic 44, 3) := by decide +kernel
theorem d_Pf_areLayersInField_24 : decode m_Pf_areLayersInField.2.2.1 24 = .ok (.iaload, 1) := by decide +kernel
theorem d_Pf_areLayersInField_25 : decode m_Pf_areLayersInField.2.2.1 25 = .ok (.invokestatic 31, 3) := by decide +kernel
theorem d_Pf_areLayersInField_28 : decode m_Pf_areLayersInField.2.2.1 28 = .ok (.ifCond .ne (5), 3) := by decide +kernel
theorem d_Pf_areLayersInField_31 : decode m_Pf_areLayersInField.2.2.1 31 = .ok (.iconst 0, 1) := by decide +kernel
theorem d_Pf_areLayersInField_32 : decode m_Pf_areLayersInField.2.2.1 32 = .ok (.ireturn, 1) := by decide +kernel
theorem d_Pf_areLayersInField_33 : decode m_Pf_areLayersInField.2.2.1 33 = .ok (.iinc 3 (1), 3) := by decide +kernel
theorem d_Pf_areLayersInField_36 : decode m_Pf_areLayersInField.2.2.1 36 = .ok (.goto (-27), 3) := by decide +kernel
theorem d_Pf_areLayersInField_39 : decode m_Pf_areLayersInField.2.2.1 39 = .ok (.iinc 2 (1), 3) := by decide +kernel
theorem d_Pf_areLayersInField_42 : decode m_Pf_areLayersInField.2.2.1 42 = .ok (.goto (-40), 3) := by decide +kernel
theorem d_Pf_areLayersInField_45 : decode m_Pf_areLayersInField.2.2.1 45 = .ok (.iconst 1, 1) := by decide +kernel
theorem d_Pf_areLayersInField_46 : decode m_Pf_areLayersInField.2.2.1 46 = .ok (.ireturn, 1) := by decide +kernel
theorem d_Pr_init_0 : decode m_Pr_init.2.2.1 0 = .ok (.aload_n 0, 1) := by decide +kernel
theorem d_Pr_init_1 : decode m_Pr_init.2.2.1 1 = .ok (.invokespecial 3, 3) := by decide +kernel
theorem d_Pr_init_4 : decode m_Pr_init.2.2.1 4 = .ok (.aload_n 0, 1) := by decide +kernel
theorem d_Pr_init_5 : decode m_Pr_init.2.2.1 5 = .ok (.new 9, 3) := by decide +kernel
theorem d_Pr_init_8 : decode m_Pr_init.2.2.1 8 = .ok (.dup, 1) := by decide +kernel
theorem d_Pr_init_9 : decode m_Pr_init.2.2.1 9 = .ok (.invokespecial 11, 3) := by decide +kernel
theorem d_Pr_init_12 : decode m_Pr_init.2.2.1 12 = .ok (.putfield 12, 3) := by decide +kernel
theorem d_Pr_init_15 : decode m_Pr_init.2.2.1 15 = .ok (.aload_n 0, 1) := by decide +kernel
theorem d_Pr_init_16 : decode m_Pr_init.2.2.1 16 = .ok (.iconst 2, 1) := by decide +kernel
theorem d_Pr_init_17 : decode m_Pr_init.2.2.1 17 = .ok (.bipush (32), 2) := by decide +kernel
theorem d_Pr_init_19 : decode m_Pr_init.2.2.1 19 = .ok (.multianewarray 18 2, 4) := by decide +kernel
theorem d_Pr_init_23 : decode m_Pr_init.2.2.1 23 = .ok (.putfield 20, 3) := by decide +kernel
theorem d_Pr_init_26 : decode m_Pr_init.2.2.1 26 = .ok (.aload_n 0, 1) := by decide +kernel
theorem d_Pr_init_27 : decode m_Pr_init.2.2.1 27 = .ok (.iconst 3, 1) := by decide +kernel
theorem d_Pr_init_28 : decode m_Pr_init.2.2.1 28 = .ok (.bipush (32), 2) := by decide +kernel
theorem d_Pr_init_30 : decode m_Pr_init.2.2.1 30 = .ok (.multianewarray 18 2, 4) := by decide +kernel
theorem d_Pr_init_34 : decode m_Pr_init.2.2.1 34 = .ok (.putfield 23, 3) := by decide +kernel
theorem d_Pr_init_37 : decode m_Pr_init.2.2.1 37 = .ok (.aload_n 0, 1) := by decide +kernel
theorem d_Pr_init_38 : decode m_Pr_init.2.2.1 38 = .ok (.new 26, 3) := by decide +kernel
theorem d_Pr_init_41 : decode m_Pr_init.2.2.1 41 = .ok (.dup, 1) := by decide +kernel
theorem d_Pr_init_42 : decode m_Pr_init.2.2.1 42 = .ok (.bipush (32), 2) := by decide +kernel
theorem d_Pr_init_44 : decode m_Pr_init.2.2.1 44 = .ok (.invokespecial 28, 3) := by decide +kernel
theorem d_Pr_init_47 : decode m_Pr_init.2.2.1 47 = .ok (.putfield 31, 3) := by decide +kernel
theorem d_Pr_init_50 : decode m_Pr_init.2.2.1 50 = .ok (.aload_n 0, 1) := by decide +kernel
theorem d_Pr_init_51 : decode m_Pr_init.2.2.1 51 = .ok (.iconst 3, 1) := by decide +kernel
theorem d_Pr_init_52 : decode m_Pr_init.2.2.1 52 = .ok (.anewarray 26, 3) := by decide +kernel
theorem d_Pr_init_55 : decode m_Pr_init.2.2.1 55 = .ok (.putfield 35, 3) := by decide +kernel
theorem d_Pr_init_58 : decode m_Pr_init.2.2.1 58 = .ok (.aload_n 0, 1) := by decide +kernel
theorem d_Pr_init_59 : decode m_Pr_init.2.2.1 59 = .ok (.aload_n 1, 1) := by decide +kernel
theorem d_Pr_init_60 : decode m_Pr_init.2.2.1 60 = .ok (.putfield 39, 3) := by decide +kernel
theorem d_Pr_init_63 : decode m_Pr_init.2.2.1 63 = .ok (.aload_n 0, 1) := by decide +kernel
theorem d_Pr_init_64 : decode m_Pr_init.2.2.1 64 = .ok (.aload_n 2, 1) := by decide +kernel
theorem d_Pr_init_65 : decode m_Pr_init.2.2.1 65 = .ok (.putfield 43, 3) := by decide +kernel
theorem d_Pr_init_68 : decode m_Pr_init.2.2.1 68 = .ok (.aload_n 0, 1) := by decide +kernel
theorem d_Pr_init_69 : decode m_Pr_init.2.2.1 69 = .ok (.aload_n 3, 1) := by decide +kernel
theorem d_Pr_init_70 : decode m_Pr_init.2.2.1 70 = .ok (.putfield 47, 3) := by decide +kernel
theorem d_Pr_init_73 : decode m_Pr_init.2.2.1 73 = .ok (.iconst 0, 1) := by decide +kernel
theorem d_Pr_init_74 : decode m_Pr_init.2.2.1 74 = .ok (.istore 4, 2) := by decide +kernel
theorem d_Pr_init_76 : decode m_Pr_init.2.2.1 76 = .ok (.iload 4, 2) := by decide +kernel
theorem d_Pr_init_78 : decode m_Pr_init.2.2.1 78 = .ok (.iconst 3, 1) := by decide +kernel
theorem d_Pr_init_79 : decode m_Pr_init.2.2.1 79 = .ok (.if_icmp .ge (28), 3) := by decide +kernel
theorem d_Pr_init_82 : decode m_Pr_init.2.2.1 82 = .ok (.aload_n 0, 1) := by decide +kernel
theorem d_Pr_init_83 : decode m_Pr_init.2.2.1 83 = .ok (.getfield 35, 3) := by decide +kernel
theorem d_Pr_init_86 : decode m_Pr_init.2.2.1 86 = .ok (.iload 4, 2) := by decide +kernel
theorem d_Pr_init_88 : decode m_Pr_init.2.2.1 88 = .ok (.new 26, 3) := by decide +kernel
theorem d_Pr_init_91 : decode m_Pr_init.2.2.1 91 = .ok (.dup, 1) := by decide +kernel
theorem d_Pr_init_92 : decode m_Pr_init.2.2.1 92 = .ok (.iload 4, 2) := by decide +kernel
theorem d_Pr_init_94 : decode m_Pr_init.2.2.1 94 = .ok (.invokestatic 51, 3) := by decide +kernel
theorem d_Pr_init_97 : decode m_Pr_init.2.2.1 97 = .ok (.invokespecial 28, 3) := by decide +kernel
theorem d_Pr_init_100 : decode m_Pr_init.2.2.1 100 = .ok (.aastore, 1) := by decide +kernel
theorem d_Pr_init_101 : decode m_Pr_init.2.2.1 101 = .ok (.iinc 4 (1), 3) := by decide +kernel
theorem d_Pr_init_104 : decode m_Pr_init.2.2.1 104 = .ok (.goto (-28), 3) := by decide +kernel
theorem d_Pr_init_107 : decode m_Pr_init.2.2.1 107 = .ok (.return_, 1) := by decide +kernel
theorem d_Pr_writeTo_0 : decode m_Pr_writeTo.2.2.1 0 = .ok (.aload_n 1, 1) := by decide +kernel
theorem d_Pr_writeTo_1 : decode m_Pr_writeTo.2.2.1 1 = .ok (.getfield 57, 3) := by decide +kernel
theorem d_Pr_writeTo_4 : decode m_Pr_writeTo.2.2.1 4 = .ok (.iconst 0, 1) := by decide +kernel
theorem d_Pr_writeTo_5 : decode m_Pr_writeTo.2.2.1 5 = .ok (.aload_n 0, 1) := by decide +kernel
theorem d_Pr_writeTo_6 : decode m_Pr_writeTo.2.2.1 6 = .ok (.invokevirtual 61, 3) := by decide +kernel
theorem d_Pr_writeTo_9 : decode m_Pr_writeTo.2.2.1 9 = .ok (.iastore, 1) := by decide +kernel
theorem d_Pr_writeTo_10 : decode m_Pr_writeTo.2.2.1 10 = .ok (.aload_n 0, 1) := by decide +kernel
theorem d_Pr_writeTo_11 : decode m_Pr_writeTo.2.2.1 11 = .ok (.getfield 12, 3) := by decide +kernel
theorem d_Pr_writeTo_14 : decode m_Pr_writeTo.2.2.1 14 = .ok (.aload_n 0, 1) := by decide +kernel
theorem d_Pr_writeTo_15 : decode m_Pr_writeTo.2.2.1 15 = .ok (.getfield 43, 3) := by decide +kernel
theorem d_Pr_writeTo_18 : decode m_Pr_writeTo.2.2.1 18 = .ok (.aload_n 1, 1) := by decide +kernel
theorem d_Pr_writeTo_19 : decode m_Pr_writeTo.2.2.1 19 = .ok (.getfield 57, 3) := by decide +kernel
theorem d_Pr_writeTo_22 : decode m_Pr_writeTo.2.2.1 22 = .ok (.iconst 0, 1) := by decide +kernel
theorem d_Pr_writeTo_23 : decode m_Pr_writeTo.2.2.1 23 = .ok (.iaload, 1) := by decide +kernel
theorem d_Pr_writeTo_24 : decode m_Pr_writeTo.2.2.1 24 = .ok (.invokevirtual 65, 3) := by decide +kernel
theorem d_Pr_writeTo_27 : decode m_Pr_writeTo.2.2.1 27 = .ok (.aload_n 0, 1) := by decide +kernel
theorem d_Pr_writeTo_28 : decode m_Pr_writeTo.2.2.1 28 = .ok (.invokevirtual 69, 3) := by decide +kernel
theorem d_Pr_writeTo_31 : decode m_Pr_writeTo.2.2.1 31 = .ok (.iconst 0, 1) := by decide +kernel
theorem d_Pr_writeTo_32 : decode m_Pr_writeTo.2.2.1 32 = .ok (.istore_n 2, 1) := by decide +kernel
theorem d_Pr_writeTo_33 : decode m_Pr_writeTo.2.2.1 33 = .ok (.iload_n 2, 1) := by decide +kernel
theorem d_Pr_writeTo_34 : decode m_Pr_writeTo.2.2.1 34 = .ok (.iconst 3, 1) := by decide +kernel
theorem d_Pr_writeTo_35 : decode m_Pr_writeTo.2.2.1 35 = .ok (.if_icmp .ge (47), 3) := by decide +kernel
theorem d_Pr_writeTo_38 : decode m_Pr_writeTo.2.2.1 38 = .ok (.iload_n 2, 1) := by decide +kernel
theorem d_Pr_writeTo_39 : decode m_Pr_writeTo.2.2.1 39 = .ok (.ifCond .le (8), 3) := by decide +kernel
theorem d_Pr_writeTo_42 : decode m_Pr_writeTo.2.2.1 42 = .ok (.aload_n 0, 1) := by decide +kernel
theorem d_Pr_writeTo_43 : decode m_Pr_writeTo.2.2.1 43 = .ok (.iload_n 2, 1) := by decide +kernel
theorem d_Pr_writeTo_44 : decode m_Pr_writeTo.2.2.1 44 = .ok (.invokevirtual 72, 3) := by decide +kernel
theorem d_Pr_writeTo_47 : decode m_Pr_writeTo.2.2.1 47 = .ok (.aload_n 1, 1) := by decide +kernel
theorem d_Pr_writeTo_48 : decode m_Pr_writeTo.2.2.1 48 = .ok (.getfield 57, 3) := by decide +kernel
theorem d_Pr_writeTo_51 : decode m_Pr_writeTo.2.2.1 51 = .ok (.iconst 1, 1) := by decide +kernel
theorem d_Pr_writeTo_52 : decode m_Pr_writeTo.2.2.1 52 = .ok (.iload_n 2, 1) := by decide +kernel
theorem d_Pr_writeTo_53 : decode m_Pr_writeTo.2.2.1 53 = .ok (.iadd, 1) := by decide +kernel
theorem d_Pr_writeTo_54 : decode m_Pr_writeTo.2.2.1 54 = .ok (.aload_n 0, 1) := by decide +kernel
theorem d_Pr_writeTo_55 : decode m_Pr_writeTo.2.2.1 55 = .ok (.iload_n 2, 1) := by decide +kernel
theorem d_Pr_writeTo_56 : decode m_Pr_writeTo.2.2.1 56 = .ok (.invokevirtual 75, 3) := by decide +kernel
theorem d_Pr_writeTo_59 : decode m_Pr_writeTo.2.2.1 59 = .ok (.iastore, 1) := by decide +kernel
theorem d_Pr_writeTo_60 : decode m_Pr_writeTo.2.2.1 60 = .ok (.aload_n 0, 1) := by decide +kernel
theorem d_Pr_writeTo_61 : decode m_Pr_writeTo.2.2.1 61 = .ok (.getfield 12, 3) := by decide +kernel
theorem d_Pr_writeTo_64 : decode m_Pr_writeTo.2.2.1 64 = .ok (.iload_n 2, 1) := by decide +kernel
theorem d_Pr_writeTo_65 : decode m_Pr_writeTo.2.2.1 65 = .ok (.aload_n 1, 1) := by decide +kernel
theorem d_Pr_writeTo_66 : decode m_Pr_writeTo.2.2.1 66 = .ok (.getfield 57, 3) := by decide +kernel
theorem d_Pr_writeTo_69 : decode m_Pr_writeTo.2.2.1 69 = .ok (.iconst 1, 1) := by decide +kernel
theorem d_Pr_writeTo_70 : decode m_Pr_writeTo.2.2.1 70 = .ok (.iload_n 2, 1) := by decide +kernel
theorem d_Pr_writeTo_71 : decode m_Pr_writeTo.2.2.1 71 = .ok (.iadd, 1) := by decide +kernel
theorem d_Pr_writeTo_72 : decode m_Pr_writeTo.2.2.1 72 = .ok (.iaload, 1) := by decide +kernel
theorem d_Pr_writeTo_73 : decode m_Pr_writeTo.2.2.1 73 = .ok (.invokevirtual 78, 3) := by decide +kernel
theorem d_Pr_writeTo_76 : decode m_Pr_writeTo.2.2.1 76 = .ok (.iinc 2 (1), 3) := by decide +kernel
theorem d_Pr_writeTo_79 : decode m_Pr_writeTo.2.2.1 79 = .ok (.goto (-46), 3) := by decide +kernel
theorem d_Pr_writeTo_82 : decode m_Pr_writeTo.2.2.1 82 = .ok (.aload_n 1, 1) := by decide +kernel
theorem d_Pr_writeTo_83 : decode m_Pr_writeTo.2.2.1 83 = .ok (.getfield 57, 3) := by decide +kernel
theorem d_Pr_writeTo_86 : decode m_Pr_writeTo.2.2.1 86 = .ok (.iconst 4, 1) := by decide +kernel
theorem d_Pr_writeTo_87 : decode m_Pr_writeTo.2.2.1 87 = .ok (.aload_n 0, 1) := by decide +kernel
theorem d_Pr_writeTo_88 : decode m_Pr_writeTo.2.2.1 88 = .ok (.iconst 2, 1) := by decide +kernel
theorem d_Pr_writeTo_89 : decode m_Pr_writeTo.2.2.1 89 = .ok (.iconst 0, 1) := by decide +kernel
theorem d_Pr_writeTo_90 : decode m_Pr_writeTo.2.2.1 90 = .ok (.invokevirtual 82, 3) := by decide +kernel
theorem d_Pr_writeTo_93 : decode m_Pr_writeTo.2.2.1 93 = .ok (.iastore, 1) := by decide +kernel
theorem d_Pr_writeTo_94 : decode m_Pr_writeTo.2.2.1 94 = .ok (.aload_n 0, 1) := by decide +kernel
theorem d_Pr_writeTo_95 : decode m_Pr_writeTo.2.2.1 95 = .ok (.getfield 12, 3) := by decide +kernel
theorem d_Pr_writeTo_98 : decode m_Pr_writeTo.2.2.1 98 = .ok (.aload_n 1, 1) := by decide +kernel
theorem d_Pr_writeTo_99 : decode m_Pr_writeTo.2.2.1 99 = .ok (.getfield 57, 3) := by decide +kernel
theorem d_Pr_writeTo_102 : decode m_Pr_writeTo.2.2.1 102 = .ok (.iconst 4, 1) := by decide +kernel
theorem d_Pr_writeTo_103 : decode m_Pr_writeTo.2.2.1 103 = .ok (.iaload, 1) := by decide +kernel
theorem d_Pr_writeTo_104 : decode m_Pr_writeTo.2.2.1 104 = .ok (.invokevirtual 86, 3) := by decide +kernel
theorem d_Pr_writeTo_107 : decode m_Pr_writeTo.2.2.1 107 = .ok (.iconst 0, 1) := by decide +kernel
theorem d_Pr_writeTo_108 : decode m_Pr_writeTo.2.2.1 108 = .ok (.istore_n 2, 1) := by decide +kernel
theorem d_Pr_writeTo_109 : decode m_Pr_writeTo.2.2.1 109 = .ok (.iload_n 2, 1) := by decide +kernel
theorem d_Pr_writeTo_110 : decode m_Pr_writeTo.2.2.1 110 = .ok (.iconst 3, 1) := by decide +kernel
theorem d_Pr_writeTo_111 : decode m_Pr_writeTo.2.2.1 111 = .ok (.if_icmp .ge (27), 3) := by decide +kernel
theorem d_Pr_writeTo_114 : decode m_Pr_writeTo.2.2.1 114 = .ok (.aload_n 0, 1) := by decide +kernel
theorem d_Pr_writeTo_115 : decode m_Pr_writeTo.2.2.1 115 = .ok (.aload_n 1, 1) := by decide +kernel
theorem d_Pr_writeTo_116 : decode m_Pr_writeTo.2.2.1 116 = .ok (.getfield 57, 3) := by decide +kernel
theorem d_Pr_writeTo_119 : decode m_Pr_writeTo.2.2.1 119 = .ok (.iload_n 2, 1) := by decide +kernel
theorem d_Pr_writeTo_120 : decode m_Pr_writeTo.2.2.1 120 = .ok (.invokevirtual 89, 3) := by decide +kernel
theorem d_Pr_writeTo_123 : decode m_Pr_writeTo.2.2.1 123 = .ok (.aload_n 0, 1) := by decide +kernel
theorem d_Pr_writeTo_124 : decode m_Pr_writeTo.2.2.1 124 = .ok (.aload_n 1, 1) := by decide +kernel
theorem d_Pr_writeTo_125 : decode m_Pr_writeTo.2.2.1 125 = .ok (.getfield 57, 3) := by decide +kernel
theorem d_Pr_writeTo_128 : decode m_Pr_writeTo.2.2.1 128 = .ok (.iload_n 2, 1) := by decide +kernel
theorem d_Pr_writeTo_129 : decode m_Pr_writeTo.2.2.1 129 = .ok (.invokevirtual 93, 3) := by decide +kernel
theorem d_Pr_writeTo_132 : decode m_Pr_writeTo.2.2.1 132 = .ok (.iinc 2 (1), 3) := by decide +kernel
theorem d_Pr_writeTo_135 : decode m_Pr_writeTo.2.2.1 135 = .ok (.goto (-26), 3) := by decide +kernel
theorem d_Pr_writeTo_138 : decode m_Pr_writeTo.2.2.1 138 = .ok (.return_, 1) := by decide +kernel
theorem d_Pr_commitColumns_0 : decode m_Pr_commitColumns.2.2.1 0 = .ok (.iconst 0, 1) := by decide +kernel
theorem d_Pr_commitColumns_1 : decode m_Pr_commitColumns.2.2.1 1 = .ok (.istore_n 1, 1) := by decide +kernel
theorem d_Pr_commitColumns_2 : decode m_Pr_commitColumns.2.2.1 2 = .ok (.iload_n 1, 1) := by decide +kernel
theorem d_Pr_commitColumns_3 : decode m_Pr_commitColumns.2.2.1 3 = .ok (.bipush (32), 2) := by decide +kernel
theorem d_Pr_commitColumns_5 : decode m_Pr_commitColumns.2.2.1 5 = .ok (.if_icmp .ge (70), 3) := by decide +kernel
theorem d_Pr_commitColumns_8 : decode m_Pr_commitColumns.2.2.1 8 = .ok (.aload_n 0, 1) := by decide +kernel
theorem d_Pr_commitColumns_9 : decode m_Pr_commitColumns.2.2.1 9 = .ok (.getfield 20, 3) := by decide +kernel
theorem d_Pr_commitColumns_12 : decode m_Pr_commitColumns.2.2.1 12 = .ok (.iconst 0, 1) := by decide +kernel
theorem d_Pr_commitColumns_13 : decode m_Pr_commitColumns.2.2.1 13 = .ok (.aaload, 1) := by decide +kernel
theorem d_Pr_commitColumns_14 : decode m_Pr_commitColumns.2.2.1 14 = .ok (.iload_n 1, 1) := by decide +kernel
theorem d_Pr_commitColumns_15 : decode m_Pr_commitColumns.2.2.1 15 = .ok (.aload_n 0, 1) := by decide +kernel
theorem d_Pr_commitColumns_16 : decode m_Pr_commitColumns.2.2.1 16 = .ok (.getfield 47, 3) := by decide +kernel
theorem d_Pr_commitColumns_19 : decode m_Pr_commitColumns.2.2.1 19 = .ok (.iconst 0, 1) := by decide +kernel
theorem d_Pr_commitColumns_20 : decode m_Pr_commitColumns.2.2.1 20 = .ok (.iload_n 1, 1) := by decide +kernel
theorem d_Pr_commitColumns_21 : decode m_Pr_commitColumns.2.2.1 21 = .ok (.invokevirtual 96, 3) := by decide +kernel
theorem d_Pr_commitColumns_24 : decode m_Pr_commitColumns.2.2.1 24 = .ok (.iastore, 1) := by decide +kernel
theorem d_Pr_commitColumns_25 : decode m_Pr_commitColumns.2.2.1 25 = .ok (.aload_n 0, 1) := by decide +kernel
theorem d_Pr_commitColumns_26 : decode m_Pr_commitColumns.2.2.1 26 = .ok (.getfield 20, 3) := by decide +kernel
theorem d_Pr_commitColumns_29 : decode m_Pr_commitColumns.2.2.1 29 = .ok (.iconst 1, 1) := by decide +kernel
theorem d_Pr_commitColumns_30 : decode m_Pr_commitColumns.2.2.1 30 = .ok (.aaload, 1) := by decide +kernel
theorem d_Pr_commitColumns_31 : decode m_Pr_commitColumns.2.2.1 31 = .ok (.iload_n 1, 1) := by decide +kernel
theorem d_Pr_commitColumns_32 : decode m_Pr_commitColumns.2.2.1 32 = .ok (.aload_n 0, 1) := by decide +kernel
theorem d_Pr_commitColumns_33 : decode m_Pr_commitColumns.2.2.1 33 = .ok (.getfield 47, 3) := by decide +kernel
theorem d_Pr_commitColumns_36 : decode m_Pr_commitColumns.2.2.1 36 = .ok (.iconst 1, 1) := by decide +kernel
theorem d_Pr_commitColumns_37 : decode m_Pr_commitColumns.2.2.1 37 = .ok (.iload_n 1, 1) := by decide +kernel
theorem d_Pr_commitColumns_38 : decode m_Pr_commitColumns.2.2.1 38 = .ok (.invokevirtual 96, 3) := by decide +kernel
theorem d_Pr_commitColumns_41 : decode m_Pr_commitColumns.2.2.1 41 = .ok (.iastore, 1) := by decide +kernel
theorem d_Pr_commitColumns_42 : decode m_Pr_commitColumns.2.2.1 42 = .ok (.aload_n 0, 1) := by decide +kernel
theorem d_Pr_commitColumns_43 : decode m_Pr_commitColumns.2.2.1 43 = .ok (.getfield 31, 3) := by decide +kernel
theorem d_Pr_commitColumns_46 : decode m_Pr_commitColumns.2.2.1 46 = .ok (.iload_n 1, 1) := by decide +kernel
theorem d_Pr_commitColumns_47 : decode m_Pr_commitColumns.2.2.1 47 = .ok (.aload_n 0, 1) := by decide +kernel
theorem d_Pr_commitColumns_48 : decode m_Pr_commitColumns.2.2.1 48 = .ok (.getfield 20, 3) := by decide +kernel
theorem d_Pr_commitColumns_51 : decode m_Pr_commitColumns.2.2.1 51 = .ok (.iconst 0, 1) := by decide +kernel
theorem d_Pr_commitColumns_52 : decode m_Pr_commitColumns.2.2.1 52 = .ok (.aaload, 1) := by decide +kernel
theorem d_Pr_commitColumns_53 : decode m_Pr_commitColumns.2.2.1 53 = .ok (.iload_n 1, 1) := by decide +kernel
theorem d_Pr_commitColumns_54 : decode m_Pr_commitColumns.2.2.1 54 = .ok (.iaload, 1) := by decide +kernel
theorem d_Pr_commitColumns_55 : decode m_Pr_commitColumns.2.2.1 55 = .ok (.aload_n 0, 1) := by decide +kernel
theorem d_Pr_commitColumns_56 : decode m_Pr_commitColumns.2.2.1 56 = .ok (.getfield 20, 3) := by decide +kernel
theorem d_Pr_commitColumns_59 : decode m_Pr_commitColumns.2.2.1 59 = .ok (.iconst 1, 1) := by decide +kernel
theorem d_Pr_commitColumns_60 : decode m_Pr_commitColumns.2.2.1 60 = .ok (.aaload, 1) := by decide +kernel
theorem d_Pr_commitColumns_61 : decode m_Pr_commitColumns.2.2.1 61 = .ok (.iload_n 1, 1) := by decide +kernel
theorem d_Pr_commitColumns_62 : decode m_Pr_commitColumns.2.2.1 62 = .ok (.iaload, 1) := by decide +kernel
theorem d_Pr_commitColumns_63 : decode m_Pr_commitColumns.2.2.1 63 = .ok (.invokestatic 101, 3) := by decide +kernel
theorem d_Pr_commitColumns_66 : decode m_Pr_commitColumns.2.2.1 66 = .ok (.invokevirtual 104, 3) := by decide +kernel
theorem d_Pr_commitColumns_69 : decode m_Pr_commitColumns.2.2.1 69 = .ok (.iinc 1 (1), 3) := by decide +kernel
theorem d_Pr_commitColumns_72 : decode m_Pr_commitColumns.2.2.1 72 = .ok (.goto (-70), 3) := by decide +kernel
theorem d_Pr_commitColumns_75 : decode m_Pr_commitColumns.2.2.1 75 = .ok (.aload_n 0, 1) := by decide +kernel
theorem d_Pr_commitColumns_76 : decode m_Pr_commitColumns.2.2.1 76 = .ok (.getfield 31, 3) := by decide +kernel
theorem d_Pr_commitColumns_79 : decode m_Pr_commitColumns.2.2.1 79 = .ok (.invokevirtual 107, 3) := by decide +kernel
theorem d_Pr_commitColumns_82 : decode m_Pr_commitColumns.2.2.1 82 = .ok (.ireturn, 1) := by decide +kernel
theorem d_Pr_compose_0 : decode m_Pr_compose.2.2.1 0 = .ok (.iconst 0, 1) := by decide +kernel
theorem d_Pr_compose_1 : decode m_Pr_compose.2.2.1 1 = .ok (.istore_n 1, 1) := by decide +kernel
theorem d_Pr_compose_2 : decode m_Pr_compose.2.2.1 2 = .ok (.iload_n 1, 1) := by decide +kernel
theorem d_Pr_compose_3 : decode m_Pr_compose.2.2.1 3 = .ok (.bipush (32), 2) := by decide +kernel
theorem d_Pr_compose_5 : decode m_Pr_compose.2.2.1 5 = .ok (.if_icmp .ge (76), 3) := by decide +kernel
theorem d_Pr_compose_8 : decode m_Pr_compose.2.2.1 8 = .ok (.iload_n 1, 1) := by decide +kernel
theorem d_Pr_compose_9 : decode m_Pr_compose.2.2.1 9 = .ok (.invokestatic 110, 3) := by decide +kernel
theorem d_Pr_compose_12 : decode m_Pr_compose.2.2.1 12 = .ok (.istore_n 2, 1) := by decide +kernel
theorem d_Pr_compose_13 : decode m_Pr_compose.2.2.1 13 = .ok (.aload_n 0, 1) := by decide +kernel
theorem d_Pr_compose_14 : decode m_Pr_compose.2.2.1 14 = .ok (.getfield 43, 3) := by decide +kernel
theorem d_Pr_compose_17 : decode m_Pr_compose.2.2.1 17 = .ok (.aload_n 0, 1) := by decide +kernel
theorem d_Pr_compose_18 : decode m_Pr_compose.2.2.1 18 = .ok (.getfield 20, 3) := by decide +kernel
theorem d_Pr_compose_21 : decode m_Pr_compose.2.2.1 21 = .ok (.iconst 0, 1) := by decide +kernel
theorem d_Pr_compose_22 : decode m_Pr_compose.2.2.1 22 = .ok (.aaload, 1) := by decide +kernel
theorem d_Pr_compose_23 : decode m_Pr_compose.2.2.1 23 = .ok (.iload_n 1, 1) := by decide +kernel
theorem d_Pr_compose_24 : decode m_Pr_compose.2.2.1 24 = .ok (.iaload, 1) := by decide +kernel
theorem d_Pr_compose_25 : decode m_Pr_compose.2.2.1 25 = .ok (.aload_n 0, 1) := by decide +kernel
theorem d_Pr_compose_26 : decode m_Pr_compose.2.2.1 26 = .ok (.getfield 20, 3) := by decide +kernel
theorem d_Pr_compose_29 : decode m_Pr_compose.2.2.1 29 = .ok (.iconst 1, 1) := by decide +kernel
theorem d_Pr_compose_30 : decode m_Pr_compose.2.2.1 30 = .ok (.aaload, 1) := by decide +kernel
theorem d_Pr_compose_31 : decode m_Pr_compose.2.2.1 31 = .ok (.iload_n 1, 1) := by decide +kernel
theorem d_Pr_compose_32 : decode m_Pr_compose.2.2.1 32 = .ok (.iaload, 1) := by decide +kernel
theorem d_Pr_compose_33 : decode m_Pr_compose.2.2.1 33 = .ok (.aload_n 0, 1) := by decide +kernel
theorem d_Pr_compose_34 : decode m_Pr_compose.2.2.1 34 = .ok (.getfield 20, 3) := by decide +kernel
theorem d_Pr_compose_37 : decode m_Pr_compose.2.2.1 37 = .ok (.iconst 0, 1) := by decide +kernel
theorem d_Pr_compose_38 : decode m_Pr_compose.2.2.1 38 = .ok (.aaload, 1) := by decide +kernel
theorem d_Pr_compose_39 : decode m_Pr_compose.2.2.1 39 = .ok (.iload_n 2, 1) := by decide +kernel
theorem d_Pr_compose_40 : decode m_Pr_compose.2.2.1 40 = .ok (.iaload, 1) := by decide +kernel
theorem d_Pr_compose_41 : decode m_Pr_compose.2.2.1 41 = .ok (.aload_n 0, 1) := by decide +kernel
theorem d_Pr_compose_42 : decode m_Pr_compose.2.2.1 42 = .ok (.getfield 20, 3) := by decide +kernel
theorem d_Pr_compose_45 : decode m_Pr_compose.2.2.1 45 = .ok (.iconst 1, 1) := by decide +kernel
theorem d_Pr_compose_46 : decode m_Pr_compose.2.2.1 46 = .ok (.aaload, 1) := by decide +kernel
theorem d_Pr_compose_47 : decode m_Pr_compose.2.2.1 47 = .ok (.iload_n 2, 1) := by decide +kernel
theorem d_Pr_compose_48 : decode m_Pr_compose.2.2.1 48 = .ok (.iaload, 1) := by decide +kernel
theorem d_Pr_compose_49 : decode m_Pr_compose.2.2.1 49 = .ok (.invokevirtual 115, 3) := by decide +kernel
theorem d_Pr_compose_52 : decode m_Pr_compose.2.2.1 52 = .ok (.aload_n 0, 1) := by decide +kernel
theorem d_Pr_compose_53 : decode m_Pr_compose.2.2.1 53 = .ok (.getfield 23, 3) := by decide +kernel
theorem d_Pr_compose_56 : decode m_Pr_compose.2.2.1 56 = .ok (.iconst 0, 1) := by decide +kernel
theorem d_Pr_compose_57 : decode m_Pr_compose.2.2.1 57 = .ok (.aaload, 1) := by decide +kernel
theorem d_Pr_compose_58 : decode m_Pr_compose.2.2.1 58 = .ok (.iload_n 1, 1) := by decide +kernel
theorem d_Pr_compose_59 : decode m_Pr_compose.2.2.1 59 = .ok (.aload_n 0, 1) := by decide +kernel
theorem d_Pr_compose_60 : decode m_Pr_compose.2.2.1 60 = .ok (.getfield 43, 3) := by decide +kernel
theorem d_Pr_compose_63 : decode m_Pr_compose.2.2.1 63 = .ok (.iload_n 1, 1) := by decide +kernel
theorem d_Pr_compose_64 : decode m_Pr_compose.2.2.1 64 = .ok (.aload_n 0, 1) := by decide +kernel
theorem d_Pr_compose_65 : decode m_Pr_compose.2.2.1 65 = .ok (.getfield 12, 3) := by decide +kernel
theorem d_Pr_compose_68 : decode m_Pr_compose.2.2.1 68 = .ok (.getfield 121, 3) := by decide +kernel
theorem d_Pr_compose_71 : decode m_Pr_compose.2.2.1 71 = .ok (.invokevirtual 125, 3) := by decide +kernel
theorem d_Pr_compose_74 : decode m_Pr_compose.2.2.1 74 = .ok (.iastore, 1) := by decide +kernel
theorem d_Pr_compose_75 : decode m_Pr_compose.2.2.1 75 = .ok (.iinc 1 (1), 3) := by decide +kernel
theorem d_Pr_compose_78 : decode m_Pr_compose.2.2.1 78 = .ok (.goto (-76), 3) := by decide +kernel
theorem d_Pr_compose_81 : decode m_Pr_compose.2.2.1 81 = .ok (.return_, 1) := by decide +kernel
theorem d_Pr_foldInto_0 : decode m_Pr_foldInto.2.2.1 0 = .ok (.iconst 0, 1) := by decide +kernel
theorem d_Pr_foldInto_1 : decode m_Pr_foldInto.2.2.1 1 = .ok (.istore_n 2, 1) := by decide +kernel
theorem d_Pr_foldInto_2 : decode m_Pr_foldInto.2.2.1 2 = .ok (.iload_n 2, 1) := by decide +kernel
theorem d_Pr_foldInto_3 : decode m_Pr_foldInto.2.2.1 3 = .ok (.iload_n 1, 1) := by decide +kernel
theorem d_Pr_foldInto_4 : decode m_Pr_foldInto.2.2.1 4 = .ok (.invokestatic 51, 3) := by decide +kernel
theorem d_Pr_foldInto_7 : decode m_Pr_foldInto.2.2.1 7 = .ok (.if_icmp .ge (25), 3) := by decide +kernel
theorem d_Pr_foldInto_10 : decode m_Pr_foldInto.2.2.1 10 = .ok (.aload_n 0, 1) := by decide +kernel
theorem d_Pr_foldInto_11 : decode m_Pr_foldInto.2.2.1 11 = .ok (.getfield 23, 3) := by decide +kernel
theorem d_Pr_foldInto_14 : decode m_Pr_foldInto.2.2.1 14 = .ok (.iload_n 1, 1) := by decide +kernel
theorem d_Pr_foldInto_15 : decode m_Pr_foldInto.2.2.1 15 = .ok (.aaload, 1) := by decide +kernel
theorem d_Pr_foldInto_16 : decode m_Pr_foldInto.2.2.1 16 = .ok (.iload_n 2, 1) := by decide +kernel
theorem d_Pr_foldInto_17 : decode m_Pr_foldInto.2.2.1 17 = .ok (.aload_n 0, 1) := by decide +kernel
theorem d_Pr_foldInto_18 : decode m_Pr_foldInto.2.2.1 18 = .ok (.iload_n 1, 1) := by decide +kernel
theorem d_Pr_foldInto_19 : decode m_Pr_foldInto.2.2.1 19 = .ok (.iconst 1, 1) := by decide +kernel
theorem d_Pr_foldInto_20 : decode m_Pr_foldInto.2.2.1 20 = .ok (.isub, 1) := by decide +kernel
theorem d_Pr_foldInto_21 : decode m_Pr_foldInto.2.2.1 21 = .ok (.iload_n 2, 1) := by decide +kernel
theorem d_Pr_foldInto_22 : decode m_Pr_foldInto.2.2.1 22 = .ok (.invokevirtual 82, 3) := by decide +kernel
theorem d_Pr_foldInto_25 : decode m_Pr_foldInto.2.2.1 25 = .ok (.iastore, 1) := by decide +kernel
theorem d_Pr_foldInto_26 : decode m_Pr_foldInto.2.2.1 26 = .ok (.iinc 2 (1), 3) := by decide +kernel
theorem d_Pr_foldInto_29 : decode m_Pr_foldInto.2.2.1 29 = .ok (.goto (-27), 3) := by decide +kernel
theorem d_Pr_foldInto_32 : decode m_Pr_foldInto.2.2.1 32 = .ok (.return_, 1) := by decide +kernel
theorem d_Pr_folded_0 : decode m_Pr_folded.2.2.1 0 = .ok (.iload_n 2, 1) := by decide +kernel
theorem d_Pr_folded_1 : decode m_Pr_folded.2.2.1 1 = .ok (.iload_n 1, 1) := by decide +kernel
theorem d_Pr_folded_2 : decode m_Pr_folded.2.2.1 2 = .ok (.invokestatic 51, 3) := by decide +kernel
theorem d_Pr_folded_5 : decode m_Pr_folded.2.2.1 5 = .ok (.iconst 2, 1) := by decide +kernel
theorem d_Pr_folded_6 : decode m_Pr_folded.2.2.1 6 = .ok (.idiv, 1) := by decide +kernel
theorem d_Pr_folded_7 : decode m_Pr_folded.2.2.1 7 = .ok (.iadd, 1) := by decide +kernel
theorem d_Pr_folded_8 : decode m_Pr_folded.2.2.1 8 = .ok (.istore_n 3, 1) := by decide +kernel
theorem d_Pr_folded_9 : decode m_Pr_folded.2.2.1 9 = .ok (.aload_n 0, 1) := by decide +kernel
theorem d_Pr_folded_10 : decode m_Pr_folded.2.2.1 10 = .ok (.getfield 39, 3) := by decide +kernel
theorem d_Pr_folded_13 : decode m_Pr_folded.2.2.1 13 = .ok (.iload_n 1, 1) := by decide +kernel
theorem d_Pr_folded_14 : decode m_Pr_folded.2.2.1 14 = .ok (.iload_n 2, 1) := by decide +kernel
theorem d_Pr_folded_15 : decode m_Pr_folded.2.2.1 15 = .ok (.aload_n 0, 1) := by decide +kernel
theorem d_Pr_folded_16 : decode m_Pr_folded.2.2.1 16 = .ok (.getfield 23, 3) := by decide +kernel
theorem d_Pr_folded_19 : decode m_Pr_folded.2.2.1 19 = .ok (.iload_n 1, 1) := by decide +kernel
theorem d_Pr_folded_20 : decode m_Pr_folded.2.2.1 20 = .ok (.aaload, 1) := by decide +kernel
theorem d_Pr_folded_21 : decode m_Pr_folded.2.2.1 21 = .ok (.iload_n 2, 1) := by decide +kernel
theorem d_Pr_folded_22 : decode m_Pr_folded.2.2.1 22 = .ok (.iaload, 1) := by decide +kernel
theorem d_Pr_folded_23 : decode m_Pr_folded.2.2.1 23 = .ok (.aload_n 0, 1) := by decide +kernel
theorem d_Pr_folded_24 : decode m_Pr_folded.2.2.1 24 = .ok (.getfield 23, 3) := by decide +kernel
theorem d_Pr_folded_27 : decode m_Pr_folded.2.2.1 27 = .ok (.iload_n 1, 1) := by decide +kernel
theorem d_Pr_folded_28 : decode m_Pr_folded.2.2.1 28 = .ok (.aaload, 1) := by decide +kernel
theorem d_Pr_folded_29 : decode m_Pr_folded.2.2.1 29 = .ok (.iload_n 3, 1) := by decide +kernel
theorem d_Pr_folded_30 : decode m_Pr_folded.2.2.1 30 = .ok (.iaload, 1) := by decide +kernel
theorem d_Pr_folded_31 : decode m_Pr_folded.2.2.1 31 = .ok (.aload_n 0, 1) := by decide +kernel
theorem d_Pr_folded_32 : decode m_Pr_folded.2.2.1 32 = .ok (.getfield 12, 3) := by decide +kernel
theorem d_Pr_folded_35 : decode m_Pr_folded.2.2.1 35 = .ok (.getfield 128, 3) := by decide +kernel
theorem d_Pr_folded_38 : decode m_Pr_folded.2.2.1 38 = .ok (.iload_n 1, 1) := by decide +kernel
theorem d_Pr_folded_39 : decode m_Pr_folded.2.2.1 39 = .ok (.iaload, 1) := by decide +kernel
theorem d_Pr_folded_40 : decode m_Pr_folded.2.2.1 40 = .ok (.invokevirtual 131, 3) := by decide +kernel
theorem d_Pr_folded_43 : decode m_Pr_folded.2.2.1 43 = .ok (.ireturn, 1) := by decide +kernel
theorem d_Pr_commitLayer_0 : decode m_Pr_commitLayer.2.2.1 0 = .ok (.aload_n 0, 1) := by decide +kernel
theorem d_Pr_commitLayer_1 : decode m_Pr_commitLayer.2.2.1 1 = .ok (.getfield 35, 3) := by decide +kernel
theorem d_Pr_commitLayer_4 : decode m_Pr_commitLayer.2.2.1 4 = .ok (.iload_n 1, 1) := by decide +kernel
theorem d_Pr_commitLayer_5 : decode m_Pr_commitLayer.2.2.1 5 = .ok (.aaload, 1) := by decide +kernel
theorem d_Pr_commitLayer_6 : decode m_Pr_commitLayer.2.2.1 6 = .ok (.astore_n 2, 1) := by decide +kernel
theorem d_Pr_commitLayer_7 : decode m_Pr_commitLayer.2.2.1 7 = .ok (.iconst 0, 1) := by decide +kernel
theorem d_Pr_commitLayer_8 : decode m_Pr_commitLayer.2.2.1 8 = .ok (.istore_n 3, 1) := by decide +kernel
theorem d_Pr_commitLayer_9 : decode m_Pr_commitLayer.2.2.1 9 = .ok (.iload_n 3, 1) := by decide +kernel
theorem d_Pr_commitLayer_10 : decode m_Pr_commitLayer.2.2.1 10 = .ok (.iload_n 1, 1) := by decide +kernel
theorem d_Pr_commitLayer_11 : decode m_Pr_commitLayer.2.2.1 11 = .ok (.invokestatic 51, 3) := by decide +kernel
theorem d_Pr_commitLayer_14 : decode m_Pr_commitLayer.2.2.1 14 = .ok (.if_icmp .ge (25), 3) := by decide +kernel
theorem d_Pr_commitLayer_17 : decode m_Pr_commitLayer.2.2.1 17 = .ok (.aload_n 2, 1) := by decide +kernel
theorem d_Pr_commitLayer_18 : decode m_Pr_commitLayer.2.2.1 18 = .ok (.iload_n 3, 1) := by decide +kernel
theorem d_Pr_commitLayer_19 : decode m_Pr_commitLayer.2.2.1 19 = .ok (.aload_n 0, 1) := by decide +kernel
theorem d_Pr_commitLayer_20 : decode m_Pr_commitLayer.2.2.1 20 = .ok (.getfield 23, 3) := by decide +kernel
theorem d_Pr_commitLayer_23 : decode m_Pr_commitLayer.2.2.1 23 = .ok (.iload_n 1, 1) := by decide +kernel
theorem d_Pr_commitLayer_24 : decode m_Pr_commitLayer.2.2.1 24 = .ok (.aaload, 1) := by decide +kernel
theorem d_Pr_commitLayer_25 : decode m_Pr_commitLayer.2.2.1 25 = .ok (.iload_n 3, 1) := by decide +kernel
theorem d_Pr_commitLayer_26 : decode m_Pr_commitLayer.2.2.1 26 = .ok (.iaload, 1) := by decide +kernel
theorem d_Pr_commitLayer_27 : decode m_Pr_commitLayer.2.2.1 27 = .ok (.invokestatic 135, 3) := by decide +kernel
theorem d_Pr_commitLayer_30 : decode m_Pr_commitLayer.2.2.1 30 = .ok (.invokevirtual 104, 3) := by decide +kernel
theorem d_Pr_commitLayer_33 : decode m_Pr_commitLayer.2.2.1 33 = .ok (.iinc 3 (1), 3) := by decide +kernel
theorem d_Pr_commitLayer_36 : decode m_Pr_commitLayer.2.2.1 36 = .ok (.goto (-27), 3) := by decide +kernel
theorem d_Pr_commitLayer_39 : decode m_Pr_commitLayer.2.2.1 39 = .ok (.aload_n 2, 1) := by decide +kernel
theorem d_Pr_commitLayer_40 : decode m_Pr_commitLayer.2.2.1 40 = .ok (.invokevirtual 107, 3) := by decide +kernel
theorem d_Pr_commitLayer_43 : decode m_Pr_commitLayer.2.2.1 43 = .ok (.ireturn, 1) := by decide +kernel
theorem d_Pr_openColumns_0 : decode m_Pr_openColumns.2.2.1 0 = .ok (.iconst 0, 1) := by decide +kernel
theorem d_Pr_openColumns_1 : decode m_Pr_openColumns.2.2.1 1 = .ok (.istore_n 3, 1) := by decide +kernel
theorem d_Pr_openColumns_2 : decode m_Pr_openColumns.2.2.1 2 = .ok (.iload_n 3, 1) := by decide +kernel
theorem d_Pr_openColumns_3 : decode m_Pr_openColumns.2.2.1 3 = .ok (.iconst 4, 1) := by decide +kernel
theorem d_Pr_openColumns_4 : decode m_Pr_openColumns.2.2.1 4 = .ok (.if_icmp .ge (73), 3) := by decide +kernel
theorem d_Pr_openColumns_7 : decode m_Pr_openColumns.2.2.1 7 = .ok (.aload_n 0, 1) := by decide +kernel
theorem d_Pr_openColumns_8 : decode m_Pr_openColumns.2.2.1 8 = .ok (.getfield 12, 3) := by decide +kernel
theorem d_Pr_openColumns_11 : decode m_Pr_openColumns.2.2.1 11 = .ok (.getfield 138, 3) := by decide +kernel
theorem d_Pr_openColumns_14 : decode m_Pr_openColumns.2.2.1 14 = .ok (.iload_n 2, 1) := by decide +kernel
theorem d_Pr_openColumns_15 : decode m_Pr_openColumns.2.2.1 15 = .ok (.iaload, 1) := by decide +kernel
theorem d_Pr_openColumns_16 : decode m_Pr_openColumns.2.2.1 16 = .ok (.iload_n 3, 1) := by decide +kernel
theorem d_Pr_openColumns_17 : decode m_Pr_openColumns.2.2.1 17 = .ok (.invokestatic 141, 3) := by decide +kernel
theorem d_Pr_openColumns_20 : decode m_Pr_openColumns.2.2.1 20 = .ok (.istore 4, 2) := by decide +kernel
theorem d_Pr_openColumns_22 : decode m_Pr_openColumns.2.2.1 22 = .ok (.iload_n 2, 1) := by decide +kernel
theorem d_Pr_openColumns_23 : decode m_Pr_openColumns.2.2.1 23 = .ok (.iload_n 3, 1) := by decide +kernel
theorem d_Pr_openColumns_24 : decode m_Pr_openColumns.2.2.1 24 = .ok (.invokestatic 144, 3) := by decide +kernel
theorem d_Pr_openColumns_27 : decode m_Pr_openColumns.2.2.1 27 = .ok (.istore 5, 2) := by decide +kernel
theorem d_Pr_openColumns_29 : decode m_Pr_openColumns.2.2.1 29 = .ok (.aload_n 1, 1) := by decide +kernel
theorem d_Pr_openColumns_30 : decode m_Pr_openColumns.2.2.1 30 = .ok (.iload 5, 2) := by decide +kernel
theorem d_Pr_openColumns_32 : decode m_Pr_openColumns.2.2.1 32 = .ok (.aload_n 0, 1) := by decide +kernel
theorem d_Pr_openColumns_33 : decode m_Pr_openColumns.2.2.1 33 = .ok (.getfield 20, 3) := by decide +kernel
theorem d_Pr_openColumns_36 : decode m_Pr_openColumns.2.2.1 36 = .ok (.iconst 0, 1) := by decide +kernel
theorem d_Pr_openColumns_37 : decode m_Pr_openColumns.2.2.1 37 = .ok (.aaload, 1) := by decide +kernel
theorem d_Pr_openColumns_38 : decode m_Pr_openColumns.2.2.1 38 = .ok (.iload 4, 2) := by decide +kernel
theorem d_Pr_openColumns_40 : decode m_Pr_openColumns.2.2.1 40 = .ok (.iaload, 1) := by decide +kernel
theorem d_Pr_openColumns_41 : decode m_Pr_openColumns.2.2.1 41 = .ok (.iastore, 1) := by decide +kernel
theorem d_Pr_openColumns_42 : decode m_Pr_openColumns.2.2.1 42 = .ok (.aload_n 1, 1) := by decide +kernel
theorem d_Pr_openColumns_43 : decode m_Pr_openColumns.2.2.1 43 = .ok (.iload 5, 2) := by decide +kernel
theorem d_Pr_openColumns_45 : decode m_Pr_openColumns.2.2.1 45 = .ok (.iconst 1, 1) := by decide +kernel
theorem d_Pr_openColumns_46 : decode m_Pr_openColumns.2.2.1 46 = .ok (.iadd, 1) := by decide +kernel
theorem d_Pr_openColumns_47 : decode m_Pr_openColumns.2.2.1 47 = .ok (.aload_n 0, 1) := by decide +kernel
theorem d_Pr_openColumns_48 : decode m_Pr_openColumns.2.2.1 48 = .ok (.getfield 20, 3) := by decide +kernel
theorem d_Pr_openColumns_51 : decode m_Pr_openColumns.2.2.1 51 = .ok (.iconst 1, 1) := by decide +kernel
theorem d_Pr_openColumns_52 : decode m_Pr_openColumns.2.2.1 52 = .ok (.aaload, 1) := by decide +kernel
theorem d_Pr_openColumns_53 : decode m_Pr_openColumns.2.2.1 53 = .ok (.iload 4, 2) := by decide +kernel
theorem d_Pr_openColumns_55 : decode m_Pr_openColumns.2.2.1 55 = .ok (.iaload, 1) := by decide +kernel
theorem d_Pr_openColumns_56 : decode m_Pr_openColumns.2.2.1 56 = .ok (.iastore, 1) := by decide +kernel
theorem d_Pr_openColumns_57 : decode m_Pr_openColumns.2.2.1 57 = .ok (.aload_n 0, 1) := by decide +kernel
theorem d_Pr_openColumns_58 : decode m_Pr_openColumns.2.2.1 58 = .ok (.getfield 31, 3) := by decide +kernel
theorem d_Pr_openColumns_61 : decode m_Pr_openColumns.2.2.1 61 = .ok (.iload 4, 2) := by decide +kernel
theorem d_Pr_openColumns_63 : decode m_Pr_openColumns.2.2.1 63 = .ok (.aload_n 1, 1) := by decide +kernel
theorem d_Pr_openColumns_64 : decode m_Pr_openColumns.2.2.1 64 = .ok (.iload 5, 2) := by decide +kernel
theorem d_Pr_openColumns_66 : decode m_Pr_openColumns.2.2.1 66 = .ok (.iconst 2, 1) := by decide +kernel
theorem d_Pr_openColumns_67 : decode m_Pr_openColumns.2.2.1 67 = .ok (.iadd, 1) := by decide +kernel
theorem d_Pr_openColumns_68 : decode m_Pr_openColumns.2.2.1 68 = .ok (.invokevirtual 147, 3) := by decide +kernel
theorem d_Pr_openColumns_71 : decode m_Pr_openColumns.2.2.1 71 = .ok (.iinc 3 (1), 3) := by decide +kernel
theorem d_Pr_openColumns_74 : decode m_Pr_openColumns.2.2.1 74 = .ok (.goto (-72), 3) := by decide +kernel
theorem d_Pr_openColumns_77 : decode m_Pr_openColumns.2.2.1 77 = .ok (.return_, 1) := by decide +kernel
theorem d_Pr_openLayers_0 : decode m_Pr_openLayers.2.2.1 0 = .ok (.iconst 0, 1) := by decide +kernel
theorem d_Pr_openLayers_1 : decode m_Pr_openLayers.2.2.1 1 = .ok (.istore_n 3, 1) := by decide +kernel
theorem d_Pr_openLayers_2 : decode m_Pr_openLayers.2.2.1 2 = .ok (.iload_n 3, 1) := by decide +kernel
theorem d_Pr_openLayers_3 : decode m_Pr_openLayers.2.2.1 3 = .ok (.iconst 3, 1) := by decide +kernel
theorem d_Pr_openLayers_4 : decode m_Pr_openLayers.2.2.1 4 = .ok (.if_icmp .ge (79), 3) := by decide +kernel
theorem d_Pr_openLayers_7 : decode m_Pr_openLayers.2.2.1 7 = .ok (.iconst 0, 1) := by decide +kernel
theorem d_Pr_openLayers_8 : decode m_Pr_openLayers.2.2.1 8 = .ok (.istore 4, 2) := by decide +kernel
theorem d_Pr_openLayers_10 : decode m_Pr_openLayers.2.2.1 10 = .ok (.iload 4, 2) := by decide +kernel
theorem d_Pr_openLayers_12 : decode m_Pr_openLayers.2.2.1 12 = .ok (.iconst 2, 1) := by decide +kernel
theorem d_Pr_openLayers_13 : decode m_Pr_openLayers.2.2.1 13 = .ok (.if_icmp .ge (64), 3) := by decide +kernel
theorem d_Pr_openLayers_16 : decode m_Pr_openLayers.2.2.1 16 = .ok (.aload_n 0, 1) := by decide +kernel
theorem d_Pr_openLayers_17 : decode m_Pr_openLayers.2.2.1 17 = .ok (.getfield 12, 3) := by decide +kernel
theorem d_Pr_openLayers_20 : decode m_Pr_openLayers.2.2.1 20 = .ok (.getfield 138, 3) := by decide +kernel
theorem d_Pr_openLayers_23 : decode m_Pr_openLayers.2.2.1 23 = .ok (.iload_n 2, 1) := by decide +kernel
theorem d_Pr_openLayers_24 : decode m_Pr_openLayers.2.2.1 24 = .ok (.iaload, 1) := by decide +kernel
theorem d_Pr_openLayers_25 : decode m_Pr_openLayers.2.2.1 25 = .ok (.iload_n 3, 1) := by decide +kernel
theorem d_Pr_openLayers_26 : decode m_Pr_openLayers.2.2.1 26 = .ok (.iload 4, 2) := by decide +kernel
theorem d_Pr_openLayers_28 : decode m_Pr_openLayers.2.2.1 28 = .ok (.invokestatic 151, 3) := by decide +kernel
theorem d_Pr_openLayers_31 : decode m_Pr_openLayers.2.2.1 31 = .ok (.istore 5, 2) := by decide +kernel
theorem d_Pr_openLayers_33 : decode m_Pr_openLayers.2.2.1 33 = .ok (.iload_n 2, 1) := by decide +kernel
theorem d_Pr_openLayers_34 : decode m_Pr_openLayers.2.2.1 34 = .ok (.iload_n 3, 1) := by decide +kernel
theorem d_Pr_openLayers_35 : decode m_Pr_openLayers.2.2.1 35 = .ok (.iload 4, 2) := by decide +kernel
theorem d_Pr_openLayers_37 : decode m_Pr_openLayers.2.2.1 37 = .ok (.invokestatic 155, 3) := by decide +kernel
theorem d_Pr_openLayers_40 : decode m_Pr_openLayers.2.2.1 40 = .ok (.istore 6, 2) := by decide +kernel
theorem d_Pr_openLayers_42 : decode m_Pr_openLayers.2.2.1 42 = .ok (.aload_n 1, 1) := by decide +kernel
theorem d_Pr_openLayers_43 : decode m_Pr_openLayers.2.2.1 43 = .ok (.iload 6, 2) := by decide +kernel
theorem d_Pr_openLayers_45 : decode m_Pr_openLayers.2.2.1 45 = .ok (.aload_n 0, 1) := by decide +kernel
theorem d_Pr_openLayers_46 : decode m_Pr_openLayers.2.2.1 46 = .ok (.getfield 23, 3) := by decide +kernel
theorem d_Pr_openLayers_49 : decode m_Pr_openLayers.2.2.1 49 = .ok (.iload_n 3, 1) := by decide +kernel
theorem d_Pr_openLayers_50 : decode m_Pr_openLayers.2.2.1 50 = .ok (.aaload, 1) := by decide +kernel
theorem d_Pr_openLayers_51 : decode m_Pr_openLayers.2.2.1 51 = .ok (.iload 5, 2) := by decide +kernel
theorem d_Pr_openLayers_53 : decode m_Pr_openLayers.2.2.1 53 = .ok (.iaload, 1) := by decide +kernel
theorem d_Pr_openLayers_54 : decode m_Pr_openLayers.2.2.1 54 = .ok (.iastore, 1) := by decide +kernel
theorem d_Pr_openLayers_55 : decode m_Pr_openLayers.2.2.1 55 = .ok (.aload_n 0, 1) := by decide +kernel
theorem d_Pr_openLayers_56 : decode m_Pr_openLayers.2.2.1 56 = .ok (.getfield 35, 3) := by decide +kernel
theorem d_Pr_openLayers_59 : decode m_Pr_openLayers.2.2.1 59 = .ok (.iload_n 3, 1) := by decide +kernel
theorem d_Pr_openLayers_60 : decode m_Pr_openLayers.2.2.1 60 = .ok (.aaload, 1) := by decide +kernel
theorem d_Pr_openLayers_61 : decode m_Pr_openLayers.2.2.1 61 = .ok (.iload 5, 2) := by decide +kernel
theorem d_Pr_openLayers_63 : decode m_Pr_openLayers.2.2.1 63 = .ok (.aload_n 1, 1) := by decide +kernel
theorem d_Pr_openLayers_64 : decode m_Pr_openLayers.2.2.1 64 = .ok (.iload 6, 2) := by decide +kernel
theorem d_Pr_openLayers_66 : decode m_Pr_openLayers.2.2.1 66 = .ok (.iconst 1, 1) := by decide +kernel
theorem d_Pr_openLayers_67 : decode m_Pr_openLayers.2.2.1 67 = .ok (.iadd, 1) := by decide +kernel
theorem d_Pr_openLayers_68 : decode m_Pr_openLayers.2.2.1 68 = .ok (.invokevirtual 147, 3) := by decide +kernel
theorem d_Pr_openLayers_71 : decode m_Pr_openLayers.2.2.1 71 = .ok (.iinc 4 (1), 3) := by decide +kernel
theorem d_Pr_openLayers_74 : decode m_Pr_openLayers.2.2.1 74 = .ok (.goto (-64), 3) := by decide +kernel
theorem d_Pr_openLayers_77 : decode m_Pr_openLayers.2.2.1 77 = .ok (.iinc 3 (1), 3) := by decide +kernel
theorem d_Pr_openLayers_80 : decode m_Pr_openLayers.2.2.1 80 = .ok (.goto (-78), 3) := by decide +kernel
theorem d_Pr_openLayers_83 : decode m_Pr_openLayers.2.2.1 83 = .ok (.return_, 1) := by decide +kernel
theorem d_Ru_init_0 : decode m_Ru_init.2.2.1 0 = .ok (.aload_n 0, 1) := by decide +kernel
theorem d_Ru_init_1 : decode m_Ru_init.2.2.1 1 = .ok (.invokespecial 3, 3) := by decide +kernel
theorem d_Ru_init_4 : decode m_Ru_init.2.2.1 4 = .ok (.aload_n 0, 1) := by decide +kernel
theorem d_Ru_init_5 : decode m_Ru_init.2.2.1 5 = .ok (.iconst 2, 1) := by decide +kernel
theorem d_Ru_init_6 : decode m_Ru_init.2.2.1 6 = .ok (.newarray .int, 2) := by decide +kernel
theorem d_Ru_init_8 : decode m_Ru_init.2.2.1 8 = .ok (.putfield 11, 3) := by decide +kernel
theorem d_Ru_init_11 : decode m_Ru_init.2.2.1 11 = .ok (.aload_n 0, 1) := by decide +kernel
theorem d_Ru_init_12 : decode m_Ru_init.2.2.1 12 = .ok (.iconst 2, 1) := by decide +kernel
theorem d_Ru_init_13 : decode m_Ru_init.2.2.1 13 = .ok (.bipush (18), 2) := by decide +kernel
theorem d_Ru_init_15 : decode m_Ru_init.2.2.1 15 = .ok (.multianewarray 15 2, 4) := by decide +kernel
theorem d_Ru_init_19 : decode m_Ru_init.2.2.1 19 = .ok (.putfield 17, 3) := by decide +kernel
theorem d_Ru_init_22 : decode m_Ru_init.2.2.1 22 = .ok (.aload_n 0, 1) := by decide +kernel
theorem d_Ru_init_23 : decode m_Ru_init.2.2.1 23 = .ok (.bipush (12), 2) := by decide +kernel
theorem d_Ru_init_25 : decode m_Ru_init.2.2.1 25 = .ok (.newarray .int, 2) := by decide +kernel
theorem d_Ru_init_27 : decode m_Ru_init.2.2.1 27 = .ok (.putfield 20, 3) := by decide +kernel
theorem d_Ru_init_30 : decode m_Ru_init.2.2.1 30 = .ok (.aload_n 0, 1) := by decide +kernel
theorem d_Ru_init_31 : decode m_Ru_init.2.2.1 31 = .ok (.iconst 5, 1) := by decide +kernel
theorem d_Ru_init_32 : decode m_Ru_init.2.2.1 32 = .ok (.newarray .int, 2) := by decide +kernel
theorem d_Ru_init_34 : decode m_Ru_init.2.2.1 34 = .ok (.putfield 23, 3) := by decide +kernel
theorem d_Ru_init_37 : decode m_Ru_init.2.2.1 37 = .ok (.aload_n 0, 1) := by decide +kernel
theorem d_Ru_init_38 : decode m_Ru_init.2.2.1 38 = .ok (.aload_n 1, 1) := by decide +kernel
theorem d_Ru_init_39 : decode m_Ru_init.2.2.1 39 = .ok (.putfield 26, 3) := by decide +kernel
theorem d_Ru_init_42 : decode m_Ru_init.2.2.1 42 = .ok (.aload_n 0, 1) := by decide +kernel
theorem d_Ru_init_43 : decode m_Ru_init.2.2.1 43 = .ok (.iconst 0, 1) := by decide +kernel
theorem d_Ru_init_44 : decode m_Ru_init.2.2.1 44 = .ok (.putfield 30, 3) := by decide +kernel
theorem d_Ru_init_47 : decode m_Ru_init.2.2.1 47 = .ok (.aload_n 0, 1) := by decide +kernel
theorem d_Ru_init_48 : decode m_Ru_init.2.2.1 48 = .ok (.getfield 23, 3) := by decide +kernel
theorem d_Ru_init_51 : decode m_Ru_init.2.2.1 51 = .ok (.iconst 0, 1) := by decide +kernel
theorem d_Ru_init_52 : decode m_Ru_init.2.2.1 52 = .ok (.iconst 1, 1) := by decide +kernel
theorem d_Ru_init_53 : decode m_Ru_init.2.2.1 53 = .ok (.iastore, 1) := by decide +kernel
theorem d_Ru_init_54 : decode m_Ru_init.2.2.1 54 = .ok (.return_, 1) := by decide +kernel
theorem d_Ru_addTerm_0 : decode m_Ru_addTerm.2.2.1 0 = .ok (.aload_n 0, 1) := by decide +kernel
theorem d_Ru_addTerm_1 : decode m_Ru_addTerm.2.2.1 1 = .ok (.getfield 11, 3) := by decide +kernel
theorem d_Ru_addTerm_4 : decode m_Ru_addTerm.2.2.1 4 = .ok (.iload_n 1, 1) := by decide +kernel
theorem d_Ru_addTerm_5 : decode m_Ru_addTerm.2.2.1 5 = .ok (.iaload, 1) := by decide +kernel
theorem d_Ru_addTerm_6 : decode m_Ru_addTerm.2.2.1 6 = .ok (.bipush (6), 2) := by decide +kernel
theorem d_Ru_addTerm_8 : decode m_Ru_addTerm.2.2.1 8 = .ok (.if_icmp .lt (6), 3) := by decide +kernel
theorem d_Ru_addTerm_11 : decode m_Ru_addTerm.2.2.1 11 = .ok (.bipush (-3), 2) := by decide +kernel
theorem d_Ru_addTerm_13 : decode m_Ru_addTerm.2.2.1 13 = .ok (.ireturn, 1) := by decide +kernel
theorem d_Ru_addTerm_14 : decode m_Ru_addTerm.2.2.1 14 = .ok (.aload_n 0, 1) := by decide +kernel
theorem d_Ru_addTerm_15 : decode m_Ru_addTerm.2.2.1 15 = .ok (.getfield 17, 3) := by decide +kernel
theorem d_Ru_addTerm_18 : decode m_Ru_addTerm.2.2.1 18 = .ok (.iload_n 1, 1) := by decide +kernel
theorem d_Ru_addTerm_19 : decode m_Ru_addTerm.2.2.1 19 = .ok (.aaload, 1) := by decide +kernel
theorem d_Ru_addTerm_20 : decode m_Ru_addTerm.2.2.1 20 = .ok (.aload_n 0, 1) := by decide +kernel
theorem d_Ru_addTerm_21 : decode m_Ru_addTerm.2.2.1 21 = .ok (.getfield 11, 3) := by decide +kernel
theorem d_Ru_addTerm_24 : decode m_Ru_addTerm.2.2.1 24 = .ok (.iload_n 1, 1) := by decide +kernel
theorem d_Ru_addTerm_25 : decode m_Ru_addTerm.2.2.1 25 = .ok (.iaload, 1) := by decide +kernel
theorem d_Ru_addTerm_26 : decode m_Ru_addTerm.2.2.1 26 = .ok (.iload_n 2, 1) := by decide +kernel
theorem d_Ru_addTerm_27 : decode m_Ru_addTerm.2.2.1 27 = .ok (.iload_n 3, 1) := by decide +kernel
theorem d_Ru_addTerm_28 : decode m_Ru_addTerm.2.2.1 28 = .ok (.iload 4, 2) := by decide +kernel
theorem d_Ru_addTerm_30 : decode m_Ru_addTerm.2.2.1 30 = .ok (.invokestatic 34, 3) := by decide +kernel
theorem d_Ru_addTerm_33 : decode m_Ru_addTerm.2.2.1 33 = .ok (.aload_n 0, 1) := by decide +kernel
theorem d_Ru_addTerm_34 : decode m_Ru_addTerm.2.2.1 34 = .ok (.getfield 11, 3) := by decide +kernel
theorem d_Ru_addTerm_37 : decode m_Ru_addTerm.2.2.1 37 = .ok (.iload_n 1, 1) := by decide +kernel
theorem d_Ru_addTerm_38 : decode m_Ru_addTerm.2.2.1 38 = .ok (.dup2, 1) := by decide +kernel
theorem d_Ru_addTerm_39 : decode m_Ru_addTerm.2.2.1 39 = .ok (.iaload, 1) := by decide +kernel
theorem d_Ru_addTerm_40 : decode m_Ru_addTerm.2.2.1 40 = .ok (.iconst 1, 1) := by decide +kernel
theorem d_Ru_addTerm_41 : decode m_Ru_addTerm.2.2.1 41 = .ok (.iadd, 1) := by decide +kernel
theorem d_Ru_addTerm_42 : decode m_Ru_addTerm.2.2.1 42 = .ok (.iastore, 1) := by decide +kernel
theorem d_Ru_addTerm_43 : decode m_Ru_addTerm.2.2.1 43 = .ok (.aload_n 0, 1) := by decide +kernel
theorem d_Ru_addTerm_44 : decode m_Ru_addTerm.2.2.1 44 = .ok (.getfield 11, 3) := by decide +kernel
theorem d_Ru_addTerm_47 : decode m_Ru_addTerm.2.2.1 47 = .ok (.iload_n 1, 1) := by decide +kernel
theorem d_Ru_addTerm_48 : decode m_Ru_addTerm.2.2.1 48 = .ok (.iaload, 1) := by decide +kernel
theorem d_Ru_addTerm_49 : decode m_Ru_addTerm.2.2.1 49 = .ok (.ireturn, 1) := by decide +kernel
theorem d_Ru_addBound_0 : decode m_Ru_addBound.2.2.1 0 = .ok (.aload_n 0, 1) := by decide +kernel
theorem d_Ru_addBound_1 : decode m_Ru_addBound.2.2.1 1 = .ok (.getfield 30, 3) := by decide +kernel
theorem d_Ru_addBound_4 : decode m_Ru_addBound.2.2.1 4 = .ok (.iconst 4, 1) := by decide +kernel
theorem d_Ru_addBound_5 : decode m_Ru_addBound.2.2.1 5 = .ok (.if_icmp .lt (6), 3) := by decide +kernel
theorem d_Ru_addBound_8 : decode m_Ru_addBound.2.2.1 8 = .ok (.bipush (-3), 2) := by decide +kernel
theorem d_Ru_addBound_10 : decode m_Ru_addBound.2.2.1 10 = .ok (.ireturn, 1) := by decide +kernel
theorem d_Ru_addBound_11 : decode m_Ru_addBound.2.2.1 11 = .ok (.aload_n 0, 1) := by decide +kernel
theorem d_Ru_addBound_12 : decode m_Ru_addBound.2.2.1 12 = .ok (.getfield 20, 3) := by decide +kernel
theorem d_Ru_addBound_15 : decode m_Ru_addBound.2.2.1 15 = .ok (.aload_n 0, 1) := by decide +kernel
theorem d_Ru_addBound_16 : decode m_Ru_addBound.2.2.1 16 = .ok (.getfield 30, 3) := by decide +kernel
theorem d_Ru_addBound_19 : decode m_Ru_addBound.2.2.1 19 = .ok (.iload_n 1, 1) := by decide +kernel
theorem d_Ru_addBound_20 : decode m_Ru_addBound.2.2.1 20 = .ok (.iload_n 2, 1) := by decide +kernel
theorem d_Ru_addBound_21 : decode m_Ru_addBound.2.2.1 21 = .ok (.iload_n 3, 1) := by decide +kernel
theorem d_Ru_addBound_22 : decode m_Ru_addBound.2.2.1 22 = .ok (.invokestatic 34, 3) := by decide +kernel
theorem d_Ru_addBound_25 : decode m_Ru_addBound.2.2.1 25 = .ok (.aload_n 0, 1) := by decide +kernel
theorem d_Ru_addBound_26 : decode m_Ru_addBound.2.2.1 26 = .ok (.dup, 1) := by decide +kernel
theorem d_Ru_addBound_27 : decode m_Ru_addBound.2.2.1 27 = .ok (.getfield 30, 3) := by decide +kernel
theorem d_Ru_addBound_30 : decode m_Ru_addBound.2.2.1 30 = .ok (.iconst 1, 1) := by decide +kernel
theorem d_Ru_addBound_31 : decode m_Ru_addBound.2.2.1 31 = .ok (.iadd, 1) := by decide +kernel
theorem d_Ru_addBound_32 : decode m_Ru_addBound.2.2.1 32 = .ok (.putfield 30, 3) := by decide +kernel
theorem d_Ru_addBound_35 : decode m_Ru_addBound.2.2.1 35 = .ok (.aload_n 0, 1) := by decide +kernel
theorem d_Ru_addBound_36 : decode m_Ru_addBound.2.2.1 36 = .ok (.getfield 30, 3) := by decide +kernel
theorem d_Ru_addBound_39 : decode m_Ru_addBound.2.2.1 39 = .ok (.ireturn, 1) := by decide +kernel
theorem d_Ru_write_0 : decode m_Ru_write.2.2.1 0 = .ok (.aload_n 0, 1) := by decide +kernel
theorem d_Ru_write_1 : decode m_Ru_write.2.2.1 1 = .ok (.iconst 3, 1) := by decide +kernel
theorem d_Ru_write_2 : decode m_Ru_write.2.2.1 2 = .ok (.iload_n 1, 1) := by decide +kernel
theorem d_Ru_write_3 : decode m_Ru_write.2.2.1 3 = .ok (.imul, 1) := by decide +kernel
theorem d_Ru_write_4 : decode m_Ru_write.2.2.1 4 = .ok (.iload_n 2, 1) := by decide +kernel
theorem d_Ru_write_5 : decode m_Ru_write.2.2.1 5 = .ok (.iastore, 1) := by decide +kernel
theorem d_Ru_write_6 : decode m_Ru_write.2.2.1 6 = .ok (.aload_n 0, 1) := by decide +kernel
theorem d_Ru_write_7 : decode m_Ru_write.2.2.1 7 = .ok (.iconst 3, 1) := by decide +kernel
theorem d_Ru_write_8 : decode m_Ru_write.2.2.1 8 = .ok (.iload_n 1, 1) := by decide +kernel
theorem d_Ru_write_9 : decode m_Ru_write.2.2.1 9 = .ok (.imul, 1) := by decide +kernel
theorem d_Ru_write_10 : decode m_Ru_write.2.2.1 10 = .ok (.iconst 1, 1) := by decide +kernel
theorem d_Ru_write_11 : decode m_Ru_write.2.2.1 11 = .ok (.iadd, 1) := by decide +kernel
theorem d_Ru_write_12 : decode m_Ru_write.2.2.1 12 = .ok (.iload_n 3, 1) := by decide +kernel
theorem d_Ru_write_13 : decode m_Ru_write.2.2.1 13 = .ok (.iastore, 1) := by decide +kernel
theorem d_Ru_write_14 : decode m_Ru_write.2.2.1 14 = .ok (.aload_n 0, 1) := by decide +kernel
theorem d_Ru_write_15 : decode m_Ru_write.2.2.1 15 = .ok (.iconst 3, 1) := by decide +kernel
theorem d_Ru_write_16 : decode m_Ru_write.2.2.1 16 = .ok (.iload_n 1, 1) := by decide +kernel
theorem d_Ru_write_17 : decode m_Ru_write.2.2.1 17 = .ok (.imul, 1) := by decide +kernel
theorem d_Ru_write_18 : decode m_Ru_write.2.2.1 18 = .ok (.iconst 2, 1) := by decide +kernel
theorem d_Ru_write_19 : decode m_Ru_write.2.2.1 19 = .ok (.iadd, 1) := by decide +kernel
theorem d_Ru_write_20 : decode m_Ru_write.2.2.1 20 = .ok (.iload 4, 2) := by decide +kernel
theorem d_Ru_write_22 : decode m_Ru_write.2.2.1 22 = .ok (.iastore, 1) := by decide +kernel
theorem d_Ru_write_23 : decode m_Ru_write.2.2.1 23 = .ok (.return_, 1) := by decide +kernel
theorem d_Ru_dropAll_0 : decode m_Ru_dropAll.2.2.1 0 = .ok (.aload_n 0, 1) := by decide +kernel
theorem d_Ru_dropAll_1 : decode m_Ru_dropAll.2.2.1 1 = .ok (.getfield 11, 3) := by decide +kernel
theorem d_Ru_dropAll_4 : decode m_Ru_dropAll.2.2.1 4 = .ok (.iconst 0, 1) := by decide +kernel
theorem d_Ru_dropAll_5 : decode m_Ru_dropAll.2.2.1 5 = .ok (.iconst 0, 1) := by decide +kernel
theorem d_Ru_dropAll_6 : decode m_Ru_dropAll.2.2.1 6 = .ok (.iastore, 1) := by decide +kernel
theorem d_Ru_dropAll_7 : decode m_Ru_dropAll.2.2.1 7 = .ok (.aload_n 0, 1) := by decide +kernel
theorem d_Ru_dropAll_8 : decode m_Ru_dropAll.2.2.1 8 = .ok (.getfield 11, 3) := by decide +kernel
theorem d_Ru_dropAll_11 : decode m_Ru_dropAll.2.2.1 11 = .ok (.iconst 1, 1) := by decide +kernel
theorem d_Ru_dropAll_12 : decode m_Ru_dropAll.2.2.1 12 = .ok (.iconst 0, 1) := by decide +kernel
theorem d_Ru_dropAll_13 : decode m_Ru_dropAll.2.2.1 13 = .ok (.iastore, 1) := by decide +kernel
theorem d_Ru_dropAll_14 : decode m_Ru_dropAll.2.2.1 14 = .ok (.aload_n 0, 1) := by decide +kernel
theorem d_Ru_dropAll_15 : decode m_Ru_dropAll.2.2.1 15 = .ok (.iconst 0, 1) := by decide +kernel
theorem d_Ru_dropAll_16 : decode m_Ru_dropAll.2.2.1 16 = .ok (.putfield 30, 3) := by decide +kernel
theorem d_Ru_dropAll_19 : decode m_Ru_dropAll.2.2.1 19 = .ok (.return_, 1) := by decide +kernel
theorem d_Ru_areNone_0 : decode m_Ru_areNone.2.2.1 0 = .ok (.aload_n 0, 1) := by decide +kernel
theorem d_Ru_areNone_1 : decode m_Ru_areNone.2.2.1 1 = .ok (.invokevirtual 38, 3) := by decide +kernel
theorem d_Ru_areNone_4 : decode m_Ru_areNone.2.2.1 4 = .ok (.ifCond .ne (14), 3) := by decide +kernel
theorem d_Ru_areNone_7 : decode m_Ru_areNone.2.2.1 7 = .ok (.aload_n 0, 1) := by decide +kernel
theorem d_Ru_areNone_8 : decode m_Ru_areNone.2.2.1 8 = .ok (.getfield 30, 3) := by decide +kernel
theorem d_Ru_areNone_11 : decode m_Ru_areNone.2.2.1 11 = .ok (.ifCond .ne (7), 3) := by decide +kernel
theorem d_Ru_areNone_14 : decode m_Ru_areNone.2.2.1 14 = .ok (.iconst 1, 1) := by decide +kernel
theorem d_Ru_areNone_15 : decode m_Ru_areNone.2.2.1 15 = .ok (.goto (4), 3) := by decide +kernel
theorem d_Ru_areNone_18 : decode m_Ru_areNone.2.2.1 18 = .ok (.iconst 0, 1) := by decide +kernel
theorem d_Ru_areNone_19 : decode m_Ru_areNone.2.2.1 19 = .ok (.ireturn, 1) := by decide +kernel
theorem d_Ru_constraintCount_0 : decode m_Ru_constraintCount.2.2.1 0 = .ok (.aload_n 0, 1) := by decide +kernel
theorem d_Ru_constraintCount_1 : decode m_Ru_constraintCount.2.2.1 1 = .ok (.getfield 11, 3) := by decide +kernel
theorem d_Ru_constraintCount_4 : decode m_Ru_constraintCount.2.2.1 4 = .ok (.iconst 1, 1) := by decide +kernel
theorem d_Ru_constraintCount_5 : decode m_Ru_constraintCount.2.2.1 5 = .ok (.iaload, 1) := by decide +kernel
theorem d_Ru_constraintCount_6 : decode m_Ru_constraintCount.2.2.1 6 = .ok (.ifCond .le (5), 3) := by decide +kernel
theorem d_Ru_constraintCount_9 : decode m_Ru_constraintCount.2.2.1 9 = .ok (.iconst 2, 1) := by decide +kernel
theorem d_Ru_constraintCount_10 : decode m_Ru_constraintCount.2.2.1 10 = .ok (.ireturn, 1) := by decide +kernel
theorem d_Ru_constraintCount_11 : decode m_Ru_constraintCount.2.2.1 11 = .ok (.aload_n 0, 1) := by decide +kernel
theorem d_Ru_constraintCount_12 : decode m_Ru_constraintCount.2.2.1 12 = .ok (.getfield 11, 3) := by decide +kernel
theorem d_Ru_constraintCount_15 : decode m_Ru_constraintCount.2.2.1 15 = .ok (.iconst 0, 1) := by decide +kernel
theorem d_Ru_constraintCount_16 : decode m_Ru_constraintCount.2.2.1 16 = .ok (.iaload, 1) := by decide +kernel
theorem d_Ru_constraintCount_17 : decode m_Ru_constraintCount.2.2.1 17 = .ok (.ifCond .le (7), 3) := by decide +kernel
theorem d_Ru_constraintCount_20 : decode m_Ru_constraintCount.2.2.1 20 = .ok (.iconst 1, 1) := by decide +kernel
theorem d_Ru_constraintCount_21 : decode m_Ru_constraintCount.2.2.1 21 = .ok (.goto (4), 3) := by decide +kernel
theorem d_Ru_constraintCount_24 : decode m_Ru_constraintCount.2.2.1 24 = .ok (.iconst 0, 1) := by decide +kernel
theorem d_Ru_constraintCount_25 : decode m_Ru_constraintCount.2.2.1 25 = .ok (.ireturn, 1) := by decide +kernel
theorem d_Ru_tellTo_0 : decode m_Ru_tellTo.2.2.1 0 = .ok (.aload_n 0, 1) := by decide +kernel
theorem d_Ru_tellTo_1 : decode m_Ru_tellTo.2.2.1 1 = .ok (.invokevirtual 38, 3) := by decide +kernel
theorem d_Ru_tellTo_4 : decode m_Ru_tellTo.2.2.1 4 = .ok (.istore_n 2, 1) := by decide +kernel
theorem d_Ru_tellTo_5 : decode m_Ru_tellTo.2.2.1 5 = .ok (.aload_n 1, 1) := by decide +kernel
theorem d_Ru_tellTo_6 : decode m_Ru_tellTo.2.2.1 6 = .ok (.iload_n 2, 1) := by decide +kernel
theorem d_Ru_tellTo_7 : decode m_Ru_tellTo.2.2.1 7 = .ok (.invokevirtual 42, 3) := by decide +kernel
theorem d_Ru_tellTo_10 : decode m_Ru_tellTo.2.2.1 10 = .ok (.iconst 0, 1) := by decide +kernel
theorem d_Ru_tellTo_11 : decode m_Ru_tellTo.2.2.1 11 = .ok (.istore_n 3, 1) := by decide +kernel
theorem d_Ru_tellTo_12 : decode m_Ru_tellTo.2.2.1 12 = .ok (.iload_n 3, 1) := by decide +kernel
theorem d_Ru_tellTo_13 : decode m_Ru_tellTo.2.2.1 13 = .ok (.iload_n 2, 1) := by decide +kernel
theorem d_Ru_tellTo_14 : decode m_Ru_tellTo.2.2.1 14 = .ok (.if_icmp .ge (25), 3) := by decide +kernel
theorem d_Ru_tellTo_17 : decode m_Ru_tellTo.2.2.1 17 = .ok (.aload_n 1, 1) := by decide +kernel
theorem d_Ru_tellTo_18 : decode m_Ru_tellTo.2.2.1 18 = .ok (.aload_n 0, 1) := by decide +kernel
theorem d_Ru_tellTo_19 : decode m_Ru_tellTo.2.2.1 19 = .ok (.getfield 17, 3) := by decide +kernel
theorem d_Ru_tellTo_22 : decode m_Ru_tellTo.2.2.1 22 = .ok (.iload_n 3, 1) := by decide +kernel
theorem d_Ru_tellTo_23 : decode m_Ru_tellTo.2.2.1 23 = .ok (.aaload, 1) := by decide +kernel
theorem d_Ru_tellTo_24 : decode m_Ru_tellTo.2.2.1 24 = .ok (.aload_n 0, 1) := by decide +kernel
theorem d_Ru_tellTo_25 : decode m_Ru_tellTo.2.2.1 25 = .ok (.getfield 11, 3) := by decide +kernel
theorem d_Ru_tellTo_28 : decode m_Ru_tellTo.2.2.1 28 = .ok (.iload_n 3, 1) := by decide +kernel
theorem d_Ru_tellTo_29 : decode m_Ru_tellTo.2.2.1 29 = .ok (.iaload, 1) := by decide +kernel
theorem d_Ru_tellTo_30 : decode m_Ru_tellTo.2.2.1 30 = .ok (.invokestatic 48, 3) := by decide +kernel
theorem d_Ru_tellTo_33 : decode m_Ru_tellTo.2.2.1 33 = .ok (.iinc 3 (1), 3) := by decide +kernel
theorem d_Ru_tellTo_36 : decode m_Ru_tellTo.2.2.1 36 = .ok (.goto (-24), 3) := by decide +kernel
theorem d_Ru_tellTo_39 : decode m_Ru_tellTo.2.2.1 39 = .ok (.aload_n 1, 1) := by decide +kernel
theorem d_Ru_tellTo_40 : decode m_Ru_tellTo.2.2.1 40 = .ok (.aload_n 0, 1) := by decide +kernel
theorem d_Ru_tellTo_41 : decode m_Ru_tellTo.2.2.1 41 = .ok (.getfield 20, 3) := by decide +kernel
theorem d_Ru_tellTo_44 : decode m_Ru_tellTo.2.2.1 44 = .ok (.aload_n 0, 1) := by decide +kernel
theorem d_Ru_tellTo_45 : decode m_Ru_tellTo.2.2.1 45 = .ok (.getfield 30, 3) := by decide +kernel
theorem d_Ru_tellTo_48 : decode m_Ru_tellTo.2.2.1 48 = .ok (.invokestatic 48, 3) := by decide +kernel
theorem d_Ru_tellTo_51 : decode m_Ru_tellTo.2.2.1 51 = .ok (.return_, 1) := by decide +kernel
theorem d_Ru_tellParts_0 : decode m_Ru_tellParts.2.2.1 0 = .ok (.aload_n 0, 1) := by decide +kernel
theorem d_Ru_tellParts_1 : decode m_Ru_tellParts.2.2.1 1 = .ok (.iload_n 2, 1) := by decide +kernel
theorem d_Ru_tellParts_2 : decode m_Ru_tellParts.2.2.1 2 = .ok (.invokevirtual 42, 3) := by decide +kernel
theorem d_Ru_tellParts_5 : decode m_Ru_tellParts.2.2.1 5 = .ok (.iconst 0, 1) := by decide +kernel
theorem d_Ru_tellParts_6 : decode m_Ru_tellParts.2.2.1 6 = .ok (.istore_n 3, 1) := by decide +kernel
theorem d_Ru_tellParts_7 : decode m_Ru_tellParts.2.2.1 7 = .ok (.iload_n 3, 1) := by decide +kernel
theorem d_Ru_tellParts_8 : decode m_Ru_tellParts.2.2.1 8 = .ok (.iconst 3, 1) := by decide +kernel
theorem d_Ru_tellParts_9 : decode m_Ru_tellParts.2.2.1 9 = .ok (.iload_n 2, 1) := by decide +kernel
theorem d_Ru_tellParts_10 : decode m_Ru_tellParts.2.2.1 10 = .ok (.imul, 1) := by decide +kernel
theorem d_Ru_tellParts_11 : decode m_Ru_tellParts.2.2.1 11 = .ok (.if_icmp .ge (16), 3) := by decide +kernel
theorem d_Ru_tellParts_14 : decode m_Ru_tellParts.2.2.1 14 = .ok (.aload_n 0, 1) := by decide +kernel
theorem d_Ru_tellParts_15 : decode m_Ru_tellParts.2.2.1 15 = .ok (.aload_n 1, 1) := by decide +kernel
theorem d_Ru_tellParts_16 : decode m_Ru_tellParts.2.2.1 16 = .ok (.iload_n 3, 1) := by decide +kernel
theorem d_Ru_tellParts_17 : decode m_Ru_tellParts.2.2.1 17 = .ok (.iaload, 1) := by decide +kernel
theorem d_Ru_tellParts_18 : decode m_Ru_tellParts.2.2.1 18 = .ok (.invokevirtual 42, 3) := by decide +kernel
theorem d_Ru_tellParts_21 : decode m_Ru_tellParts.2.2.1 21 = .ok (.iinc 3 (1), 3) := by decide +kernel
theorem d_Ru_tellParts_24 : decode m_Ru_tellParts.2.2.1 24 = .ok (.goto (-17), 3) := by decide +kernel
theorem d_Ru_tellParts_27 : decode m_Ru_tellParts.2.2.1 27 = .ok (.return_, 1) := by decide +kernel
theorem d_Ru_areBrokenIn_0 : decode m_Ru_areBrokenIn.2.2.1 0 = .ok (.iload_n 2, 1) := by decide +kernel
theorem d_Ru_areBrokenIn_1 : decode m_Ru_areBrokenIn.2.2.1 1 = .ok (.bipush (7), 2) := by decide +kernel
theorem d_Ru_areBrokenIn_3 : decode m_Ru_areBrokenIn.2.2.1 3 = .ok (.if_icmp .ge (12), 3) := by decide +kernel
theorem d_Ru_areBrokenIn_6 : decode m_Ru_areBrokenIn.2.2.1 6 = .ok (.aload_n 0, 1) := by decide +kernel
theorem d_Ru_areBrokenIn_7 : decode m_Ru_areBrokenIn.2.2.1 7 = .ok (.aload_n 1, 1) := by decide +kernel
theorem d_Ru_areBrokenIn_8 : decode m_Ru_areBrokenIn.2.2.1 8 = .ok (.iload_n 2, 1) := by decide +kernel
theorem d_Ru_areBrokenIn_9 : decode m_Ru_areBrokenIn.2.2.1 9 = .ok (.invokevirtual 52, 3) := by decide +kernel
theorem d_Ru_areBrokenIn_12 : decode m_Ru_areBrokenIn.2.2.1 12 = .ok (.ifCond .ne (12), 3) := by decide +kernel
theorem d_Ru_areBrokenIn_15 : decode m_Ru_areBrokenIn.2.2.1 15 = .ok (.aload_n 0, 1) := by decide +kernel
theorem d_Ru_areBrokenIn_16 : decode m_Ru_areBrokenIn.2.2.1 16 = .ok (.aload_n 1, 1) := by decide +kernel
theorem d_Ru_areBrokenIn_17 : decode m_Ru_areBrokenIn.2.2.1 17 = .ok (.iload_n 2, 1) := by decide +kernel
theorem d_Ru_areBrokenIn_18 : decode m_Ru_areBrokenIn.2.2.1 18 = .ok (.invokevirtual 56, 3) := by decide +kernel
theorem d_Ru_areBrokenIn_21 : decode m_Ru_areBrokenIn.2.2.1 21 = .ok (.ifCond .eq (7), 3) := by decide +kernel
theorem d_Ru_areBrokenIn_24 : decode m_Ru_areBrokenIn.2.2.1 24 = .ok (.iconst 1, 1) := by decide +kernel
theorem d_Ru_areBrokenIn_25 : decode m_Ru_areBrokenIn.2.2.1 25 = .ok (.goto (4), 3) := by decide +kernel
theorem d_Ru_areBrokenIn_28 : decode m_Ru_areBrokenIn.2.2.1 28 = .ok (.iconst 0, 1) := by decide +kernel
theorem d_Ru_areBrokenIn_29 : decode m_Ru_areBrokenIn.2.2.1 29 = .ok (.ireturn, 1) := by decide +kernel
theorem d_Ru_isStepBroken_0 : decode m_Ru_isStepBroken.2.2.1 0 = .ok (.aload_n 0, 1) := by decide +kernel
theorem d_Ru_isStepBroken_1 : decode m_Ru_isStepBroken.2.2.1 1 = .ok (.aload_n 1, 1) := by decide +kernel
theorem d_Ru_isStepBroken_2 : decode m_Ru_isStepBroken.2.2.1 2 = .ok (.iconst 0, 1) := by decide +kernel
theorem d_Ru_isStepBroken_3 : decode m_Ru_isStepBroken.2.2.1 3 = .ok (.iload_n 2, 1) := by decide +kernel
theorem d_Ru_isStepBroken_4 : decode m_Ru_isStepBroken.2.2.1 4 = .ok (.invokevirtual 59, 3) := by decide +kernel
theorem d_Ru_isStepBroken_7 : decode m_Ru_isStepBroken.2.2.1 7 = .ok (.aload_n 1, 1) := by decide +kernel
theorem d_Ru_isStepBroken_8 : decode m_Ru_isStepBroken.2.2.1 8 = .ok (.iconst 1, 1) := by decide +kernel
theorem d_Ru_isStepBroken_9 : decode m_Ru_isStepBroken.2.2.1 9 = .ok (.iload_n 2, 1) := by decide +kernel
theorem d_Ru_isStepBroken_10 : decode m_Ru_isStepBroken.2.2.1 10 = .ok (.invokevirtual 59, 3) := by decide +kernel
theorem d_Ru_isStepBroken_13 : decode m_Ru_isStepBroken.2.2.1 13 = .ok (.aload_n 1, 1) := by decide +kernel
theorem d_Ru_isStepBroken_14 : decode m_Ru_isStepBroken.2.2.1 14 = .ok (.iconst 0, 1) := by decide +kernel
theorem d_Ru_isStepBroken_15 : decode m_Ru_isStepBroken.2.2.1 15 = .ok (.iload_n 2, 1) := by decide +kernel
theorem d_Ru_isStepBroken_16 : decode m_Ru_isStepBroken.2.2.1 16 = .ok (.iconst 1, 1) := by decide +kernel
theorem d_Ru_isStepBroken_17 : decode m_Ru_isStepBroken.2.2.1 17 = .ok (.iadd, 1) := by decide +kernel
theorem d_Ru_isStepBroken_18 : decode m_Ru_isStepBroken.2.2.1 18 = .ok (.invokevirtual 59, 3) := by decide +kernel
theorem d_Ru_isStepBroken_21 : decode m_Ru_isStepBroken.2.2.1 21 = .ok (.aload_n 1, 1) := by decide +kernel
theorem d_Ru_isStepBroken_22 : decode m_Ru_isStepBroken.2.2.1 22 = .ok (.iconst 1, 1) := by decide +kernel
theorem d_Ru_isStepBroken_23 : decode m_Ru_isStepBroken.2.2.1 23 = .ok (.iload_n 2, 1) := by decide +kernel
theorem d_Ru_isStepBroken_24 : decode m_Ru_isStepBroken.2.2.1 24 = .ok (.iconst 1, 1) := by decide +kernel
theorem d_Ru_isStepBroken_25 : decode m_Ru_isStepBroken.2.2.1 25 = .ok (.iadd, 1) := by decide +kernel
theorem d_Ru_isStepBroken_26 : decode m_Ru_isStepBroken.2.2.1 26 = .ok (.invokevirtual 59, 3) := by decide +kernel
theorem d_Ru_isStepBroken_29 : decode m_Ru_isStepBroken.2.2.1 29 = .ok (.invokevirtual 65, 3) := by decide +kernel
theorem d_Ru_isStepBroken_32 : decode m_Ru_isStepBroken.2.2.1 32 = .ok (.iconst 0, 1) := by decide +kernel
theorem d_Ru_isStepBroken_33 : decode m_Ru_isStepBroken.2.2.1 33 = .ok (.istore_n 3, 1) := by decide +kernel
theorem d_Ru_isStepBroken_34 : decode m_Ru_isStepBroken.2.2.1 34 = .ok (.iload_n 3, 1) := by decide +kernel
theorem d_Ru_isStepBroken_35 : decode m_Ru_isStepBroken.2.2.1 35 = .ok (.iconst 2, 1) := by decide +kernel
theorem d_Ru_isStepBroken_36 : decode m_Ru_isStepBroken.2.2.1 36 = .ok (.if_icmp .ge (19), 3) := by decide +kernel
theorem d_Ru_isStepBroken_39 : decode m_Ru_isStepBroken.2.2.1 39 = .ok (.aload_n 0, 1) := by decide +kernel
theorem d_Ru_isStepBroken_40 : decode m_Ru_isStepBroken.2.2.1 40 = .ok (.iload_n 3, 1) := by decide +kernel
theorem d_Ru_isStepBroken_41 : decode m_Ru_isStepBroken.2.2.1 41 = .ok (.invokevirtual 69, 3) := by decide +kernel
theorem d_Ru_isStepBroken_44 : decode m_Ru_isStepBroken.2.2.1 44 = .ok (.ifCond .eq (5), 3) := by decide +kernel
theorem d_Ru_isStepBroken_47 : decode m_Ru_isStepBroken.2.2.1 47 = .ok (.iconst 1, 1) := by decide +kernel
theorem d_Ru_isStepBroken_48 : decode m_Ru_isStepBroken.2.2.1 48 = .ok (.ireturn, 1) := by decide +kernel
theorem d_Ru_isStepBroken_49 : decode m_Ru_isStepBroken.2.2.1 49 = .ok (.iinc 3 (1), 3) := by decide +kernel
theorem d_Ru_isStepBroken_52 : decode m_Ru_isStepBroken.2.2.1 52 = .ok (.goto (-18), 3) := by decide +kernel
theorem d_Ru_isStepBroken_55 : decode m_Ru_isStepBroken.2.2.1 55 = .ok (.iconst 0, 1) := by decide +kernel
theorem d_Ru_isStepBroken_56 : decode m_Ru_isStepBroken.2.2.1 56 = .ok (.ireturn, 1) := by decide +kernel
theorem d_Ru_isBoundBroken_0 : decode m_Ru_isBoundBroken.2.2.1 0 = .ok (.iconst 0, 1) := by decide +kernel
theorem d_Ru_isBoundBroken_1 : decode m_Ru_isBoundBroken.2.2.1 1 = .ok (.istore_n 3, 1) := by decide +kernel
theorem d_Ru_isBoundBroken_2 : decode m_Ru_isBoundBroken.2.2.1 2 = .ok (.iload_n 3, 1) := by decide +kernel
theorem d_Ru_isBoundBroken_3 : decode m_Ru_isBoundBroken.2.2.1 3 = .ok (.aload_n 0, 1) := by decide +kernel
theorem d_Ru_isBoundBroken_4 : decode m_Ru_isBoundBroken.2.2.1 4 = .ok (.getfield 30, 3) := by decide +kernel
theorem d_Ru_isBoundBroken_7 : decode m_Ru_isBoundBroken.2.2.1 7 = .ok (.if_icmp .ge (38), 3) := by decide +kernel
theorem d_Ru_isBoundBroken_10 : decode m_Ru_isBoundBroken.2.2.1 10 = .ok (.aload_n 0, 1) := by decide +kernel
theorem d_Ru_isBoundBroken_11 : decode m_Ru_isBoundBroken.2.2.1 11 = .ok (.iload_n 3, 1) := by decide +kernel
theorem d_Ru_isBoundBroken_12 : decode m_Ru_isBoundBroken.2.2.1 12 = .ok (.invokevirtual 73, 3) := by decide +kernel
theorem d_Ru_isBoundBroken_15 : decode m_Ru_isBoundBroken.2.2.1 15 = .ok (.iload_n 2, 1) := by decide +kernel
theorem d_Ru_isBoundBroken_16 : decode m_Ru_isBoundBroken.2.2.1 16 = .ok (.if_icmp .ne (23), 3) := by decide +kernel
theorem d_Ru_isBoundBroken_19 : decode m_Ru_isBoundBroken.2.2.1 19 = .ok (.aload_n 1, 1) := by decide +kernel
theorem d_Ru_isBoundBroken_20 : decode m_Ru_isBoundBroken.2.2.1 20 = .ok (.aload_n 0, 1) := by decide +kernel
theorem d_Ru_isBoundBroken_21 : decode m_Ru_isBoundBroken.2.2.1 21 = .ok (.iload_n 3, 1) := by decide +kernel
theorem d_Ru_isBoundBroken_22 : decode m_Ru_isBoundBroken.2.2.1 22 = .ok (.invokevirtual 76, 3) := by decide +kernel
theorem d_Ru_isBoundBroken_25 : decode m_Ru_isBoundBroken.2.2.1 25 = .ok (.iload_n 2, 1) := by decide +kernel
theorem d_Ru_isBoundBroken_26 : decode m_Ru_isBoundBroken.2.2.1 26 = .ok (.invokevirtual 59, 3) := by decide +kernel
theorem d_Ru_isBoundBroken_29 : decode m_Ru_isBoundBroken.2.2.1 29 = .ok (.aload_n 0, 1) := by decide +kernel
theorem d_Ru_isBoundBroken_30 : decode m_Ru_isBoundBroken.2.2.1 30 = .ok (.iload_n 3, 1) := by decide +kernel
theorem d_Ru_isBoundBroken_31 : decode m_Ru_isBoundBroken.2.2.1 31 = .ok (.invokevirtual 79, 3) := by decide +kernel
theorem d_Ru_isBoundBroken_34 : decode m_Ru_isBoundBroken.2.2.1 34 = .ok (.if_icmp .eq (5), 3) := by decide +kernel
theorem d_Ru_isBoundBroken_37 : decode m_Ru_isBoundBroken.2.2.1 37 = .ok (.iconst 1, 1) := by decide +kernel
theorem d_Ru_isBoundBroken_38 : decode m_Ru_isBoundBroken.2.2.1 38 = .ok (.ireturn, 1) := by decide +kernel
theorem d_Ru_isBoundBroken_39 : decode m_Ru_isBoundBroken.2.2.1 39 = .ok (.iinc 3 (1), 3) := by decide +kernel
theorem d_Ru_isBoundBroken_42 : decode m_Ru_isBoundBroken.2.2.1 42 = .ok (.goto (-40), 3) := by decide +kernel
theorem d_Ru_isBoundBroken_45 : decode m_Ru_isBoundBroken.2.2.1 45 = .ok (.iconst 0, 1) := by decide +kernel
theorem d_Ru_isBoundBroken_46 : decode m_Ru_isBoundBroken.2.2.1 46 = .ok (.ireturn, 1) := by decide +kernel
theorem d_Ru_read_0 : decode m_Ru_read.2.2.1 0 = .ok (.aload_n 0, 1) := by decide +kernel
theorem d_Ru_read_1 : decode m_Ru_read.2.2.1 1 = .ok (.getfield 23, 3) := by decide +kernel
theorem d_Ru_read_4 : decode m_Ru_read.2.2.1 4 = .ok (.iconst 1, 1) := by decide +kernel
theorem d_Ru_read_5 : decode m_Ru_read.2.2.1 5 = .ok (.iload_n 1, 1) := by decide +kernel
theorem d_Ru_read_6 : decode m_Ru_read.2.2.1 6 = .ok (.iastore, 1) := by decide +kernel
theorem d_Ru_read_7 : decode m_Ru_read.2.2.1 7 = .ok (.aload_n 0, 1) := by decide +kernel
theorem d_Ru_read_8 : decode m_Ru_read.2.2.1 8 = .ok (.getfield 23, 3) := by decide +kernel
theorem d_Ru_read_11 : decode m_Ru_read.2.2.1 11 = .ok (.iconst 2, 1) := by decide +kernel
theorem d_Ru_read_12 : decode m_Ru_read.2.2.1 12 = .ok (.iload_n 2, 1) := by decide +kernel
theorem d_Ru_read_13 : decode m_Ru_read.2.2.1 13 = .ok (.iastore, 1) := by decide +kernel
theorem d_Ru_read_14 : decode m_Ru_read.2.2.1 14 = .ok (.aload_n 0, 1) := by decide +kernel
theorem d_Ru_read_15 : decode m_Ru_read.2.2.1 15 = .ok (.getfield 23, 3) := by decide +kernel
theorem d_Ru_read_18 : decode m_Ru_read.2.2.1 18 = .ok (.iconst 3, 1) := by decide +kernel
theorem d_Ru_read_19 : decode m_Ru_read.2.2.1 19 = .ok (.iload_n 3, 1) := by decide +kernel
theorem d_Ru_read_20 : decode m_Ru_read.2.2.1 20 = .ok (.iastore, 1) := by decide +kernel
theorem d_Ru_read_21 : decode m_Ru_read.2.2.1 21 = .ok (.aload_n 0, 1) := by decide +kernel
theorem d_Ru_read_22 : decode m_Ru_read.2.2.1 22 = .ok (.getfield 23, 3) := by decide +kernel
theorem d_Ru_read_25 : decode m_Ru_read.2.2.1 25 = .ok (.iconst 4, 1) := by decide +kernel
theorem d_Ru_read_26 : decode m_Ru_read.2.2.1 26 = .ok (.iload 4, 2) := by decide +kernel
theorem d_Ru_read_28 : decode m_Ru_read.2.2.1 28 = .ok (.iastore, 1) := by decide +kernel
theorem d_Ru_read_29 : decode m_Ru_read.2.2.1 29 = .ok (.return_, 1) := by decide +kernel
theorem d_Ru_termSum_0 : decode m_Ru_termSum.2.2.1 0 = .ok (.aload_n 0, 1) := by decide +kernel
theorem d_Ru_termSum_1 : decode m_Ru_termSum.2.2.1 1 = .ok (.getfield 17, 3) := by decide +kernel
theorem d_Ru_termSum_4 : decode m_Ru_termSum.2.2.1 4 = .ok (.iload_n 1, 1) := by decide +kernel
theorem d_Ru_termSum_5 : decode m_Ru_termSum.2.2.1 5 = .ok (.aaload, 1) := by decide +kernel
theorem d_Ru_termSum_6 : decode m_Ru_termSum.2.2.1 6 = .ok (.astore_n 2, 1) := by decide +kernel
theorem d_Ru_termSum_7 : decode m_Ru_termSum.2.2.1 7 = .ok (.iconst 0, 1) := by decide +kernel
theorem d_Ru_termSum_8 : decode m_Ru_termSum.2.2.1 8 = .ok (.istore_n 3, 1) := by decide +kernel
theorem d_Ru_termSum_9 : decode m_Ru_termSum.2.2.1 9 = .ok (.iconst 0, 1) := by decide +kernel
theorem d_Ru_termSum_10 : decode m_Ru_termSum.2.2.1 10 = .ok (.istore 4, 2) := by decide +kernel
theorem d_Ru_termSum_12 : decode m_Ru_termSum.2.2.1 12 = .ok (.iload 4, 2) := by decide +kernel
theorem d_Ru_termSum_14 : decode m_Ru_termSum.2.2.1 14 = .ok (.aload_n 0, 1) := by decide +kernel
theorem d_Ru_termSum_15 : decode m_Ru_termSum.2.2.1 15 = .ok (.getfield 11, 3) := by decide +kernel
theorem d_Ru_termSum_18 : decode m_Ru_termSum.2.2.1 18 = .ok (.iload_n 1, 1) := by decide +kernel
theorem d_Ru_termSum_19 : decode m_Ru_termSum.2.2.1 19 = .ok (.iaload, 1) := by decide +kernel
theorem d_Ru_termSum_20 : decode m_Ru_termSum.2.2.1 20 = .ok (.if_icmp .ge (60), 3) := by decide +kernel
theorem d_Ru_termSum_23 : decode m_Ru_termSum.2.2.1 23 = .ok (.aload_n 0, 1) := by decide +kernel
theorem d_Ru_termSum_24 : decode m_Ru_termSum.2.2.1 24 = .ok (.getfield 23, 3) := by decide +kernel
theorem d_Ru_termSum_27 : decode m_Ru_termSum.2.2.1 27 = .ok (.aload_n 2, 1) := by decide +kernel
theorem d_Ru_termSum_28 : decode m_Ru_termSum.2.2.1 28 = .ok (.iconst 3, 1) := by decide +kernel
theorem d_Ru_termSum_29 : decode m_Ru_termSum.2.2.1 29 = .ok (.iload 4, 2) := by decide +kernel
theorem d_Ru_termSum_31 : decode m_Ru_termSum.2.2.1 31 = .ok (.imul, 1) := by decide +kernel
theorem d_Ru_termSum_32 : decode m_Ru_termSum.2.2.1 32 = .ok (.iconst 1, 1) := by decide +kernel
theorem d_Ru_termSum_33 : decode m_Ru_termSum.2.2.1 33 = .ok (.iadd, 1) := by decide +kernel
theorem d_Ru_termSum_34 : decode m_Ru_termSum.2.2.1 34 = .ok (.iaload, 1) := by decide +kernel
theorem d_Ru_termSum_35 : decode m_Ru_termSum.2.2.1 35 = .ok (.iaload, 1) := by decide +kernel
theorem d_Ru_termSum_36 : decode m_Ru_termSum.2.2.1 36 = .ok (.istore 5, 2) := by decide +kernel
theorem d_Ru_termSum_38 : decode m_Ru_termSum.2.2.1 38 = .ok (.aload_n 0, 1) := by decide +kernel
theorem d_Ru_termSum_39 : decode m_Ru_termSum.2.2.1 39 = .ok (.getfield 23, 3) := by decide +kernel
theorem d_Ru_termSum_42 : decode m_Ru_termSum.2.2.1 42 = .ok (.aload_n 2, 1) := by decide +kernel
theorem d_Ru_termSum_43 : decode m_Ru_termSum.2.2.1 43 = .ok (.iconst 3, 1) := by decide +kernel
theorem d_Ru_termSum_44 : decode m_Ru_termSum.2.2.1 44 = .ok (.iload 4, 2) := by decide +kernel
theorem d_Ru_termSum_46 : decode m_Ru_termSum.2.2.1 46 = .ok (.imul, 1) := by decide +kernel
theorem d_Ru_termSum_47 : decode m_Ru_termSum.2.2.1 47 = .ok (.iconst 2, 1) := by decide +kernel
theorem d_Ru_termSum_48 : decode m_Ru_termSum.2.2.1 48 = .ok (.iadd, 1) := by decide +kernel
theorem d_Ru_termSum_49 : decode m_Ru_termSum.2.2.1 49 = .ok (.iaload, 1) := by decide +kernel
theorem d_Ru_termSum_50 : decode m_Ru_termSum.2.2.1 50 = .ok (.iaload, 1) := by decide +kernel
theorem d_Ru_termSum_51 : decode m_Ru_termSum.2.2.1 51 = .ok (.istore 6, 2) := by decide +kernel
theorem d_Ru_termSum_53 : decode m_Ru_termSum.2.2.1 53 = .ok (.iload_n 3, 1) := by decide +kernel
theorem d_Ru_termSum_54 : decode m_Ru_termSum.2.2.1 54 = .ok (.aload_n 2, 1) := by decide +kernel
theorem d_Ru_termSum_55 : decode m_Ru_termSum.2.2.1 55 = .ok (.iconst 3, 1) := by decide +kernel
theorem d_Ru_termSum_56 : decode m_Ru_termSum.2.2.1 56 = .ok (.iload 4, 2) := by decide +kernel
theorem d_Ru_termSum_58 : decode m_Ru_termSum.2.2.1 58 = .ok (.imul, 1) := by decide +kernel
theorem d_Ru_termSum_59 : decode m_Ru_termSum.2.2.1 59 = .ok (.iaload, 1) := by decide +kernel
theorem d_Ru_termSum_60 : decode m_Ru_termSum.2.2.1 60 = .ok (.iload 5, 2) := by decide +kernel
theorem d_Ru_termSum_62 : decode m_Ru_termSum.2.2.1 62 = .ok (.iload 6, 2) := by decide +kernel
theorem d_Ru_termSum_64 : decode m_Ru_termSum.2.2.1 64 = .ok (.invokestatic 82, 3) := by decide +kernel
theorem d_Ru_termSum_67 : decode m_Ru_termSum.2.2.1 67 = .ok (.invokestatic 82, 3) := by decide +kernel
theorem d_Ru_termSum_70 : decode m_Ru_termSum.2.2.1 70 = .ok (.invokestatic 87, 3) := by decide +kernel
theorem d_Ru_termSum_73 : decode m_Ru_termSum.2.2.1 73 = .ok (.istore_n 3, 1) := by decide +kernel
theorem d_Ru_termSum_74 : decode m_Ru_termSum.2.2.1 74 = .ok (.iinc 4 (1), 3) := by decide +kernel
theorem d_Ru_termSum_77 : decode m_Ru_termSum.2.2.1 77 = .ok (.goto (-65), 3) := by decide +kernel
theorem d_Ru_termSum_80 : decode m_Ru_termSum.2.2.1 80 = .ok (.iload_n 3, 1) := by decide +kernel
theorem d_Ru_termSum_81 : decode m_Ru_termSum.2.2.1 81 = .ok (.ireturn, 1) := by decide +kernel
theorem d_Ru_composition_0 : decode m_Ru_composition.2.2.1 0 = .ok (.iconst 0, 1) := by decide +kernel
theorem d_Ru_composition_1 : decode m_Ru_composition.2.2.1 1 = .ok (.istore_n 3, 1) := by decide +kernel
theorem d_Ru_composition_2 : decode m_Ru_composition.2.2.1 2 = .ok (.iconst 1, 1) := by decide +kernel
theorem d_Ru_composition_3 : decode m_Ru_composition.2.2.1 3 = .ok (.istore 4, 2) := by decide +kernel
theorem d_Ru_composition_5 : decode m_Ru_composition.2.2.1 5 = .ok (.aload_n 0, 1) := by decide +kernel
theorem d_Ru_composition_6 : decode m_Ru_composition.2.2.1 6 = .ok (.invokevirtual 38, 3) := by decide +kernel
theorem d_Ru_composition_9 : decode m_Ru_composition.2.2.1 9 = .ok (.istore 5, 2) := by decide +kernel
theorem d_Ru_composition_11 : decode m_Ru_composition.2.2.1 11 = .ok (.iconst 0, 1) := by decide +kernel
theorem d_Ru_composition_12 : decode m_Ru_composition.2.2.1 12 = .ok (.istore 6, 2) := by decide +kernel
theorem d_Ru_composition_14 : decode m_Ru_composition.2.2.1 14 = .ok (.iload 6, 2) := by decide +kernel
theorem d_Ru_composition_16 : decode m_Ru_composition.2.2.1 16 = .ok (.iload 5, 2) := by decide +kernel
theorem d_Ru_composition_18 : decode m_Ru_composition.2.2.1 18 = .ok (.if_icmp .ge (48), 3) := by decide +kernel
theorem d_Ru_composition_21 : decode m_Ru_composition.2.2.1 21 = .ok (.aload_n 0, 1) := by decide +kernel
theorem d_Ru_composition_22 : decode m_Ru_composition.2.2.1 22 = .ok (.iload 6, 2) := by decide +kernel
theorem d_Ru_composition_24 : decode m_Ru_composition.2.2.1 24 = .ok (.invokevirtual 69, 3) := by decide +kernel
theorem d_Ru_composition_27 : decode m_Ru_composition.2.2.1 27 = .ok (.aload_n 0, 1) := by decide +kernel
theorem d_Ru_composition_28 : decode m_Ru_composition.2.2.1 28 = .ok (.getfield 26, 3) := by decide +kernel
theorem d_Ru_composition_31 : decode m_Ru_composition.2.2.1 31 = .ok (.iload_n 1, 1) := by decide +kernel
theorem d_Ru_composition_32 : decode m_Ru_composition.2.2.1 32 = .ok (.invokevirtual 90, 3) := by decide +kernel
theorem d_Ru_composition_35 : decode m_Ru_composition.2.2.1 35 = .ok (.invokestatic 82, 3) := by decide +kernel
theorem d_Ru_composition_38 : decode m_Ru_composition.2.2.1 38 = .ok (.istore 7, 2) := by decide +kernel
theorem d_Ru_composition_40 : decode m_Ru_composition.2.2.1 40 = .ok (.iload_n 3, 1) := by decide +kernel
theorem d_Ru_composition_41 : decode m_Ru_composition.2.2.1 41 = .ok (.iload 4, 2) := by decide +kernel
theorem d_Ru_composition_43 : decode m_Ru_composition.2.2.1 43 = .ok (.iload 7, 2) := by decide +kernel
theorem d_Ru_composition_45 : decode m_Ru_composition.2.2.1 45 = .ok (.invokestatic 82, 3) := by decide +kernel
theorem d_Ru_composition_48 : decode m_Ru_composition.2.2.1 48 = .ok (.invokestatic 87, 3) := by decide +kernel
theorem d_Ru_composition_51 : decode m_Ru_composition.2.2.1 51 = .ok (.istore_n 3, 1) := by decide +kernel
theorem d_Ru_composition_52 : decode m_Ru_composition.2.2.1 52 = .ok (.iload 4, 2) := by decide +kernel
theorem d_Ru_composition_54 : decode m_Ru_composition.2.2.1 54 = .ok (.iload_n 2, 1) := by decide +kernel
theorem d_Ru_composition_55 : decode m_Ru_composition.2.2.1 55 = .ok (.invokestatic 82, 3) := by decide +kernel
theorem d_Ru_composition_58 : decode m_Ru_composition.2.2.1 58 = .ok (.istore 4, 2) := by decide +kernel
theorem d_Ru_composition_60 : decode m_Ru_composition.2.2.1 60 = .ok (.iinc 6 (1), 3) := by decide +kernel
theorem d_Ru_composition_63 : decode m_Ru_composition.2.2.1 63 = .ok (.goto (-49), 3) := by decide +kernel
theorem d_Ru_composition_66 : decode m_Ru_composition.2.2.1 66 = .ok (.iconst 0, 1) := by decide +kernel
theorem d_Ru_composition_67 : decode m_Ru_composition.2.2.1 67 = .ok (.istore 6, 2) := by decide +kernel
theorem d_Ru_composition_69 : decode m_Ru_composition.2.2.1 69 = .ok (.iload 6, 2) := by decide +kernel
theorem d_Ru_composition_71 : decode m_Ru_composition.2.2.1 71 = .ok (.aload_n 0, 1) := by decide +kernel
theorem d_Ru_composition_72 : decode m_Ru_composition.2.2.1 72 = .ok (.getfield 30, 3) := by decide +kernel
theorem d_Ru_composition_75 : decode m_Ru_composition.2.2.1 75 = .ok (.if_icmp .ge (74), 3) := by decide +kernel
theorem d_Ru_composition_78 : decode m_Ru_composition.2.2.1 78 = .ok (.aload_n 0, 1) := by decide +kernel
theorem d_Ru_composition_79 : decode m_Ru_composition.2.2.1 79 = .ok (.getfield 23, 3) := by decide +kernel
theorem d_Ru_composition_82 : decode m_Ru_composition.2.2.1 82 = .ok (.iconst 1, 1) := by decide +kernel
theorem d_Ru_composition_83 : decode m_Ru_composition.2.2.1 83 = .ok (.aload_n 0, 1) := by decide +kernel
theorem d_Ru_composition_84 : decode m_Ru_composition.2.2.1 84 = .ok (.iload 6, 2) := by decide +kernel
theorem d_Ru_composition_86 : decode m_Ru_composition.2.2.1 86 = .ok (.invokevirtual 76, 3) := by decide +kernel
theorem d_Ru_composition_89 : decode m_Ru_composition.2.2.1 89 = .ok (.iadd, 1) := by decide +kernel
theorem d_Ru_composition_90 : decode m_Ru_composition.2.2.1 90 = .ok (.iaload, 1) := by decide +kernel
theorem d_Ru_composition_91 : decode m_Ru_composition.2.2.1 91 = .ok (.aload_n 0, 1) := by decide +kernel
theorem d_Ru_composition_92 : decode m_Ru_composition.2.2.1 92 = .ok (.iload 6, 2) := by decide +kernel
theorem d_Ru_composition_94 : decode m_Ru_composition.2.2.1 94 = .ok (.invokevirtual 79, 3) := by decide +kernel
theorem d_Ru_composition_97 : decode m_Ru_composition.2.2.1 97 = .ok (.invokestatic 95, 3) := by decide +kernel
theorem d_Ru_composition_100 : decode m_Ru_composition.2.2.1 100 = .ok (.istore 7, 2) := by decide +kernel
theorem d_Ru_composition_102 : decode m_Ru_composition.2.2.1 102 = .ok (.iload 7, 2) := by decide +kernel
theorem d_Ru_composition_104 : decode m_Ru_composition.2.2.1 104 = .ok (.aload_n 0, 1) := by decide +kernel
theorem d_Ru_composition_105 : decode m_Ru_composition.2.2.1 105 = .ok (.getfield 26, 3) := by decide +kernel
theorem d_Ru_composition_108 : decode m_Ru_composition.2.2.1 108 = .ok (.iload_n 1, 1) := by decide +kernel
theorem d_Ru_composition_109 : decode m_Ru_composition.2.2.1 109 = .ok (.aload_n 0, 1) := by decide +kernel
theorem d_Ru_composition_110 : decode m_Ru_composition.2.2.1 110 = .ok (.iload 6, 2) := by decide +kernel
theorem d_Ru_composition_112 : decode m_Ru_composition.2.2.1 112 = .ok (.invokevirtual 73, 3) := by decide +kernel
theorem d_Ru_composition_115 : decode m_Ru_composition.2.2.1 115 = .ok (.invokevirtual 98, 3) := by decide +kernel
theorem d_Ru_composition_118 : decode m_Ru_composition.2.2.1 118 = .ok (.invokestatic 82, 3) := by decide +kernel
theorem d_Ru_composition_121 : decode m_Ru_composition.2.2.1 121 = .ok (.istore 8, 2) := by decide +kernel
theorem d_Ru_composition_123 : decode m_Ru_composition.2.2.1 123 = .ok (.iload_n 3, 1) := by decide +kernel
theorem d_Ru_composition_124 : decode m_Ru_composition.2.2.1 124 = .ok (.iload 4, 2) := by decide +kernel
theorem d_Ru_composition_126 : decode m_Ru_composition.2.2.1 126 = .ok (.iload 8, 2) := by decide +kernel
theorem d_Ru_composition_128 : decode m_Ru_composition.2.2.1 128 = .ok (.invokestatic 82, 3) := by decide +kernel
theorem d_Ru_composition_131 : decode m_Ru_composition.2.2.1 131 = .ok (.invokestatic 87, 3) := by decide +kernel
theorem d_Ru_composition_134 : decode m_Ru_composition.2.2.1 134 = .ok (.istore_n 3, 1) := by decide +kernel
theorem d_Ru_composition_135 : decode m_Ru_composition.2.2.1 135 = .ok (.iload 4, 2) := by decide +kernel
theorem d_Ru_composition_137 : decode m_Ru_composition.2.2.1 137 = .ok (.iload_n 2, 1) := by decide +kernel
theorem d_Ru_composition_138 : decode m_Ru_composition.2.2.1 138 = .ok (.invokestatic 82, 3) := by decide +kernel
theorem d_Ru_composition_141 : decode m_Ru_composition.2.2.1 141 = .ok (.istore 4, 2) := by decide +kernel
theorem d_Ru_composition_143 : decode m_Ru_composition.2.2.1 143 = .ok (.iinc 6 (1), 3) := by decide +kernel
theorem d_Ru_composition_146 : decode m_Ru_composition.2.2.1 146 = .ok (.goto (-77), 3) := by decide +kernel
theorem d_Ru_composition_149 : decode m_Ru_composition.2.2.1 149 = .ok (.iload_n 3, 1) := by decide +kernel
theorem d_Ru_composition_150 : decode m_Ru_composition.2.2.1 150 = .ok (.ireturn, 1) := by decide +kernel
theorem d_Ru_boundColumn_0 : decode m_Ru_boundColumn.2.2.1 0 = .ok (.aload_n 0, 1) := by decide +kernel
theorem d_Ru_boundColumn_1 : decode m_Ru_boundColumn.2.2.1 1 = .ok (.getfield 20, 3) := by decide +kernel
theorem d_Ru_boundColumn_4 : decode m_Ru_boundColumn.2.2.1 4 = .ok (.iconst 3, 1) := by decide +kernel
theorem d_Ru_boundColumn_5 : decode m_Ru_boundColumn.2.2.1 5 = .ok (.iload_n 1, 1) := by decide +kernel
theorem d_Ru_boundColumn_6 : decode m_Ru_boundColumn.2.2.1 6 = .ok (.imul, 1) := by decide +kernel
theorem d_Ru_boundColumn_7 : decode m_Ru_boundColumn.2.2.1 7 = .ok (.iaload, 1) := by decide +kernel
theorem d_Ru_boundColumn_8 : decode m_Ru_boundColumn.2.2.1 8 = .ok (.ireturn, 1) := by decide +kernel
theorem d_Ru_boundRow_0 : decode m_Ru_boundRow.2.2.1 0 = .ok (.aload_n 0, 1) := by decide +kernel
theorem d_Ru_boundRow_1 : decode m_Ru_boundRow.2.2.1 1 = .ok (.getfield 20, 3) := by decide +kernel
theorem d_Ru_boundRow_4 : decode m_Ru_boundRow.2.2.1 4 = .ok (.iconst 3, 1) := by decide +kernel
theorem d_Ru_boundRow_5 : decode m_Ru_boundRow.2.2.1 5 = .ok (.iload_n 1, 1) := by decide +kernel
theorem d_Ru_boundRow_6 : decode m_Ru_boundRow.2.2.1 6 = .ok (.imul, 1) := by decide +kernel
theorem d_Ru_boundRow_7 : decode m_Ru_boundRow.2.2.1 7 = .ok (.iconst 1, 1) := by decide +kernel
theorem d_Ru_boundRow_8 : decode m_Ru_boundRow.2.2.1 8 = .ok (.iadd, 1) := by decide +kernel
theorem d_Ru_boundRow_9 : decode m_Ru_boundRow.2.2.1 9 = .ok (.iaload, 1) := by decide +kernel
theorem d_Ru_boundRow_10 : decode m_Ru_boundRow.2.2.1 10 = .ok (.ireturn, 1) := by decide +kernel
theorem d_Ru_boundValue_0 : decode m_Ru_boundValue.2.2.1 0 = .ok (.aload_n 0, 1) := by decide +kernel
theorem d_Ru_boundValue_1 : decode m_Ru_boundValue.2.2.1 1 = .ok (.getfield 20, 3) := by decide +kernel
theorem d_Ru_boundValue_4 : decode m_Ru_boundValue.2.2.1 4 = .ok (.iconst 3, 1) := by decide +kernel
theorem d_Ru_boundValue_5 : decode m_Ru_boundValue.2.2.1 5 = .ok (.iload_n 1, 1) := by decide +kernel
theorem d_Ru_boundValue_6 : decode m_Ru_boundValue.2.2.1 6 = .ok (.imul, 1) := by decide +kernel
theorem d_Ru_boundValue_7 : decode m_Ru_boundValue.2.2.1 7 = .ok (.iconst 2, 1) := by decide +kernel
theorem d_Ru_boundValue_8 : decode m_Ru_boundValue.2.2.1 8 = .ok (.iadd, 1) := by decide +kernel
theorem d_Ru_boundValue_9 : decode m_Ru_boundValue.2.2.1 9 = .ok (.iaload, 1) := by decide +kernel
theorem d_Ru_boundValue_10 : decode m_Ru_boundValue.2.2.1 10 = .ok (.ireturn, 1) := by decide +kernel
theorem d_Ta_init_0 : decode m_Ta_init.2.2.1 0 = .ok (.aload_n 0, 1) := by decide +kernel
theorem d_Ta_init_1 : decode m_Ta_init.2.2.1 1 = .ok (.invokespecial 3, 3) := by decide +kernel
end
section
theorem d_Ta_init_4 : decode m_Ta_init.2.2.1 4 = .ok (.aload_n 0, 1) := by decide +kernel
theorem d_Ta_init_5 : decode m_Ta_init.2.2.1 5 = .ok (.iconst 2, 1) := by decide +kernel
theorem d_Ta_init_6 : decode m_Ta_init.2.2.1 6 = .ok (.bipush (8), 2) := by decide +kernel
theorem d_Ta_init_8 : decode m_Ta_init.2.2.1 8 = .ok (.multianewarray 9 2, 4) := by decide +kernel
theorem d_Ta_init_12 : decode m_Ta_init.2.2.1 12 = .ok (.putfield 11, 3) := by decide +kernel
theorem d_Ta_init_15 : decode m_Ta_init.2.2.1 15 = .ok (.aload_n 0, 1) := by decide +kernel
theorem d_Ta_init_16 : decode m_Ta_init.2.2.1 16 = .ok (.aload_n 1, 1) := by decide +kernel
theorem d_Ta_init_17 : decode m_Ta_init.2.2.1 17 = .ok (.putfield 16, 3) := by decide +kernel
theorem d_Ta_init_20 : decode m_Ta_init.2.2.1 20 = .ok (.return_, 1) := by decide +kernel
theorem d_Ta_put_0 : decode m_Ta_put.2.2.1 0 = .ok (.aload_n 0, 1) := by decide +kernel
theorem d_Ta_put_1 : decode m_Ta_put.2.2.1 1 = .ok (.getfield 11, 3) := by decide +kernel
theorem d_Ta_put_4 : decode m_Ta_put.2.2.1 4 = .ok (.iload_n 1, 1) := by decide +kernel
theorem d_Ta_put_5 : decode m_Ta_put.2.2.1 5 = .ok (.aaload, 1) := by decide +kernel
theorem d_Ta_put_6 : decode m_Ta_put.2.2.1 6 = .ok (.iload_n 2, 1) := by decide +kernel
theorem d_Ta_put_7 : decode m_Ta_put.2.2.1 7 = .ok (.iload_n 3, 1) := by decide +kernel
theorem d_Ta_put_8 : decode m_Ta_put.2.2.1 8 = .ok (.iastore, 1) := by decide +kernel
theorem d_Ta_put_9 : decode m_Ta_put.2.2.1 9 = .ok (.return_, 1) := by decide +kernel
theorem d_Ta_get_0 : decode m_Ta_get.2.2.1 0 = .ok (.aload_n 0, 1) := by decide +kernel
theorem d_Ta_get_1 : decode m_Ta_get.2.2.1 1 = .ok (.getfield 11, 3) := by decide +kernel
theorem d_Ta_get_4 : decode m_Ta_get.2.2.1 4 = .ok (.iload_n 1, 1) := by decide +kernel
theorem d_Ta_get_5 : decode m_Ta_get.2.2.1 5 = .ok (.aaload, 1) := by decide +kernel
theorem d_Ta_get_6 : decode m_Ta_get.2.2.1 6 = .ok (.iload_n 2, 1) := by decide +kernel
theorem d_Ta_get_7 : decode m_Ta_get.2.2.1 7 = .ok (.iaload, 1) := by decide +kernel
theorem d_Ta_get_8 : decode m_Ta_get.2.2.1 8 = .ok (.ireturn, 1) := by decide +kernel
theorem d_Ta_polynomial_0 : decode m_Ta_polynomial.2.2.1 0 = .ok (.aload_n 0, 1) := by decide +kernel
theorem d_Ta_polynomial_1 : decode m_Ta_polynomial.2.2.1 1 = .ok (.getfield 16, 3) := by decide +kernel
theorem d_Ta_polynomial_4 : decode m_Ta_polynomial.2.2.1 4 = .ok (.aload_n 0, 1) := by decide +kernel
theorem d_Ta_polynomial_5 : decode m_Ta_polynomial.2.2.1 5 = .ok (.getfield 11, 3) := by decide +kernel
theorem d_Ta_polynomial_8 : decode m_Ta_polynomial.2.2.1 8 = .ok (.iload_n 1, 1) := by decide +kernel
theorem d_Ta_polynomial_9 : decode m_Ta_polynomial.2.2.1 9 = .ok (.aaload, 1) := by decide +kernel
theorem d_Ta_polynomial_10 : decode m_Ta_polynomial.2.2.1 10 = .ok (.iload_n 2, 1) := by decide +kernel
theorem d_Ta_polynomial_11 : decode m_Ta_polynomial.2.2.1 11 = .ok (.invokevirtual 20, 3) := by decide +kernel
theorem d_Ta_polynomial_14 : decode m_Ta_polynomial.2.2.1 14 = .ok (.ireturn, 1) := by decide +kernel
theorem d_Tk_init_0 : decode m_Tk_init.2.2.1 0 = .ok (.aload_n 0, 1) := by decide +kernel
theorem d_Tk_init_1 : decode m_Tk_init.2.2.1 1 = .ok (.invokespecial 3, 3) := by decide +kernel
theorem d_Tk_init_4 : decode m_Tk_init.2.2.1 4 = .ok (.aload_n 0, 1) := by decide +kernel
theorem d_Tk_init_5 : decode m_Tk_init.2.2.1 5 = .ok (.iconst 3, 1) := by decide +kernel
theorem d_Tk_init_6 : decode m_Tk_init.2.2.1 6 = .ok (.newarray .int, 2) := by decide +kernel
theorem d_Tk_init_8 : decode m_Tk_init.2.2.1 8 = .ok (.putfield 9, 3) := by decide +kernel
theorem d_Tk_init_11 : decode m_Tk_init.2.2.1 11 = .ok (.aload_n 0, 1) := by decide +kernel
theorem d_Tk_init_12 : decode m_Tk_init.2.2.1 12 = .ok (.iconst 3, 1) := by decide +kernel
theorem d_Tk_init_13 : decode m_Tk_init.2.2.1 13 = .ok (.newarray .int, 2) := by decide +kernel
theorem d_Tk_init_15 : decode m_Tk_init.2.2.1 15 = .ok (.putfield 15, 3) := by decide +kernel
theorem d_Tk_init_18 : decode m_Tk_init.2.2.1 18 = .ok (.return_, 1) := by decide +kernel
theorem d_Tk_tell_0 : decode m_Tk_tell.2.2.1 0 = .ok (.aload_n 0, 1) := by decide +kernel
theorem d_Tk_tell_1 : decode m_Tk_tell.2.2.1 1 = .ok (.aload_n 0, 1) := by decide +kernel
theorem d_Tk_tell_2 : decode m_Tk_tell.2.2.1 2 = .ok (.getfield 18, 3) := by decide +kernel
theorem d_Tk_tell_5 : decode m_Tk_tell.2.2.1 5 = .ok (.iload_n 1, 1) := by decide +kernel
theorem d_Tk_tell_6 : decode m_Tk_tell.2.2.1 6 = .ok (.invokestatic 22, 3) := by decide +kernel
theorem d_Tk_tell_9 : decode m_Tk_tell.2.2.1 9 = .ok (.putfield 18, 3) := by decide +kernel
theorem d_Tk_tell_12 : decode m_Tk_tell.2.2.1 12 = .ok (.return_, 1) := by decide +kernel
theorem d_Tk_draw_0 : decode m_Tk_draw.2.2.1 0 = .ok (.aload_n 0, 1) := by decide +kernel
theorem d_Tk_draw_1 : decode m_Tk_draw.2.2.1 1 = .ok (.iload_n 1, 1) := by decide +kernel
theorem d_Tk_draw_2 : decode m_Tk_draw.2.2.1 2 = .ok (.invokevirtual 26, 3) := by decide +kernel
theorem d_Tk_draw_5 : decode m_Tk_draw.2.2.1 5 = .ok (.aload_n 0, 1) := by decide +kernel
theorem d_Tk_draw_6 : decode m_Tk_draw.2.2.1 6 = .ok (.getfield 18, 3) := by decide +kernel
theorem d_Tk_draw_9 : decode m_Tk_draw.2.2.1 9 = .ok (.ldc 30, 2) := by decide +kernel
theorem d_Tk_draw_11 : decode m_Tk_draw.2.2.1 11 = .ok (.iand, 1) := by decide +kernel
theorem d_Tk_draw_12 : decode m_Tk_draw.2.2.1 12 = .ok (.iload_n 2, 1) := by decide +kernel
theorem d_Tk_draw_13 : decode m_Tk_draw.2.2.1 13 = .ok (.irem, 1) := by decide +kernel
theorem d_Tk_draw_14 : decode m_Tk_draw.2.2.1 14 = .ok (.ireturn, 1) := by decide +kernel
theorem d_Tk_challenge_0 : decode m_Tk_challenge.2.2.1 0 = .ok (.aload_n 0, 1) := by decide +kernel
theorem d_Tk_challenge_1 : decode m_Tk_challenge.2.2.1 1 = .ok (.bipush (-7), 2) := by decide +kernel
theorem d_Tk_challenge_3 : decode m_Tk_challenge.2.2.1 3 = .ok (.sipush (12289), 3) := by decide +kernel
theorem d_Tk_challenge_6 : decode m_Tk_challenge.2.2.1 6 = .ok (.invokevirtual 33, 3) := by decide +kernel
theorem d_Tk_challenge_9 : decode m_Tk_challenge.2.2.1 9 = .ok (.ireturn, 1) := by decide +kernel
theorem d_Tk_begin_0 : decode m_Tk_begin.2.2.1 0 = .ok (.aload_n 0, 1) := by decide +kernel
theorem d_Tk_begin_1 : decode m_Tk_begin.2.2.1 1 = .ok (.iconst 1, 1) := by decide +kernel
theorem d_Tk_begin_2 : decode m_Tk_begin.2.2.1 2 = .ok (.putfield 18, 3) := by decide +kernel
theorem d_Tk_begin_5 : decode m_Tk_begin.2.2.1 5 = .ok (.aload_n 1, 1) := by decide +kernel
theorem d_Tk_begin_6 : decode m_Tk_begin.2.2.1 6 = .ok (.aload_n 0, 1) := by decide +kernel
theorem d_Tk_begin_7 : decode m_Tk_begin.2.2.1 7 = .ok (.invokevirtual 36, 3) := by decide +kernel
theorem d_Tk_begin_10 : decode m_Tk_begin.2.2.1 10 = .ok (.aload_n 0, 1) := by decide +kernel
theorem d_Tk_begin_11 : decode m_Tk_begin.2.2.1 11 = .ok (.iload_n 2, 1) := by decide +kernel
theorem d_Tk_begin_12 : decode m_Tk_begin.2.2.1 12 = .ok (.invokevirtual 26, 3) := by decide +kernel
theorem d_Tk_begin_15 : decode m_Tk_begin.2.2.1 15 = .ok (.aload_n 0, 1) := by decide +kernel
theorem d_Tk_begin_16 : decode m_Tk_begin.2.2.1 16 = .ok (.aload_n 0, 1) := by decide +kernel
theorem d_Tk_begin_17 : decode m_Tk_begin.2.2.1 17 = .ok (.invokevirtual 42, 3) := by decide +kernel
theorem d_Tk_begin_20 : decode m_Tk_begin.2.2.1 20 = .ok (.putfield 46, 3) := by decide +kernel
theorem d_Tk_begin_23 : decode m_Tk_begin.2.2.1 23 = .ok (.return_, 1) := by decide +kernel
theorem d_Tk_hearLayer_0 : decode m_Tk_hearLayer.2.2.1 0 = .ok (.aload_n 0, 1) := by decide +kernel
theorem d_Tk_hearLayer_1 : decode m_Tk_hearLayer.2.2.1 1 = .ok (.iload_n 2, 1) := by decide +kernel
theorem d_Tk_hearLayer_2 : decode m_Tk_hearLayer.2.2.1 2 = .ok (.invokevirtual 26, 3) := by decide +kernel
theorem d_Tk_hearLayer_5 : decode m_Tk_hearLayer.2.2.1 5 = .ok (.aload_n 0, 1) := by decide +kernel
theorem d_Tk_hearLayer_6 : decode m_Tk_hearLayer.2.2.1 6 = .ok (.getfield 9, 3) := by decide +kernel
theorem d_Tk_hearLayer_9 : decode m_Tk_hearLayer.2.2.1 9 = .ok (.iload_n 1, 1) := by decide +kernel
theorem d_Tk_hearLayer_10 : decode m_Tk_hearLayer.2.2.1 10 = .ok (.aload_n 0, 1) := by decide +kernel
theorem d_Tk_hearLayer_11 : decode m_Tk_hearLayer.2.2.1 11 = .ok (.invokevirtual 42, 3) := by decide +kernel
theorem d_Tk_hearLayer_14 : decode m_Tk_hearLayer.2.2.1 14 = .ok (.iastore, 1) := by decide +kernel
theorem d_Tk_hearLayer_15 : decode m_Tk_hearLayer.2.2.1 15 = .ok (.return_, 1) := by decide +kernel
theorem d_Tk_end_0 : decode m_Tk_end.2.2.1 0 = .ok (.aload_n 0, 1) := by decide +kernel
theorem d_Tk_end_1 : decode m_Tk_end.2.2.1 1 = .ok (.iload_n 1, 1) := by decide +kernel
theorem d_Tk_end_2 : decode m_Tk_end.2.2.1 2 = .ok (.invokevirtual 26, 3) := by decide +kernel
theorem d_Tk_end_5 : decode m_Tk_end.2.2.1 5 = .ok (.iconst 0, 1) := by decide +kernel
theorem d_Tk_end_6 : decode m_Tk_end.2.2.1 6 = .ok (.istore_n 2, 1) := by decide +kernel
theorem d_Tk_end_7 : decode m_Tk_end.2.2.1 7 = .ok (.iload_n 2, 1) := by decide +kernel
theorem d_Tk_end_8 : decode m_Tk_end.2.2.1 8 = .ok (.iconst 3, 1) := by decide +kernel
theorem d_Tk_end_9 : decode m_Tk_end.2.2.1 9 = .ok (.if_icmp .ge (23), 3) := by decide +kernel
theorem d_Tk_end_12 : decode m_Tk_end.2.2.1 12 = .ok (.aload_n 0, 1) := by decide +kernel
theorem d_Tk_end_13 : decode m_Tk_end.2.2.1 13 = .ok (.getfield 15, 3) := by decide +kernel
theorem d_Tk_end_16 : decode m_Tk_end.2.2.1 16 = .ok (.iload_n 2, 1) := by decide +kernel
theorem d_Tk_end_17 : decode m_Tk_end.2.2.1 17 = .ok (.aload_n 0, 1) := by decide +kernel
theorem d_Tk_end_18 : decode m_Tk_end.2.2.1 18 = .ok (.bipush (-9), 2) := by decide +kernel
theorem d_Tk_end_20 : decode m_Tk_end.2.2.1 20 = .ok (.bipush (16), 2) := by decide +kernel
theorem d_Tk_end_22 : decode m_Tk_end.2.2.1 22 = .ok (.invokevirtual 33, 3) := by decide +kernel
theorem d_Tk_end_25 : decode m_Tk_end.2.2.1 25 = .ok (.iastore, 1) := by decide +kernel
theorem d_Tk_end_26 : decode m_Tk_end.2.2.1 26 = .ok (.iinc 2 (1), 3) := by decide +kernel
theorem d_Tk_end_29 : decode m_Tk_end.2.2.1 29 = .ok (.goto (-22), 3) := by decide +kernel
theorem d_Tk_end_32 : decode m_Tk_end.2.2.1 32 = .ok (.return_, 1) := by decide +kernel
theorem d_Tr_init_0 : decode m_Tr_init.2.2.1 0 = .ok (.aload_n 0, 1) := by decide +kernel
theorem d_Tr_init_1 : decode m_Tr_init.2.2.1 1 = .ok (.invokespecial 1, 3) := by decide +kernel
theorem d_Tr_init_4 : decode m_Tr_init.2.2.1 4 = .ok (.aload_n 0, 1) := by decide +kernel
theorem d_Tr_init_5 : decode m_Tr_init.2.2.1 5 = .ok (.iload_n 1, 1) := by decide +kernel
theorem d_Tr_init_6 : decode m_Tr_init.2.2.1 6 = .ok (.putfield 7, 3) := by decide +kernel
theorem d_Tr_init_9 : decode m_Tr_init.2.2.1 9 = .ok (.aload_n 0, 1) := by decide +kernel
theorem d_Tr_init_10 : decode m_Tr_init.2.2.1 10 = .ok (.iconst 2, 1) := by decide +kernel
theorem d_Tr_init_11 : decode m_Tr_init.2.2.1 11 = .ok (.iload_n 1, 1) := by decide +kernel
theorem d_Tr_init_12 : decode m_Tr_init.2.2.1 12 = .ok (.imul, 1) := by decide +kernel
theorem d_Tr_init_13 : decode m_Tr_init.2.2.1 13 = .ok (.newarray .int, 2) := by decide +kernel
theorem d_Tr_init_15 : decode m_Tr_init.2.2.1 15 = .ok (.putfield 13, 3) := by decide +kernel
theorem d_Tr_init_18 : decode m_Tr_init.2.2.1 18 = .ok (.return_, 1) := by decide +kernel
theorem d_Tr_plant_0 : decode m_Tr_plant.2.2.1 0 = .ok (.aload_n 0, 1) := by decide +kernel
theorem d_Tr_plant_1 : decode m_Tr_plant.2.2.1 1 = .ok (.getfield 13, 3) := by decide +kernel
theorem d_Tr_plant_4 : decode m_Tr_plant.2.2.1 4 = .ok (.aload_n 0, 1) := by decide +kernel
theorem d_Tr_plant_5 : decode m_Tr_plant.2.2.1 5 = .ok (.getfield 7, 3) := by decide +kernel
theorem d_Tr_plant_8 : decode m_Tr_plant.2.2.1 8 = .ok (.iload_n 1, 1) := by decide +kernel
theorem d_Tr_plant_9 : decode m_Tr_plant.2.2.1 9 = .ok (.iadd, 1) := by decide +kernel
theorem d_Tr_plant_10 : decode m_Tr_plant.2.2.1 10 = .ok (.iload_n 2, 1) := by decide +kernel
theorem d_Tr_plant_11 : decode m_Tr_plant.2.2.1 11 = .ok (.iastore, 1) := by decide +kernel
theorem d_Tr_plant_12 : decode m_Tr_plant.2.2.1 12 = .ok (.return_, 1) := by decide +kernel
theorem d_Tr_grow_0 : decode m_Tr_grow.2.2.1 0 = .ok (.aload_n 0, 1) := by decide +kernel
theorem d_Tr_grow_1 : decode m_Tr_grow.2.2.1 1 = .ok (.getfield 7, 3) := by decide +kernel
theorem d_Tr_grow_4 : decode m_Tr_grow.2.2.1 4 = .ok (.iconst 1, 1) := by decide +kernel
theorem d_Tr_grow_5 : decode m_Tr_grow.2.2.1 5 = .ok (.isub, 1) := by decide +kernel
theorem d_Tr_grow_6 : decode m_Tr_grow.2.2.1 6 = .ok (.istore_n 1, 1) := by decide +kernel
theorem d_Tr_grow_7 : decode m_Tr_grow.2.2.1 7 = .ok (.iload_n 1, 1) := by decide +kernel
theorem d_Tr_grow_8 : decode m_Tr_grow.2.2.1 8 = .ok (.iconst 1, 1) := by decide +kernel
theorem d_Tr_grow_9 : decode m_Tr_grow.2.2.1 9 = .ok (.if_icmp .lt (36), 3) := by decide +kernel
theorem d_Tr_grow_12 : decode m_Tr_grow.2.2.1 12 = .ok (.aload_n 0, 1) := by decide +kernel
theorem d_Tr_grow_13 : decode m_Tr_grow.2.2.1 13 = .ok (.getfield 13, 3) := by decide +kernel
theorem d_Tr_grow_16 : decode m_Tr_grow.2.2.1 16 = .ok (.iload_n 1, 1) := by decide +kernel
theorem d_Tr_grow_17 : decode m_Tr_grow.2.2.1 17 = .ok (.aload_n 0, 1) := by decide +kernel
theorem d_Tr_grow_18 : decode m_Tr_grow.2.2.1 18 = .ok (.getfield 13, 3) := by decide +kernel
theorem d_Tr_grow_21 : decode m_Tr_grow.2.2.1 21 = .ok (.iconst 2, 1) := by decide +kernel
theorem d_Tr_grow_22 : decode m_Tr_grow.2.2.1 22 = .ok (.iload_n 1, 1) := by decide +kernel
theorem d_Tr_grow_23 : decode m_Tr_grow.2.2.1 23 = .ok (.imul, 1) := by decide +kernel
theorem d_Tr_grow_24 : decode m_Tr_grow.2.2.1 24 = .ok (.iaload, 1) := by decide +kernel
theorem d_Tr_grow_25 : decode m_Tr_grow.2.2.1 25 = .ok (.aload_n 0, 1) := by decide +kernel
theorem d_Tr_grow_26 : decode m_Tr_grow.2.2.1 26 = .ok (.getfield 13, 3) := by decide +kernel
theorem d_Tr_grow_29 : decode m_Tr_grow.2.2.1 29 = .ok (.iconst 2, 1) := by decide +kernel
theorem d_Tr_grow_30 : decode m_Tr_grow.2.2.1 30 = .ok (.iload_n 1, 1) := by decide +kernel
theorem d_Tr_grow_31 : decode m_Tr_grow.2.2.1 31 = .ok (.imul, 1) := by decide +kernel
theorem d_Tr_grow_32 : decode m_Tr_grow.2.2.1 32 = .ok (.iconst 1, 1) := by decide +kernel
theorem d_Tr_grow_33 : decode m_Tr_grow.2.2.1 33 = .ok (.iadd, 1) := by decide +kernel
theorem d_Tr_grow_34 : decode m_Tr_grow.2.2.1 34 = .ok (.iaload, 1) := by decide +kernel
theorem d_Tr_grow_35 : decode m_Tr_grow.2.2.1 35 = .ok (.invokestatic 17, 3) := by decide +kernel
theorem d_Tr_grow_38 : decode m_Tr_grow.2.2.1 38 = .ok (.iastore, 1) := by decide +kernel
theorem d_Tr_grow_39 : decode m_Tr_grow.2.2.1 39 = .ok (.iinc 1 (-1), 3) := by decide +kernel
theorem d_Tr_grow_42 : decode m_Tr_grow.2.2.1 42 = .ok (.goto (-35), 3) := by decide +kernel
theorem d_Tr_grow_45 : decode m_Tr_grow.2.2.1 45 = .ok (.aload_n 0, 1) := by decide +kernel
theorem d_Tr_grow_46 : decode m_Tr_grow.2.2.1 46 = .ok (.getfield 13, 3) := by decide +kernel
theorem d_Tr_grow_49 : decode m_Tr_grow.2.2.1 49 = .ok (.iconst 1, 1) := by decide +kernel
theorem d_Tr_grow_50 : decode m_Tr_grow.2.2.1 50 = .ok (.iaload, 1) := by decide +kernel
theorem d_Tr_grow_51 : decode m_Tr_grow.2.2.1 51 = .ok (.ireturn, 1) := by decide +kernel
theorem d_Tr_copyPath_0 : decode m_Tr_copyPath.2.2.1 0 = .ok (.iload_n 3, 1) := by decide +kernel
theorem d_Tr_copyPath_1 : decode m_Tr_copyPath.2.2.1 1 = .ok (.istore 4, 2) := by decide +kernel
theorem d_Tr_copyPath_3 : decode m_Tr_copyPath.2.2.1 3 = .ok (.aload_n 0, 1) := by decide +kernel
theorem d_Tr_copyPath_4 : decode m_Tr_copyPath.2.2.1 4 = .ok (.getfield 7, 3) := by decide +kernel
theorem d_Tr_copyPath_7 : decode m_Tr_copyPath.2.2.1 7 = .ok (.iload_n 1, 1) := by decide +kernel
theorem d_Tr_copyPath_8 : decode m_Tr_copyPath.2.2.1 8 = .ok (.iadd, 1) := by decide +kernel
theorem d_Tr_copyPath_9 : decode m_Tr_copyPath.2.2.1 9 = .ok (.istore 5, 2) := by decide +kernel
theorem d_Tr_copyPath_11 : decode m_Tr_copyPath.2.2.1 11 = .ok (.iload 5, 2) := by decide +kernel
theorem d_Tr_copyPath_13 : decode m_Tr_copyPath.2.2.1 13 = .ok (.iconst 1, 1) := by decide +kernel
theorem d_Tr_copyPath_14 : decode m_Tr_copyPath.2.2.1 14 = .ok (.if_icmp .le (28), 3) := by decide +kernel
theorem d_Tr_copyPath_17 : decode m_Tr_copyPath.2.2.1 17 = .ok (.aload_n 2, 1) := by decide +kernel
theorem d_Tr_copyPath_18 : decode m_Tr_copyPath.2.2.1 18 = .ok (.iload 4, 2) := by decide +kernel
theorem d_Tr_copyPath_20 : decode m_Tr_copyPath.2.2.1 20 = .ok (.aload_n 0, 1) := by decide +kernel
theorem d_Tr_copyPath_21 : decode m_Tr_copyPath.2.2.1 21 = .ok (.getfield 13, 3) := by decide +kernel
theorem d_Tr_copyPath_24 : decode m_Tr_copyPath.2.2.1 24 = .ok (.iload 5, 2) := by decide +kernel
theorem d_Tr_copyPath_26 : decode m_Tr_copyPath.2.2.1 26 = .ok (.iconst 1, 1) := by decide +kernel
theorem d_Tr_copyPath_27 : decode m_Tr_copyPath.2.2.1 27 = .ok (.ixor, 1) := by decide +kernel
theorem d_Tr_copyPath_28 : decode m_Tr_copyPath.2.2.1 28 = .ok (.iaload, 1) := by decide +kernel
theorem d_Tr_copyPath_29 : decode m_Tr_copyPath.2.2.1 29 = .ok (.iastore, 1) := by decide +kernel
theorem d_Tr_copyPath_30 : decode m_Tr_copyPath.2.2.1 30 = .ok (.iinc 4 (1), 3) := by decide +kernel
theorem d_Tr_copyPath_33 : decode m_Tr_copyPath.2.2.1 33 = .ok (.iload 5, 2) := by decide +kernel
theorem d_Tr_copyPath_35 : decode m_Tr_copyPath.2.2.1 35 = .ok (.iconst 2, 1) := by decide +kernel
theorem d_Tr_copyPath_36 : decode m_Tr_copyPath.2.2.1 36 = .ok (.idiv, 1) := by decide +kernel
theorem d_Tr_copyPath_37 : decode m_Tr_copyPath.2.2.1 37 = .ok (.istore 5, 2) := by decide +kernel
theorem d_Tr_copyPath_39 : decode m_Tr_copyPath.2.2.1 39 = .ok (.goto (-28), 3) := by decide +kernel
theorem d_Tr_copyPath_42 : decode m_Tr_copyPath.2.2.1 42 = .ok (.return_, 1) := by decide +kernel
theorem d_Tr_rootOf_0 : decode m_Tr_rootOf.2.2.1 0 = .ok (.iload_n 2, 1) := by decide +kernel
theorem d_Tr_rootOf_1 : decode m_Tr_rootOf.2.2.1 1 = .ok (.istore 5, 2) := by decide +kernel
theorem d_Tr_rootOf_3 : decode m_Tr_rootOf.2.2.1 3 = .ok (.iload 4, 2) := by decide +kernel
theorem d_Tr_rootOf_5 : decode m_Tr_rootOf.2.2.1 5 = .ok (.istore 6, 2) := by decide +kernel
theorem d_Tr_rootOf_7 : decode m_Tr_rootOf.2.2.1 7 = .ok (.iload_n 0, 1) := by decide +kernel
theorem d_Tr_rootOf_8 : decode m_Tr_rootOf.2.2.1 8 = .ok (.iload_n 1, 1) := by decide +kernel
theorem d_Tr_rootOf_9 : decode m_Tr_rootOf.2.2.1 9 = .ok (.iadd, 1) := by decide +kernel
theorem d_Tr_rootOf_10 : decode m_Tr_rootOf.2.2.1 10 = .ok (.istore 7, 2) := by decide +kernel
theorem d_Tr_rootOf_12 : decode m_Tr_rootOf.2.2.1 12 = .ok (.iload 7, 2) := by decide +kernel
theorem d_Tr_rootOf_14 : decode m_Tr_rootOf.2.2.1 14 = .ok (.iconst 1, 1) := by decide +kernel
theorem d_Tr_rootOf_15 : decode m_Tr_rootOf.2.2.1 15 = .ok (.if_icmp .le (45), 3) := by decide +kernel
theorem d_Tr_rootOf_18 : decode m_Tr_rootOf.2.2.1 18 = .ok (.iload 7, 2) := by decide +kernel
theorem d_Tr_rootOf_20 : decode m_Tr_rootOf.2.2.1 20 = .ok (.iconst 2, 1) := by decide +kernel
theorem d_Tr_rootOf_21 : decode m_Tr_rootOf.2.2.1 21 = .ok (.irem, 1) := by decide +kernel
theorem d_Tr_rootOf_22 : decode m_Tr_rootOf.2.2.1 22 = .ok (.ifCond .ne (15), 3) := by decide +kernel
theorem d_Tr_rootOf_25 : decode m_Tr_rootOf.2.2.1 25 = .ok (.iload 5, 2) := by decide +kernel
theorem d_Tr_rootOf_27 : decode m_Tr_rootOf.2.2.1 27 = .ok (.aload_n 3, 1) := by decide +kernel
theorem d_Tr_rootOf_28 : decode m_Tr_rootOf.2.2.1 28 = .ok (.iload 6, 2) := by decide +kernel
theorem d_Tr_rootOf_30 : decode m_Tr_rootOf.2.2.1 30 = .ok (.iaload, 1) := by decide +kernel
theorem d_Tr_rootOf_31 : decode m_Tr_rootOf.2.2.1 31 = .ok (.invokestatic 17, 3) := by decide +kernel
theorem d_Tr_rootOf_34 : decode m_Tr_rootOf.2.2.1 34 = .ok (.goto (12), 3) := by decide +kernel
theorem d_Tr_rootOf_37 : decode m_Tr_rootOf.2.2.1 37 = .ok (.aload_n 3, 1) := by decide +kernel
theorem d_Tr_rootOf_38 : decode m_Tr_rootOf.2.2.1 38 = .ok (.iload 6, 2) := by decide +kernel
theorem d_Tr_rootOf_40 : decode m_Tr_rootOf.2.2.1 40 = .ok (.iaload, 1) := by decide +kernel
theorem d_Tr_rootOf_41 : decode m_Tr_rootOf.2.2.1 41 = .ok (.iload 5, 2) := by decide +kernel
theorem d_Tr_rootOf_43 : decode m_Tr_rootOf.2.2.1 43 = .ok (.invokestatic 17, 3) := by decide +kernel
theorem d_Tr_rootOf_46 : decode m_Tr_rootOf.2.2.1 46 = .ok (.istore 5, 2) := by decide +kernel
theorem d_Tr_rootOf_48 : decode m_Tr_rootOf.2.2.1 48 = .ok (.iinc 6 (1), 3) := by decide +kernel
theorem d_Tr_rootOf_51 : decode m_Tr_rootOf.2.2.1 51 = .ok (.iload 7, 2) := by decide +kernel
theorem d_Tr_rootOf_53 : decode m_Tr_rootOf.2.2.1 53 = .ok (.iconst 2, 1) := by decide +kernel
theorem d_Tr_rootOf_54 : decode m_Tr_rootOf.2.2.1 54 = .ok (.idiv, 1) := by decide +kernel
theorem d_Tr_rootOf_55 : decode m_Tr_rootOf.2.2.1 55 = .ok (.istore 7, 2) := by decide +kernel
theorem d_Tr_rootOf_57 : decode m_Tr_rootOf.2.2.1 57 = .ok (.goto (-45), 3) := by decide +kernel
theorem d_Tr_rootOf_60 : decode m_Tr_rootOf.2.2.1 60 = .ok (.iload 5, 2) := by decide +kernel
theorem d_Tr_rootOf_62 : decode m_Tr_rootOf.2.2.1 62 = .ok (.ireturn, 1) := by decide +kernel
theorem d_Ve_init_0 : decode m_Ve_init.2.2.1 0 = .ok (.aload_n 0, 1) := by decide +kernel
theorem d_Ve_init_1 : decode m_Ve_init.2.2.1 1 = .ok (.invokespecial 3, 3) := by decide +kernel
theorem d_Ve_init_4 : decode m_Ve_init.2.2.1 4 = .ok (.aload_n 0, 1) := by decide +kernel
theorem d_Ve_init_5 : decode m_Ve_init.2.2.1 5 = .ok (.new 9, 3) := by decide +kernel
theorem d_Ve_init_8 : decode m_Ve_init.2.2.1 8 = .ok (.dup, 1) := by decide +kernel
theorem d_Ve_init_9 : decode m_Ve_init.2.2.1 9 = .ok (.invokespecial 11, 3) := by decide +kernel
theorem d_Ve_init_12 : decode m_Ve_init.2.2.1 12 = .ok (.putfield 12, 3) := by decide +kernel
theorem d_Ve_init_15 : decode m_Ve_init.2.2.1 15 = .ok (.aload_n 0, 1) := by decide +kernel
theorem d_Ve_init_16 : decode m_Ve_init.2.2.1 16 = .ok (.aload_n 1, 1) := by decide +kernel
theorem d_Ve_init_17 : decode m_Ve_init.2.2.1 17 = .ok (.putfield 18, 3) := by decide +kernel
theorem d_Ve_init_20 : decode m_Ve_init.2.2.1 20 = .ok (.aload_n 0, 1) := by decide +kernel
theorem d_Ve_init_21 : decode m_Ve_init.2.2.1 21 = .ok (.aload_n 2, 1) := by decide +kernel
theorem d_Ve_init_22 : decode m_Ve_init.2.2.1 22 = .ok (.putfield 22, 3) := by decide +kernel
theorem d_Ve_init_25 : decode m_Ve_init.2.2.1 25 = .ok (.aload_n 0, 1) := by decide +kernel
theorem d_Ve_init_26 : decode m_Ve_init.2.2.1 26 = .ok (.aload_n 3, 1) := by decide +kernel
theorem d_Ve_init_27 : decode m_Ve_init.2.2.1 27 = .ok (.putfield 26, 3) := by decide +kernel
theorem d_Ve_init_30 : decode m_Ve_init.2.2.1 30 = .ok (.aload_n 0, 1) := by decide +kernel
theorem d_Ve_init_31 : decode m_Ve_init.2.2.1 31 = .ok (.aload_n 3, 1) := by decide +kernel
theorem d_Ve_init_32 : decode m_Ve_init.2.2.1 32 = .ok (.getfield 30, 3) := by decide +kernel
theorem d_Ve_init_35 : decode m_Ve_init.2.2.1 35 = .ok (.putfield 36, 3) := by decide +kernel
theorem d_Ve_init_38 : decode m_Ve_init.2.2.1 38 = .ok (.return_, 1) := by decide +kernel
theorem d_Ve_place_0 : decode m_Ve_place.2.2.1 0 = .ok (.aload_n 0, 1) := by decide +kernel
theorem d_Ve_place_1 : decode m_Ve_place.2.2.1 1 = .ok (.getfield 12, 3) := by decide +kernel
theorem d_Ve_place_4 : decode m_Ve_place.2.2.1 4 = .ok (.getfield 37, 3) := by decide +kernel
theorem d_Ve_place_7 : decode m_Ve_place.2.2.1 7 = .ok (.iload_n 1, 1) := by decide +kernel
theorem d_Ve_place_8 : decode m_Ve_place.2.2.1 8 = .ok (.iaload, 1) := by decide +kernel
theorem d_Ve_place_9 : decode m_Ve_place.2.2.1 9 = .ok (.ireturn, 1) := by decide +kernel
theorem d_Ve_code_0 : decode m_Ve_code.2.2.1 0 = .ok (.aload_n 0, 1) := by decide +kernel
theorem d_Ve_code_1 : decode m_Ve_code.2.2.1 1 = .ok (.getfield 26, 3) := by decide +kernel
theorem d_Ve_code_4 : decode m_Ve_code.2.2.1 4 = .ok (.invokevirtual 40, 3) := by decide +kernel
theorem d_Ve_code_7 : decode m_Ve_code.2.2.1 7 = .ok (.ifCond .ne (5), 3) := by decide +kernel
theorem d_Ve_code_10 : decode m_Ve_code.2.2.1 10 = .ok (.iconst 1, 1) := by decide +kernel
theorem d_Ve_code_11 : decode m_Ve_code.2.2.1 11 = .ok (.ireturn, 1) := by decide +kernel
theorem d_Ve_code_12 : decode m_Ve_code.2.2.1 12 = .ok (.aload_n 0, 1) := by decide +kernel
theorem d_Ve_code_13 : decode m_Ve_code.2.2.1 13 = .ok (.invokevirtual 44, 3) := by decide +kernel
theorem d_Ve_code_16 : decode m_Ve_code.2.2.1 16 = .ok (.iconst 0, 1) := by decide +kernel
theorem d_Ve_code_17 : decode m_Ve_code.2.2.1 17 = .ok (.istore_n 1, 1) := by decide +kernel
theorem d_Ve_code_18 : decode m_Ve_code.2.2.1 18 = .ok (.iload_n 1, 1) := by decide +kernel
theorem d_Ve_code_19 : decode m_Ve_code.2.2.1 19 = .ok (.iconst 3, 1) := by decide +kernel
theorem d_Ve_code_20 : decode m_Ve_code.2.2.1 20 = .ok (.if_icmp .ge (21), 3) := by decide +kernel
theorem d_Ve_code_23 : decode m_Ve_code.2.2.1 23 = .ok (.aload_n 0, 1) := by decide +kernel
theorem d_Ve_code_24 : decode m_Ve_code.2.2.1 24 = .ok (.iload_n 1, 1) := by decide +kernel
theorem d_Ve_code_25 : decode m_Ve_code.2.2.1 25 = .ok (.invokevirtual 47, 3) := by decide +kernel
theorem d_Ve_code_28 : decode m_Ve_code.2.2.1 28 = .ok (.istore_n 2, 1) := by decide +kernel
theorem d_Ve_code_29 : decode m_Ve_code.2.2.1 29 = .ok (.iload_n 2, 1) := by decide +kernel
theorem d_Ve_code_30 : decode m_Ve_code.2.2.1 30 = .ok (.ifCond .eq (5), 3) := by decide +kernel
theorem d_Ve_code_33 : decode m_Ve_code.2.2.1 33 = .ok (.iload_n 2, 1) := by decide +kernel
theorem d_Ve_code_34 : decode m_Ve_code.2.2.1 34 = .ok (.ireturn, 1) := by decide +kernel
theorem d_Ve_code_35 : decode m_Ve_code.2.2.1 35 = .ok (.iinc 1 (1), 3) := by decide +kernel
theorem d_Ve_code_38 : decode m_Ve_code.2.2.1 38 = .ok (.goto (-20), 3) := by decide +kernel
theorem d_Ve_code_41 : decode m_Ve_code.2.2.1 41 = .ok (.iconst 0, 1) := by decide +kernel
theorem d_Ve_code_42 : decode m_Ve_code.2.2.1 42 = .ok (.ireturn, 1) := by decide +kernel
theorem d_Ve_listen_0 : decode m_Ve_listen.2.2.1 0 = .ok (.aload_n 0, 1) := by decide +kernel
theorem d_Ve_listen_1 : decode m_Ve_listen.2.2.1 1 = .ok (.getfield 12, 3) := by decide +kernel
theorem d_Ve_listen_4 : decode m_Ve_listen.2.2.1 4 = .ok (.aload_n 0, 1) := by decide +kernel
theorem d_Ve_listen_5 : decode m_Ve_listen.2.2.1 5 = .ok (.getfield 22, 3) := by decide +kernel
theorem d_Ve_listen_8 : decode m_Ve_listen.2.2.1 8 = .ok (.aload_n 0, 1) := by decide +kernel
theorem d_Ve_listen_9 : decode m_Ve_listen.2.2.1 9 = .ok (.getfield 36, 3) := by decide +kernel
theorem d_Ve_listen_12 : decode m_Ve_listen.2.2.1 12 = .ok (.iconst 0, 1) := by decide +kernel
theorem d_Ve_listen_13 : decode m_Ve_listen.2.2.1 13 = .ok (.iaload, 1) := by decide +kernel
theorem d_Ve_listen_14 : decode m_Ve_listen.2.2.1 14 = .ok (.invokevirtual 51, 3) := by decide +kernel
theorem d_Ve_listen_17 : decode m_Ve_listen.2.2.1 17 = .ok (.iconst 0, 1) := by decide +kernel
theorem d_Ve_listen_18 : decode m_Ve_listen.2.2.1 18 = .ok (.istore_n 1, 1) := by decide +kernel
theorem d_Ve_listen_19 : decode m_Ve_listen.2.2.1 19 = .ok (.iload_n 1, 1) := by decide +kernel
theorem d_Ve_listen_20 : decode m_Ve_listen.2.2.1 20 = .ok (.iconst 3, 1) := by decide +kernel
theorem d_Ve_listen_21 : decode m_Ve_listen.2.2.1 21 = .ok (.if_icmp .ge (25), 3) := by decide +kernel
theorem d_Ve_listen_24 : decode m_Ve_listen.2.2.1 24 = .ok (.aload_n 0, 1) := by decide +kernel
theorem d_Ve_listen_25 : decode m_Ve_listen.2.2.1 25 = .ok (.getfield 12, 3) := by decide +kernel
theorem d_Ve_listen_28 : decode m_Ve_listen.2.2.1 28 = .ok (.iload_n 1, 1) := by decide +kernel
theorem d_Ve_listen_29 : decode m_Ve_listen.2.2.1 29 = .ok (.aload_n 0, 1) := by decide +kernel
theorem d_Ve_listen_30 : decode m_Ve_listen.2.2.1 30 = .ok (.getfield 36, 3) := by decide +kernel
theorem d_Ve_listen_33 : decode m_Ve_listen.2.2.1 33 = .ok (.iconst 1, 1) := by decide +kernel
theorem d_Ve_listen_34 : decode m_Ve_listen.2.2.1 34 = .ok (.iload_n 1, 1) := by decide +kernel
theorem d_Ve_listen_35 : decode m_Ve_listen.2.2.1 35 = .ok (.iadd, 1) := by decide +kernel
theorem d_Ve_listen_36 : decode m_Ve_listen.2.2.1 36 = .ok (.iaload, 1) := by decide +kernel
theorem d_Ve_listen_37 : decode m_Ve_listen.2.2.1 37 = .ok (.invokevirtual 55, 3) := by decide +kernel
theorem d_Ve_listen_40 : decode m_Ve_listen.2.2.1 40 = .ok (.iinc 1 (1), 3) := by decide +kernel
theorem d_Ve_listen_43 : decode m_Ve_listen.2.2.1 43 = .ok (.goto (-24), 3) := by decide +kernel
theorem d_Ve_listen_46 : decode m_Ve_listen.2.2.1 46 = .ok (.aload_n 0, 1) := by decide +kernel
theorem d_Ve_listen_47 : decode m_Ve_listen.2.2.1 47 = .ok (.getfield 12, 3) := by decide +kernel
theorem d_Ve_listen_50 : decode m_Ve_listen.2.2.1 50 = .ok (.aload_n 0, 1) := by decide +kernel
theorem d_Ve_listen_51 : decode m_Ve_listen.2.2.1 51 = .ok (.getfield 36, 3) := by decide +kernel
theorem d_Ve_listen_54 : decode m_Ve_listen.2.2.1 54 = .ok (.iconst 4, 1) := by decide +kernel
theorem d_Ve_listen_55 : decode m_Ve_listen.2.2.1 55 = .ok (.iaload, 1) := by decide +kernel
theorem d_Ve_listen_56 : decode m_Ve_listen.2.2.1 56 = .ok (.invokevirtual 59, 3) := by decide +kernel
theorem d_Ve_listen_59 : decode m_Ve_listen.2.2.1 59 = .ok (.return_, 1) := by decide +kernel
theorem d_Ve_codeOf_0 : decode m_Ve_codeOf.2.2.1 0 = .ok (.aload_n 0, 1) := by decide +kernel
theorem d_Ve_codeOf_1 : decode m_Ve_codeOf.2.2.1 1 = .ok (.iload_n 1, 1) := by decide +kernel
theorem d_Ve_codeOf_2 : decode m_Ve_codeOf.2.2.1 2 = .ok (.invokevirtual 63, 3) := by decide +kernel
theorem d_Ve_codeOf_5 : decode m_Ve_codeOf.2.2.1 5 = .ok (.ifCond .ne (5), 3) := by decide +kernel
theorem d_Ve_codeOf_8 : decode m_Ve_codeOf.2.2.1 8 = .ok (.iconst 2, 1) := by decide +kernel
theorem d_Ve_codeOf_9 : decode m_Ve_codeOf.2.2.1 9 = .ok (.ireturn, 1) := by decide +kernel
theorem d_Ve_codeOf_10 : decode m_Ve_codeOf.2.2.1 10 = .ok (.aload_n 0, 1) := by decide +kernel
theorem d_Ve_codeOf_11 : decode m_Ve_codeOf.2.2.1 11 = .ok (.iload_n 1, 1) := by decide +kernel
theorem d_Ve_codeOf_12 : decode m_Ve_codeOf.2.2.1 12 = .ok (.iconst 0, 1) := by decide +kernel
theorem d_Ve_codeOf_13 : decode m_Ve_codeOf.2.2.1 13 = .ok (.invokevirtual 67, 3) := by decide +kernel
theorem d_Ve_codeOf_16 : decode m_Ve_codeOf.2.2.1 16 = .ok (.ifCond .ne (5), 3) := by decide +kernel
theorem d_Ve_codeOf_19 : decode m_Ve_codeOf.2.2.1 19 = .ok (.iconst 3, 1) := by decide +kernel
theorem d_Ve_codeOf_20 : decode m_Ve_codeOf.2.2.1 20 = .ok (.ireturn, 1) := by decide +kernel
theorem d_Ve_codeOf_21 : decode m_Ve_codeOf.2.2.1 21 = .ok (.aload_n 0, 1) := by decide +kernel
theorem d_Ve_codeOf_22 : decode m_Ve_codeOf.2.2.1 22 = .ok (.iload_n 1, 1) := by decide +kernel
theorem d_Ve_codeOf_23 : decode m_Ve_codeOf.2.2.1 23 = .ok (.iconst 0, 1) := by decide +kernel
theorem d_Ve_codeOf_24 : decode m_Ve_codeOf.2.2.1 24 = .ok (.invokevirtual 71, 3) := by decide +kernel
theorem d_Ve_codeOf_27 : decode m_Ve_codeOf.2.2.1 27 = .ok (.ifCond .eq (12), 3) := by decide +kernel
theorem d_Ve_codeOf_30 : decode m_Ve_codeOf.2.2.1 30 = .ok (.aload_n 0, 1) := by decide +kernel
theorem d_Ve_codeOf_31 : decode m_Ve_codeOf.2.2.1 31 = .ok (.iload_n 1, 1) := by decide +kernel
theorem d_Ve_codeOf_32 : decode m_Ve_codeOf.2.2.1 32 = .ok (.iconst 1, 1) := by decide +kernel
theorem d_Ve_codeOf_33 : decode m_Ve_codeOf.2.2.1 33 = .ok (.invokevirtual 71, 3) := by decide +kernel
theorem d_Ve_codeOf_36 : decode m_Ve_codeOf.2.2.1 36 = .ok (.ifCond .ne (5), 3) := by decide +kernel
theorem d_Ve_codeOf_39 : decode m_Ve_codeOf.2.2.1 39 = .ok (.iconst 4, 1) := by decide +kernel
theorem d_Ve_codeOf_40 : decode m_Ve_codeOf.2.2.1 40 = .ok (.ireturn, 1) := by decide +kernel
theorem d_Ve_codeOf_41 : decode m_Ve_codeOf.2.2.1 41 = .ok (.aload_n 0, 1) := by decide +kernel
theorem d_Ve_codeOf_42 : decode m_Ve_codeOf.2.2.1 42 = .ok (.iload_n 1, 1) := by decide +kernel
theorem d_Ve_codeOf_43 : decode m_Ve_codeOf.2.2.1 43 = .ok (.iconst 1, 1) := by decide +kernel
theorem d_Ve_codeOf_44 : decode m_Ve_codeOf.2.2.1 44 = .ok (.invokevirtual 67, 3) := by decide +kernel
theorem d_Ve_codeOf_47 : decode m_Ve_codeOf.2.2.1 47 = .ok (.ifCond .ne (5), 3) := by decide +kernel
theorem d_Ve_codeOf_50 : decode m_Ve_codeOf.2.2.1 50 = .ok (.iconst 5, 1) := by decide +kernel
theorem d_Ve_codeOf_51 : decode m_Ve_codeOf.2.2.1 51 = .ok (.ireturn, 1) := by decide +kernel
theorem d_Ve_codeOf_52 : decode m_Ve_codeOf.2.2.1 52 = .ok (.aload_n 0, 1) := by decide +kernel
theorem d_Ve_codeOf_53 : decode m_Ve_codeOf.2.2.1 53 = .ok (.iload_n 1, 1) := by decide +kernel
theorem d_Ve_codeOf_54 : decode m_Ve_codeOf.2.2.1 54 = .ok (.iconst 0, 1) := by decide +kernel
theorem d_Ve_codeOf_55 : decode m_Ve_codeOf.2.2.1 55 = .ok (.invokevirtual 74, 3) := by decide +kernel
theorem d_Ve_codeOf_58 : decode m_Ve_codeOf.2.2.1 58 = .ok (.aload_n 0, 1) := by decide +kernel
theorem d_Ve_codeOf_59 : decode m_Ve_codeOf.2.2.1 59 = .ok (.iload_n 1, 1) := by decide +kernel
theorem d_Ve_codeOf_60 : decode m_Ve_codeOf.2.2.1 60 = .ok (.iconst 0, 1) := by decide +kernel
theorem d_Ve_codeOf_61 : decode m_Ve_codeOf.2.2.1 61 = .ok (.invokevirtual 78, 3) := by decide +kernel
theorem d_Ve_codeOf_64 : decode m_Ve_codeOf.2.2.1 64 = .ok (.if_icmp .eq (6), 3) := by decide +kernel
theorem d_Ve_codeOf_67 : decode m_Ve_codeOf.2.2.1 67 = .ok (.bipush (6), 2) := by decide +kernel
theorem d_Ve_codeOf_69 : decode m_Ve_codeOf.2.2.1 69 = .ok (.ireturn, 1) := by decide +kernel
theorem d_Ve_codeOf_70 : decode m_Ve_codeOf.2.2.1 70 = .ok (.aload_n 0, 1) := by decide +kernel
theorem d_Ve_codeOf_71 : decode m_Ve_codeOf.2.2.1 71 = .ok (.iload_n 1, 1) := by decide +kernel
theorem d_Ve_codeOf_72 : decode m_Ve_codeOf.2.2.1 72 = .ok (.iconst 2, 1) := by decide +kernel
theorem d_Ve_codeOf_73 : decode m_Ve_codeOf.2.2.1 73 = .ok (.invokevirtual 67, 3) := by decide +kernel
theorem d_Ve_codeOf_76 : decode m_Ve_codeOf.2.2.1 76 = .ok (.ifCond .ne (6), 3) := by decide +kernel
theorem d_Ve_codeOf_79 : decode m_Ve_codeOf.2.2.1 79 = .ok (.bipush (7), 2) := by decide +kernel
theorem d_Ve_codeOf_81 : decode m_Ve_codeOf.2.2.1 81 = .ok (.ireturn, 1) := by decide +kernel
theorem d_Ve_codeOf_82 : decode m_Ve_codeOf.2.2.1 82 = .ok (.aload_n 0, 1) := by decide +kernel
theorem d_Ve_codeOf_83 : decode m_Ve_codeOf.2.2.1 83 = .ok (.iload_n 1, 1) := by decide +kernel
theorem d_Ve_codeOf_84 : decode m_Ve_codeOf.2.2.1 84 = .ok (.iconst 1, 1) := by decide +kernel
theorem d_Ve_codeOf_85 : decode m_Ve_codeOf.2.2.1 85 = .ok (.invokevirtual 74, 3) := by decide +kernel
theorem d_Ve_codeOf_88 : decode m_Ve_codeOf.2.2.1 88 = .ok (.aload_n 0, 1) := by decide +kernel
theorem d_Ve_codeOf_89 : decode m_Ve_codeOf.2.2.1 89 = .ok (.iload_n 1, 1) := by decide +kernel
theorem d_Ve_codeOf_90 : decode m_Ve_codeOf.2.2.1 90 = .ok (.iconst 1, 1) := by decide +kernel
theorem d_Ve_codeOf_91 : decode m_Ve_codeOf.2.2.1 91 = .ok (.invokevirtual 78, 3) := by decide +kernel
theorem d_Ve_codeOf_94 : decode m_Ve_codeOf.2.2.1 94 = .ok (.if_icmp .eq (6), 3) := by decide +kernel
theorem d_Ve_codeOf_97 : decode m_Ve_codeOf.2.2.1 97 = .ok (.bipush (8), 2) := by decide +kernel
theorem d_Ve_codeOf_99 : decode m_Ve_codeOf.2.2.1 99 = .ok (.ireturn, 1) := by decide +kernel
theorem d_Ve_codeOf_100 : decode m_Ve_codeOf.2.2.1 100 = .ok (.aload_n 0, 1) := by decide +kernel
theorem d_Ve_codeOf_101 : decode m_Ve_codeOf.2.2.1 101 = .ok (.iload_n 1, 1) := by decide +kernel
theorem d_Ve_codeOf_102 : decode m_Ve_codeOf.2.2.1 102 = .ok (.iconst 2, 1) := by decide +kernel
theorem d_Ve_codeOf_103 : decode m_Ve_codeOf.2.2.1 103 = .ok (.invokevirtual 74, 3) := by decide +kernel
theorem d_Ve_codeOf_106 : decode m_Ve_codeOf.2.2.1 106 = .ok (.aload_n 0, 1) := by decide +kernel
theorem d_Ve_codeOf_107 : decode m_Ve_codeOf.2.2.1 107 = .ok (.getfield 36, 3) := by decide +kernel
theorem d_Ve_codeOf_110 : decode m_Ve_codeOf.2.2.1 110 = .ok (.iconst 4, 1) := by decide +kernel
theorem d_Ve_codeOf_111 : decode m_Ve_codeOf.2.2.1 111 = .ok (.iaload, 1) := by decide +kernel
theorem d_Ve_codeOf_112 : decode m_Ve_codeOf.2.2.1 112 = .ok (.if_icmp .ne (7), 3) := by decide +kernel
theorem d_Ve_codeOf_115 : decode m_Ve_codeOf.2.2.1 115 = .ok (.iconst 0, 1) := by decide +kernel
theorem d_Ve_codeOf_116 : decode m_Ve_codeOf.2.2.1 116 = .ok (.goto (5), 3) := by decide +kernel
theorem d_Ve_codeOf_119 : decode m_Ve_codeOf.2.2.1 119 = .ok (.bipush (9), 2) := by decide +kernel
theorem d_Ve_codeOf_121 : decode m_Ve_codeOf.2.2.1 121 = .ok (.ireturn, 1) := by decide +kernel
theorem d_Ve_doColumnPathsLead_0 : decode m_Ve_doColumnPathsLead.2.2.1 0 = .ok (.iconst 0, 1) := by decide +kernel
theorem d_Ve_doColumnPathsLead_1 : decode m_Ve_doColumnPathsLead.2.2.1 1 = .ok (.istore_n 2, 1) := by decide +kernel
theorem d_Ve_doColumnPathsLead_2 : decode m_Ve_doColumnPathsLead.2.2.1 2 = .ok (.iload_n 2, 1) := by decide +kernel
theorem d_Ve_doColumnPathsLead_3 : decode m_Ve_doColumnPathsLead.2.2.1 3 = .ok (.iconst 4, 1) := by decide +kernel
theorem d_Ve_doColumnPathsLead_4 : decode m_Ve_doColumnPathsLead.2.2.1 4 = .ok (.if_icmp .ge (74), 3) := by decide +kernel
theorem d_Ve_doColumnPathsLead_7 : decode m_Ve_doColumnPathsLead.2.2.1 7 = .ok (.aload_n 0, 1) := by decide +kernel
theorem d_Ve_doColumnPathsLead_8 : decode m_Ve_doColumnPathsLead.2.2.1 8 = .ok (.iload_n 1, 1) := by decide +kernel
theorem d_Ve_doColumnPathsLead_9 : decode m_Ve_doColumnPathsLead.2.2.1 9 = .ok (.invokevirtual 81, 3) := by decide +kernel
theorem d_Ve_doColumnPathsLead_12 : decode m_Ve_doColumnPathsLead.2.2.1 12 = .ok (.iload_n 2, 1) := by decide +kernel
theorem d_Ve_doColumnPathsLead_13 : decode m_Ve_doColumnPathsLead.2.2.1 13 = .ok (.invokestatic 84, 3) := by decide +kernel
theorem d_Ve_doColumnPathsLead_16 : decode m_Ve_doColumnPathsLead.2.2.1 16 = .ok (.istore_n 3, 1) := by decide +kernel
theorem d_Ve_doColumnPathsLead_17 : decode m_Ve_doColumnPathsLead.2.2.1 17 = .ok (.iload_n 1, 1) := by decide +kernel
theorem d_Ve_doColumnPathsLead_18 : decode m_Ve_doColumnPathsLead.2.2.1 18 = .ok (.iload_n 2, 1) := by decide +kernel
theorem d_Ve_doColumnPathsLead_19 : decode m_Ve_doColumnPathsLead.2.2.1 19 = .ok (.invokestatic 87, 3) := by decide +kernel
theorem d_Ve_doColumnPathsLead_22 : decode m_Ve_doColumnPathsLead.2.2.1 22 = .ok (.istore 4, 2) := by decide +kernel
theorem d_Ve_doColumnPathsLead_24 : decode m_Ve_doColumnPathsLead.2.2.1 24 = .ok (.aload_n 0, 1) := by decide +kernel
theorem d_Ve_doColumnPathsLead_25 : decode m_Ve_doColumnPathsLead.2.2.1 25 = .ok (.getfield 36, 3) := by decide +kernel
theorem d_Ve_doColumnPathsLead_28 : decode m_Ve_doColumnPathsLead.2.2.1 28 = .ok (.iload 4, 2) := by decide +kernel
theorem d_Ve_doColumnPathsLead_30 : decode m_Ve_doColumnPathsLead.2.2.1 30 = .ok (.iaload, 1) := by decide +kernel
theorem d_Ve_doColumnPathsLead_31 : decode m_Ve_doColumnPathsLead.2.2.1 31 = .ok (.aload_n 0, 1) := by decide +kernel
theorem d_Ve_doColumnPathsLead_32 : decode m_Ve_doColumnPathsLead.2.2.1 32 = .ok (.getfield 36, 3) := by decide +kernel
theorem d_Ve_doColumnPathsLead_35 : decode m_Ve_doColumnPathsLead.2.2.1 35 = .ok (.iload 4, 2) := by decide +kernel
theorem d_Ve_doColumnPathsLead_37 : decode m_Ve_doColumnPathsLead.2.2.1 37 = .ok (.iconst 1, 1) := by decide +kernel
theorem d_Ve_doColumnPathsLead_38 : decode m_Ve_doColumnPathsLead.2.2.1 38 = .ok (.iadd, 1) := by decide +kernel
theorem d_Ve_doColumnPathsLead_39 : decode m_Ve_doColumnPathsLead.2.2.1 39 = .ok (.iaload, 1) := by decide +kernel
theorem d_Ve_doColumnPathsLead_40 : decode m_Ve_doColumnPathsLead.2.2.1 40 = .ok (.invokestatic 90, 3) := by decide +kernel
theorem d_Ve_doColumnPathsLead_43 : decode m_Ve_doColumnPathsLead.2.2.1 43 = .ok (.istore 5, 2) := by decide +kernel
theorem d_Ve_doColumnPathsLead_45 : decode m_Ve_doColumnPathsLead.2.2.1 45 = .ok (.bipush (32), 2) := by decide +kernel
theorem d_Ve_doColumnPathsLead_47 : decode m_Ve_doColumnPathsLead.2.2.1 47 = .ok (.iload_n 3, 1) := by decide +kernel
theorem d_Ve_doColumnPathsLead_48 : decode m_Ve_doColumnPathsLead.2.2.1 48 = .ok (.iload 5, 2) := by decide +kernel
theorem d_Ve_doColumnPathsLead_50 : decode m_Ve_doColumnPathsLead.2.2.1 50 = .ok (.aload_n 0, 1) := by decide +kernel
theorem d_Ve_doColumnPathsLead_51 : decode m_Ve_doColumnPathsLead.2.2.1 51 = .ok (.getfield 36, 3) := by decide +kernel
theorem d_Ve_doColumnPathsLead_54 : decode m_Ve_doColumnPathsLead.2.2.1 54 = .ok (.iload 4, 2) := by decide +kernel
theorem d_Ve_doColumnPathsLead_56 : decode m_Ve_doColumnPathsLead.2.2.1 56 = .ok (.iconst 2, 1) := by decide +kernel
theorem d_Ve_doColumnPathsLead_57 : decode m_Ve_doColumnPathsLead.2.2.1 57 = .ok (.iadd, 1) := by decide +kernel
theorem d_Ve_doColumnPathsLead_58 : decode m_Ve_doColumnPathsLead.2.2.1 58 = .ok (.invokestatic 93, 3) := by decide +kernel
theorem d_Ve_doColumnPathsLead_61 : decode m_Ve_doColumnPathsLead.2.2.1 61 = .ok (.aload_n 0, 1) := by decide +kernel
theorem d_Ve_doColumnPathsLead_62 : decode m_Ve_doColumnPathsLead.2.2.1 62 = .ok (.getfield 36, 3) := by decide +kernel
theorem d_Ve_doColumnPathsLead_65 : decode m_Ve_doColumnPathsLead.2.2.1 65 = .ok (.iconst 0, 1) := by decide +kernel
theorem d_Ve_doColumnPathsLead_66 : decode m_Ve_doColumnPathsLead.2.2.1 66 = .ok (.iaload, 1) := by decide +kernel
theorem d_Ve_doColumnPathsLead_67 : decode m_Ve_doColumnPathsLead.2.2.1 67 = .ok (.if_icmp .eq (5), 3) := by decide +kernel
theorem d_Ve_doColumnPathsLead_70 : decode m_Ve_doColumnPathsLead.2.2.1 70 = .ok (.iconst 0, 1) := by decide +kernel
theorem d_Ve_doColumnPathsLead_71 : decode m_Ve_doColumnPathsLead.2.2.1 71 = .ok (.ireturn, 1) := by decide +kernel
theorem d_Ve_doColumnPathsLead_72 : decode m_Ve_doColumnPathsLead.2.2.1 72 = .ok (.iinc 2 (1), 3) := by decide +kernel
theorem d_Ve_doColumnPathsLead_75 : decode m_Ve_doColumnPathsLead.2.2.1 75 = .ok (.goto (-73), 3) := by decide +kernel
theorem d_Ve_doColumnPathsLead_78 : decode m_Ve_doColumnPathsLead.2.2.1 78 = .ok (.iconst 1, 1) := by decide +kernel
theorem d_Ve_doColumnPathsLead_79 : decode m_Ve_doColumnPathsLead.2.2.1 79 = .ok (.ireturn, 1) := by decide +kernel
theorem d_Ve_doLayerPathsLead_0 : decode m_Ve_doLayerPathsLead.2.2.1 0 = .ok (.iload_n 2, 1) := by decide +kernel
theorem d_Ve_doLayerPathsLead_1 : decode m_Ve_doLayerPathsLead.2.2.1 1 = .ok (.invokestatic 99, 3) := by decide +kernel
theorem d_Ve_doLayerPathsLead_4 : decode m_Ve_doLayerPathsLead.2.2.1 4 = .ok (.istore_n 3, 1) := by decide +kernel
theorem d_Ve_doLayerPathsLead_5 : decode m_Ve_doLayerPathsLead.2.2.1 5 = .ok (.iconst 0, 1) := by decide +kernel
theorem d_Ve_doLayerPathsLead_6 : decode m_Ve_doLayerPathsLead.2.2.1 6 = .ok (.istore 4, 2) := by decide +kernel
theorem d_Ve_doLayerPathsLead_8 : decode m_Ve_doLayerPathsLead.2.2.1 8 = .ok (.iload 4, 2) := by decide +kernel
theorem d_Ve_doLayerPathsLead_10 : decode m_Ve_doLayerPathsLead.2.2.1 10 = .ok (.iconst 2, 1) := by decide +kernel
theorem d_Ve_doLayerPathsLead_11 : decode m_Ve_doLayerPathsLead.2.2.1 11 = .ok (.if_icmp .ge (72), 3) := by decide +kernel
theorem d_Ve_doLayerPathsLead_14 : decode m_Ve_doLayerPathsLead.2.2.1 14 = .ok (.aload_n 0, 1) := by decide +kernel
theorem d_Ve_doLayerPathsLead_15 : decode m_Ve_doLayerPathsLead.2.2.1 15 = .ok (.iload_n 1, 1) := by decide +kernel
theorem d_Ve_doLayerPathsLead_16 : decode m_Ve_doLayerPathsLead.2.2.1 16 = .ok (.invokevirtual 81, 3) := by decide +kernel
theorem d_Ve_doLayerPathsLead_19 : decode m_Ve_doLayerPathsLead.2.2.1 19 = .ok (.iload_n 2, 1) := by decide +kernel
theorem d_Ve_doLayerPathsLead_20 : decode m_Ve_doLayerPathsLead.2.2.1 20 = .ok (.iload 4, 2) := by decide +kernel
theorem d_Ve_doLayerPathsLead_22 : decode m_Ve_doLayerPathsLead.2.2.1 22 = .ok (.invokestatic 102, 3) := by decide +kernel
theorem d_Ve_doLayerPathsLead_25 : decode m_Ve_doLayerPathsLead.2.2.1 25 = .ok (.istore 5, 2) := by decide +kernel
theorem d_Ve_doLayerPathsLead_27 : decode m_Ve_doLayerPathsLead.2.2.1 27 = .ok (.iload_n 1, 1) := by decide +kernel
theorem d_Ve_doLayerPathsLead_28 : decode m_Ve_doLayerPathsLead.2.2.1 28 = .ok (.iload_n 2, 1) := by decide +kernel
theorem d_Ve_doLayerPathsLead_29 : decode m_Ve_doLayerPathsLead.2.2.1 29 = .ok (.iload 4, 2) := by decide +kernel
theorem d_Ve_doLayerPathsLead_31 : decode m_Ve_doLayerPathsLead.2.2.1 31 = .ok (.invokestatic 106, 3) := by decide +kernel
theorem d_Ve_doLayerPathsLead_34 : decode m_Ve_doLayerPathsLead.2.2.1 34 = .ok (.istore 6, 2) := by decide +kernel
theorem d_Ve_doLayerPathsLead_36 : decode m_Ve_doLayerPathsLead.2.2.1 36 = .ok (.aload_n 0, 1) := by decide +kernel
theorem d_Ve_doLayerPathsLead_37 : decode m_Ve_doLayerPathsLead.2.2.1 37 = .ok (.getfield 36, 3) := by decide +kernel
theorem d_Ve_doLayerPathsLead_40 : decode m_Ve_doLayerPathsLead.2.2.1 40 = .ok (.iload 6, 2) := by decide +kernel
theorem d_Ve_doLayerPathsLead_42 : decode m_Ve_doLayerPathsLead.2.2.1 42 = .ok (.iaload, 1) := by decide +kernel
theorem d_Ve_doLayerPathsLead_43 : decode m_Ve_doLayerPathsLead.2.2.1 43 = .ok (.invokestatic 109, 3) := by decide +kernel
theorem d_Ve_doLayerPathsLead_46 : decode m_Ve_doLayerPathsLead.2.2.1 46 = .ok (.istore 7, 2) := by decide +kernel
theorem d_Ve_doLayerPathsLead_48 : decode m_Ve_doLayerPathsLead.2.2.1 48 = .ok (.iload_n 3, 1) := by decide +kernel
theorem d_Ve_doLayerPathsLead_49 : decode m_Ve_doLayerPathsLead.2.2.1 49 = .ok (.iload 5, 2) := by decide +kernel
theorem d_Ve_doLayerPathsLead_51 : decode m_Ve_doLayerPathsLead.2.2.1 51 = .ok (.iload 7, 2) := by decide +kernel
theorem d_Ve_doLayerPathsLead_53 : decode m_Ve_doLayerPathsLead.2.2.1 53 = .ok (.aload_n 0, 1) := by decide +kernel
theorem d_Ve_doLayerPathsLead_54 : decode m_Ve_doLayerPathsLead.2.2.1 54 = .ok (.getfield 36, 3) := by decide +kernel
theorem d_Ve_doLayerPathsLead_57 : decode m_Ve_doLayerPathsLead.2.2.1 57 = .ok (.iload 6, 2) := by decide +kernel
theorem d_Ve_doLayerPathsLead_59 : decode m_Ve_doLayerPathsLead.2.2.1 59 = .ok (.iconst 1, 1) := by decide +kernel
theorem d_Ve_doLayerPathsLead_60 : decode m_Ve_doLayerPathsLead.2.2.1 60 = .ok (.iadd, 1) := by decide +kernel
theorem d_Ve_doLayerPathsLead_61 : decode m_Ve_doLayerPathsLead.2.2.1 61 = .ok (.invokestatic 93, 3) := by decide +kernel
theorem d_Ve_doLayerPathsLead_64 : decode m_Ve_doLayerPathsLead.2.2.1 64 = .ok (.aload_n 0, 1) := by decide +kernel
theorem d_Ve_doLayerPathsLead_65 : decode m_Ve_doLayerPathsLead.2.2.1 65 = .ok (.getfield 36, 3) := by decide +kernel
theorem d_Ve_doLayerPathsLead_68 : decode m_Ve_doLayerPathsLead.2.2.1 68 = .ok (.iconst 1, 1) := by decide +kernel
theorem d_Ve_doLayerPathsLead_69 : decode m_Ve_doLayerPathsLead.2.2.1 69 = .ok (.iload_n 2, 1) := by decide +kernel
theorem d_Ve_doLayerPathsLead_70 : decode m_Ve_doLayerPathsLead.2.2.1 70 = .ok (.iadd, 1) := by decide +kernel
theorem d_Ve_doLayerPathsLead_71 : decode m_Ve_doLayerPathsLead.2.2.1 71 = .ok (.iaload, 1) := by decide +kernel
theorem d_Ve_doLayerPathsLead_72 : decode m_Ve_doLayerPathsLead.2.2.1 72 = .ok (.if_icmp .eq (5), 3) := by decide +kernel
theorem d_Ve_doLayerPathsLead_75 : decode m_Ve_doLayerPathsLead.2.2.1 75 = .ok (.iconst 0, 1) := by decide +kernel
theorem d_Ve_doLayerPathsLead_76 : decode m_Ve_doLayerPathsLead.2.2.1 76 = .ok (.ireturn, 1) := by decide +kernel
theorem d_Ve_doLayerPathsLead_77 : decode m_Ve_doLayerPathsLead.2.2.1 77 = .ok (.iinc 4 (1), 3) := by decide +kernel
theorem d_Ve_doLayerPathsLead_80 : decode m_Ve_doLayerPathsLead.2.2.1 80 = .ok (.goto (-72), 3) := by decide +kernel
theorem d_Ve_doLayerPathsLead_83 : decode m_Ve_doLayerPathsLead.2.2.1 83 = .ok (.iconst 1, 1) := by decide +kernel
theorem d_Ve_doLayerPathsLead_84 : decode m_Ve_doLayerPathsLead.2.2.1 84 = .ok (.ireturn, 1) := by decide +kernel
theorem d_Ve_isComposed_0 : decode m_Ve_isComposed.2.2.1 0 = .ok (.iload_n 1, 1) := by decide +kernel
theorem d_Ve_isComposed_1 : decode m_Ve_isComposed.2.2.1 1 = .ok (.iconst 2, 1) := by decide +kernel
theorem d_Ve_isComposed_2 : decode m_Ve_isComposed.2.2.1 2 = .ok (.iload_n 2, 1) := by decide +kernel
theorem d_Ve_isComposed_3 : decode m_Ve_isComposed.2.2.1 3 = .ok (.imul, 1) := by decide +kernel
theorem d_Ve_isComposed_4 : decode m_Ve_isComposed.2.2.1 4 = .ok (.invokestatic 87, 3) := by decide +kernel
theorem d_Ve_isComposed_7 : decode m_Ve_isComposed.2.2.1 7 = .ok (.istore_n 3, 1) := by decide +kernel
theorem d_Ve_isComposed_8 : decode m_Ve_isComposed.2.2.1 8 = .ok (.iload_n 1, 1) := by decide +kernel
theorem d_Ve_isComposed_9 : decode m_Ve_isComposed.2.2.1 9 = .ok (.iconst 2, 1) := by decide +kernel
theorem d_Ve_isComposed_10 : decode m_Ve_isComposed.2.2.1 10 = .ok (.iload_n 2, 1) := by decide +kernel
theorem d_Ve_isComposed_11 : decode m_Ve_isComposed.2.2.1 11 = .ok (.imul, 1) := by decide +kernel
theorem d_Ve_isComposed_12 : decode m_Ve_isComposed.2.2.1 12 = .ok (.iconst 1, 1) := by decide +kernel
theorem d_Ve_isComposed_13 : decode m_Ve_isComposed.2.2.1 13 = .ok (.iadd, 1) := by decide +kernel
theorem d_Ve_isComposed_14 : decode m_Ve_isComposed.2.2.1 14 = .ok (.invokestatic 87, 3) := by decide +kernel
theorem d_Ve_isComposed_17 : decode m_Ve_isComposed.2.2.1 17 = .ok (.istore 4, 2) := by decide +kernel
theorem d_Ve_isComposed_19 : decode m_Ve_isComposed.2.2.1 19 = .ok (.aload_n 0, 1) := by decide +kernel
theorem d_Ve_isComposed_20 : decode m_Ve_isComposed.2.2.1 20 = .ok (.getfield 22, 3) := by decide +kernel
theorem d_Ve_isComposed_23 : decode m_Ve_isComposed.2.2.1 23 = .ok (.aload_n 0, 1) := by decide +kernel
theorem d_Ve_isComposed_24 : decode m_Ve_isComposed.2.2.1 24 = .ok (.getfield 36, 3) := by decide +kernel
theorem d_Ve_isComposed_27 : decode m_Ve_isComposed.2.2.1 27 = .ok (.iload_n 3, 1) := by decide +kernel
theorem d_Ve_isComposed_28 : decode m_Ve_isComposed.2.2.1 28 = .ok (.iaload, 1) := by decide +kernel
theorem d_Ve_isComposed_29 : decode m_Ve_isComposed.2.2.1 29 = .ok (.aload_n 0, 1) := by decide +kernel
theorem d_Ve_isComposed_30 : decode m_Ve_isComposed.2.2.1 30 = .ok (.getfield 36, 3) := by decide +kernel
theorem d_Ve_isComposed_33 : decode m_Ve_isComposed.2.2.1 33 = .ok (.iload_n 3, 1) := by decide +kernel
theorem d_Ve_isComposed_34 : decode m_Ve_isComposed.2.2.1 34 = .ok (.iconst 1, 1) := by decide +kernel
theorem d_Ve_isComposed_35 : decode m_Ve_isComposed.2.2.1 35 = .ok (.iadd, 1) := by decide +kernel
theorem d_Ve_isComposed_36 : decode m_Ve_isComposed.2.2.1 36 = .ok (.iaload, 1) := by decide +kernel
theorem d_Ve_isComposed_37 : decode m_Ve_isComposed.2.2.1 37 = .ok (.aload_n 0, 1) := by decide +kernel
theorem d_Ve_isComposed_38 : decode m_Ve_isComposed.2.2.1 38 = .ok (.getfield 36, 3) := by decide +kernel
theorem d_Ve_isComposed_41 : decode m_Ve_isComposed.2.2.1 41 = .ok (.iload 4, 2) := by decide +kernel
theorem d_Ve_isComposed_43 : decode m_Ve_isComposed.2.2.1 43 = .ok (.iaload, 1) := by decide +kernel
theorem d_Ve_isComposed_44 : decode m_Ve_isComposed.2.2.1 44 = .ok (.aload_n 0, 1) := by decide +kernel
theorem d_Ve_isComposed_45 : decode m_Ve_isComposed.2.2.1 45 = .ok (.getfield 36, 3) := by decide +kernel
theorem d_Ve_isComposed_48 : decode m_Ve_isComposed.2.2.1 48 = .ok (.iload 4, 2) := by decide +kernel
theorem d_Ve_isComposed_50 : decode m_Ve_isComposed.2.2.1 50 = .ok (.iconst 1, 1) := by decide +kernel
theorem d_Ve_isComposed_51 : decode m_Ve_isComposed.2.2.1 51 = .ok (.iadd, 1) := by decide +kernel
theorem d_Ve_isComposed_52 : decode m_Ve_isComposed.2.2.1 52 = .ok (.iaload, 1) := by decide +kernel
theorem d_Ve_isComposed_53 : decode m_Ve_isComposed.2.2.1 53 = .ok (.invokevirtual 112, 3) := by decide +kernel
theorem d_Ve_isComposed_56 : decode m_Ve_isComposed.2.2.1 56 = .ok (.aload_n 0, 1) := by decide +kernel
theorem d_Ve_isComposed_57 : decode m_Ve_isComposed.2.2.1 57 = .ok (.getfield 22, 3) := by decide +kernel
theorem d_Ve_isComposed_60 : decode m_Ve_isComposed.2.2.1 60 = .ok (.aload_n 0, 1) := by decide +kernel
theorem d_Ve_isComposed_61 : decode m_Ve_isComposed.2.2.1 61 = .ok (.iload_n 1, 1) := by decide +kernel
theorem d_Ve_isComposed_62 : decode m_Ve_isComposed.2.2.1 62 = .ok (.invokevirtual 81, 3) := by decide +kernel
theorem d_Ve_isComposed_65 : decode m_Ve_isComposed.2.2.1 65 = .ok (.iconst 0, 1) := by decide +kernel
theorem d_Ve_isComposed_66 : decode m_Ve_isComposed.2.2.1 66 = .ok (.iload_n 2, 1) := by decide +kernel
theorem d_Ve_isComposed_67 : decode m_Ve_isComposed.2.2.1 67 = .ok (.invokestatic 102, 3) := by decide +kernel
theorem d_Ve_isComposed_70 : decode m_Ve_isComposed.2.2.1 70 = .ok (.aload_n 0, 1) := by decide +kernel
theorem d_Ve_isComposed_71 : decode m_Ve_isComposed.2.2.1 71 = .ok (.getfield 12, 3) := by decide +kernel
theorem d_Ve_isComposed_74 : decode m_Ve_isComposed.2.2.1 74 = .ok (.getfield 118, 3) := by decide +kernel
theorem d_Ve_isComposed_77 : decode m_Ve_isComposed.2.2.1 77 = .ok (.invokevirtual 122, 3) := by decide +kernel
theorem d_Ve_isComposed_80 : decode m_Ve_isComposed.2.2.1 80 = .ok (.istore 5, 2) := by decide +kernel
theorem d_Ve_isComposed_82 : decode m_Ve_isComposed.2.2.1 82 = .ok (.iload 5, 2) := by decide +kernel
theorem d_Ve_isComposed_84 : decode m_Ve_isComposed.2.2.1 84 = .ok (.aload_n 0, 1) := by decide +kernel
theorem d_Ve_isComposed_85 : decode m_Ve_isComposed.2.2.1 85 = .ok (.getfield 36, 3) := by decide +kernel
theorem d_Ve_isComposed_88 : decode m_Ve_isComposed.2.2.1 88 = .ok (.iload_n 1, 1) := by decide +kernel
theorem d_Ve_isComposed_89 : decode m_Ve_isComposed.2.2.1 89 = .ok (.iconst 0, 1) := by decide +kernel
theorem d_Ve_isComposed_90 : decode m_Ve_isComposed.2.2.1 90 = .ok (.iload_n 2, 1) := by decide +kernel
theorem d_Ve_isComposed_91 : decode m_Ve_isComposed.2.2.1 91 = .ok (.invokestatic 106, 3) := by decide +kernel
theorem d_Ve_isComposed_94 : decode m_Ve_isComposed.2.2.1 94 = .ok (.iaload, 1) := by decide +kernel
theorem d_Ve_isComposed_95 : decode m_Ve_isComposed.2.2.1 95 = .ok (.if_icmp .ne (7), 3) := by decide +kernel
theorem d_Ve_isComposed_98 : decode m_Ve_isComposed.2.2.1 98 = .ok (.iconst 1, 1) := by decide +kernel
theorem d_Ve_isComposed_99 : decode m_Ve_isComposed.2.2.1 99 = .ok (.goto (4), 3) := by decide +kernel
theorem d_Ve_isComposed_102 : decode m_Ve_isComposed.2.2.1 102 = .ok (.iconst 0, 1) := by decide +kernel
theorem d_Ve_isComposed_103 : decode m_Ve_isComposed.2.2.1 103 = .ok (.ireturn, 1) := by decide +kernel
theorem d_Ve_folded_0 : decode m_Ve_folded.2.2.1 0 = .ok (.aload_n 0, 1) := by decide +kernel
theorem d_Ve_folded_1 : decode m_Ve_folded.2.2.1 1 = .ok (.getfield 36, 3) := by decide +kernel
theorem d_Ve_folded_4 : decode m_Ve_folded.2.2.1 4 = .ok (.iload_n 1, 1) := by decide +kernel
theorem d_Ve_folded_5 : decode m_Ve_folded.2.2.1 5 = .ok (.iload_n 2, 1) := by decide +kernel
theorem d_Ve_folded_6 : decode m_Ve_folded.2.2.1 6 = .ok (.iconst 0, 1) := by decide +kernel
theorem d_Ve_folded_7 : decode m_Ve_folded.2.2.1 7 = .ok (.invokestatic 106, 3) := by decide +kernel
theorem d_Ve_folded_10 : decode m_Ve_folded.2.2.1 10 = .ok (.iaload, 1) := by decide +kernel
theorem d_Ve_folded_11 : decode m_Ve_folded.2.2.1 11 = .ok (.istore_n 3, 1) := by decide +kernel
theorem d_Ve_folded_12 : decode m_Ve_folded.2.2.1 12 = .ok (.aload_n 0, 1) := by decide +kernel
theorem d_Ve_folded_13 : decode m_Ve_folded.2.2.1 13 = .ok (.getfield 36, 3) := by decide +kernel
theorem d_Ve_folded_16 : decode m_Ve_folded.2.2.1 16 = .ok (.iload_n 1, 1) := by decide +kernel
theorem d_Ve_folded_17 : decode m_Ve_folded.2.2.1 17 = .ok (.iload_n 2, 1) := by decide +kernel
theorem d_Ve_folded_18 : decode m_Ve_folded.2.2.1 18 = .ok (.iconst 1, 1) := by decide +kernel
theorem d_Ve_folded_19 : decode m_Ve_folded.2.2.1 19 = .ok (.invokestatic 106, 3) := by decide +kernel
theorem d_Ve_folded_22 : decode m_Ve_folded.2.2.1 22 = .ok (.iaload, 1) := by decide +kernel
theorem d_Ve_folded_23 : decode m_Ve_folded.2.2.1 23 = .ok (.istore 4, 2) := by decide +kernel
theorem d_Ve_folded_25 : decode m_Ve_folded.2.2.1 25 = .ok (.aload_n 0, 1) := by decide +kernel
theorem d_Ve_folded_26 : decode m_Ve_folded.2.2.1 26 = .ok (.iload_n 1, 1) := by decide +kernel
theorem d_Ve_folded_27 : decode m_Ve_folded.2.2.1 27 = .ok (.invokevirtual 81, 3) := by decide +kernel
theorem d_Ve_folded_30 : decode m_Ve_folded.2.2.1 30 = .ok (.iload_n 2, 1) := by decide +kernel
theorem d_Ve_folded_31 : decode m_Ve_folded.2.2.1 31 = .ok (.iconst 0, 1) := by decide +kernel
theorem d_Ve_folded_32 : decode m_Ve_folded.2.2.1 32 = .ok (.invokestatic 102, 3) := by decide +kernel
theorem d_Ve_folded_35 : decode m_Ve_folded.2.2.1 35 = .ok (.istore 5, 2) := by decide +kernel
theorem d_Ve_folded_37 : decode m_Ve_folded.2.2.1 37 = .ok (.aload_n 0, 1) := by decide +kernel
theorem d_Ve_folded_38 : decode m_Ve_folded.2.2.1 38 = .ok (.getfield 18, 3) := by decide +kernel
theorem d_Ve_folded_41 : decode m_Ve_folded.2.2.1 41 = .ok (.iload_n 2, 1) := by decide +kernel
theorem d_Ve_folded_42 : decode m_Ve_folded.2.2.1 42 = .ok (.iload 5, 2) := by decide +kernel
theorem d_Ve_folded_44 : decode m_Ve_folded.2.2.1 44 = .ok (.iload_n 3, 1) := by decide +kernel
theorem d_Ve_folded_45 : decode m_Ve_folded.2.2.1 45 = .ok (.iload 4, 2) := by decide +kernel
theorem d_Ve_folded_47 : decode m_Ve_folded.2.2.1 47 = .ok (.aload_n 0, 1) := by decide +kernel
theorem d_Ve_folded_48 : decode m_Ve_folded.2.2.1 48 = .ok (.getfield 12, 3) := by decide +kernel
theorem d_Ve_folded_51 : decode m_Ve_folded.2.2.1 51 = .ok (.getfield 125, 3) := by decide +kernel
theorem d_Ve_folded_54 : decode m_Ve_folded.2.2.1 54 = .ok (.iload_n 2, 1) := by decide +kernel
theorem d_Ve_folded_55 : decode m_Ve_folded.2.2.1 55 = .ok (.iaload, 1) := by decide +kernel
theorem d_Ve_folded_56 : decode m_Ve_folded.2.2.1 56 = .ok (.invokevirtual 128, 3) := by decide +kernel
theorem d_Ve_folded_59 : decode m_Ve_folded.2.2.1 59 = .ok (.ireturn, 1) := by decide +kernel
theorem d_Ve_valueBehind_0 : decode m_Ve_valueBehind.2.2.1 0 = .ok (.iload_n 2, 1) := by decide +kernel
theorem d_Ve_valueBehind_1 : decode m_Ve_valueBehind.2.2.1 1 = .ok (.iconst 1, 1) := by decide +kernel
theorem d_Ve_valueBehind_2 : decode m_Ve_valueBehind.2.2.1 2 = .ok (.iadd, 1) := by decide +kernel
theorem d_Ve_valueBehind_3 : decode m_Ve_valueBehind.2.2.1 3 = .ok (.istore_n 3, 1) := by decide +kernel
theorem d_Ve_valueBehind_4 : decode m_Ve_valueBehind.2.2.1 4 = .ok (.iload_n 3, 1) := by decide +kernel
theorem d_Ve_valueBehind_5 : decode m_Ve_valueBehind.2.2.1 5 = .ok (.invokestatic 99, 3) := by decide +kernel
theorem d_Ve_valueBehind_8 : decode m_Ve_valueBehind.2.2.1 8 = .ok (.istore 4, 2) := by decide +kernel
theorem d_Ve_valueBehind_10 : decode m_Ve_valueBehind.2.2.1 10 = .ok (.aload_n 0, 1) := by decide +kernel
theorem d_Ve_valueBehind_11 : decode m_Ve_valueBehind.2.2.1 11 = .ok (.iload_n 1, 1) := by decide +kernel
theorem d_Ve_valueBehind_12 : decode m_Ve_valueBehind.2.2.1 12 = .ok (.invokevirtual 81, 3) := by decide +kernel
theorem d_Ve_valueBehind_15 : decode m_Ve_valueBehind.2.2.1 15 = .ok (.iload 4, 2) := by decide +kernel
theorem d_Ve_valueBehind_17 : decode m_Ve_valueBehind.2.2.1 17 = .ok (.irem, 1) := by decide +kernel
theorem d_Ve_valueBehind_18 : decode m_Ve_valueBehind.2.2.1 18 = .ok (.iload 4, 2) := by decide +kernel
theorem d_Ve_valueBehind_20 : decode m_Ve_valueBehind.2.2.1 20 = .ok (.iconst 2, 1) := by decide +kernel
theorem d_Ve_valueBehind_21 : decode m_Ve_valueBehind.2.2.1 21 = .ok (.idiv, 1) := by decide +kernel
theorem d_Ve_valueBehind_22 : decode m_Ve_valueBehind.2.2.1 22 = .ok (.idiv, 1) := by decide +kernel
theorem d_Ve_valueBehind_23 : decode m_Ve_valueBehind.2.2.1 23 = .ok (.istore 5, 2) := by decide +kernel
theorem d_Ve_valueBehind_25 : decode m_Ve_valueBehind.2.2.1 25 = .ok (.aload_n 0, 1) := by decide +kernel
theorem d_Ve_valueBehind_26 : decode m_Ve_valueBehind.2.2.1 26 = .ok (.getfield 36, 3) := by decide +kernel
theorem d_Ve_valueBehind_29 : decode m_Ve_valueBehind.2.2.1 29 = .ok (.iload_n 1, 1) := by decide +kernel
theorem d_Ve_valueBehind_30 : decode m_Ve_valueBehind.2.2.1 30 = .ok (.iload_n 3, 1) := by decide +kernel
theorem d_Ve_valueBehind_31 : decode m_Ve_valueBehind.2.2.1 31 = .ok (.iload 5, 2) := by decide +kernel
theorem d_Ve_valueBehind_33 : decode m_Ve_valueBehind.2.2.1 33 = .ok (.invokestatic 106, 3) := by decide +kernel
theorem d_Ve_valueBehind_36 : decode m_Ve_valueBehind.2.2.1 36 = .ok (.iaload, 1) := by decide +kernel
theorem d_Ve_valueBehind_37 : decode m_Ve_valueBehind.2.2.1 37 = .ok (.ireturn, 1) := by decide +kernel
theorem d_La_law_0 : decode m_La_law.2.2.1 0 = .ok (.new 7, 3) := by decide +kernel
theorem d_La_law_3 : decode m_La_law.2.2.1 3 = .ok (.dup, 1) := by decide +kernel
theorem d_La_law_4 : decode m_La_law.2.2.1 4 = .ok (.invokespecial 9, 3) := by decide +kernel
theorem d_La_law_7 : decode m_La_law.2.2.1 7 = .ok (.astore_n 1, 1) := by decide +kernel
theorem d_La_law_8 : decode m_La_law.2.2.1 8 = .ok (.new 10, 3) := by decide +kernel
theorem d_La_law_11 : decode m_La_law.2.2.1 11 = .ok (.dup, 1) := by decide +kernel
theorem d_La_law_12 : decode m_La_law.2.2.1 12 = .ok (.invokespecial 12, 3) := by decide +kernel
theorem d_La_law_15 : decode m_La_law.2.2.1 15 = .ok (.astore_n 2, 1) := by decide +kernel
theorem d_La_law_16 : decode m_La_law.2.2.1 16 = .ok (.iconst 0, 1) := by decide +kernel
theorem d_La_law_17 : decode m_La_law.2.2.1 17 = .ok (.istore_n 3, 1) := by decide +kernel
theorem d_La_law_18 : decode m_La_law.2.2.1 18 = .ok (.iload_n 3, 1) := by decide +kernel
theorem d_La_law_19 : decode m_La_law.2.2.1 19 = .ok (.aload_n 0, 1) := by decide +kernel
theorem d_La_law_20 : decode m_La_law.2.2.1 20 = .ok (.arraylength, 1) := by decide +kernel
theorem d_La_law_21 : decode m_La_law.2.2.1 21 = .ok (.iconst 5, 1) := by decide +kernel
theorem d_La_law_22 : decode m_La_law.2.2.1 22 = .ok (.isub, 1) := by decide +kernel
theorem d_La_law_23 : decode m_La_law.2.2.1 23 = .ok (.if_icmp .gt (413), 3) := by decide +kernel
theorem d_La_law_26 : decode m_La_law.2.2.1 26 = .ok (.aload_n 0, 1) := by decide +kernel
theorem d_La_law_27 : decode m_La_law.2.2.1 27 = .ok (.iload_n 3, 1) := by decide +kernel
theorem d_La_law_28 : decode m_La_law.2.2.1 28 = .ok (.iaload, 1) := by decide +kernel
theorem d_La_law_29 : decode m_La_law.2.2.1 29 = .ok (.bipush (15), 2) := by decide +kernel
theorem d_La_law_31 : decode m_La_law.2.2.1 31 = .ok (.iand, 1) := by decide +kernel
theorem d_La_law_32 : decode m_La_law.2.2.1 32 = .ok (.tableswitch (398) (0) (11) #[64, 117, 160, 171, 214, 247, 280, 293, 306, 329, 362, 375], 64) := by decide +kernel
theorem d_La_law_96 : decode m_La_law.2.2.1 96 = .ok (.aload_n 1, 1) := by decide +kernel
theorem d_La_law_97 : decode m_La_law.2.2.1 97 = .ok (.aload_n 0, 1) := by decide +kernel
theorem d_La_law_98 : decode m_La_law.2.2.1 98 = .ok (.iload_n 3, 1) := by decide +kernel
theorem d_La_law_99 : decode m_La_law.2.2.1 99 = .ok (.iconst 1, 1) := by decide +kernel
theorem d_La_law_100 : decode m_La_law.2.2.1 100 = .ok (.iadd, 1) := by decide +kernel
theorem d_La_law_101 : decode m_La_law.2.2.1 101 = .ok (.iaload, 1) := by decide +kernel
theorem d_La_law_102 : decode m_La_law.2.2.1 102 = .ok (.aload_n 0, 1) := by decide +kernel
theorem d_La_law_103 : decode m_La_law.2.2.1 103 = .ok (.iload_n 3, 1) := by decide +kernel
theorem d_La_law_104 : decode m_La_law.2.2.1 104 = .ok (.iconst 2, 1) := by decide +kernel
theorem d_La_law_105 : decode m_La_law.2.2.1 105 = .ok (.iadd, 1) := by decide +kernel
theorem d_La_law_106 : decode m_La_law.2.2.1 106 = .ok (.iaload, 1) := by decide +kernel
theorem d_La_law_107 : decode m_La_law.2.2.1 107 = .ok (.aload_n 0, 1) := by decide +kernel
theorem d_La_law_108 : decode m_La_law.2.2.1 108 = .ok (.iload_n 3, 1) := by decide +kernel
theorem d_La_law_109 : decode m_La_law.2.2.1 109 = .ok (.iconst 3, 1) := by decide +kernel
theorem d_La_law_110 : decode m_La_law.2.2.1 110 = .ok (.iadd, 1) := by decide +kernel
theorem d_La_law_111 : decode m_La_law.2.2.1 111 = .ok (.iaload, 1) := by decide +kernel
theorem d_La_law_112 : decode m_La_law.2.2.1 112 = .ok (.aload_n 0, 1) := by decide +kernel
theorem d_La_law_113 : decode m_La_law.2.2.1 113 = .ok (.iload_n 3, 1) := by decide +kernel
theorem d_La_law_114 : decode m_La_law.2.2.1 114 = .ok (.iconst 4, 1) := by decide +kernel
theorem d_La_law_115 : decode m_La_law.2.2.1 115 = .ok (.iadd, 1) := by decide +kernel
theorem d_La_law_116 : decode m_La_law.2.2.1 116 = .ok (.iaload, 1) := by decide +kernel
theorem d_La_law_117 : decode m_La_law.2.2.1 117 = .ok (.invokevirtual 13, 3) := by decide +kernel
theorem d_La_law_120 : decode m_La_law.2.2.1 120 = .ok (.aload_n 2, 1) := by decide +kernel
theorem d_La_law_121 : decode m_La_law.2.2.1 121 = .ok (.aload_n 0, 1) := by decide +kernel
theorem d_La_law_122 : decode m_La_law.2.2.1 122 = .ok (.iload_n 3, 1) := by decide +kernel
theorem d_La_law_123 : decode m_La_law.2.2.1 123 = .ok (.iconst 1, 1) := by decide +kernel
theorem d_La_law_124 : decode m_La_law.2.2.1 124 = .ok (.iadd, 1) := by decide +kernel
theorem d_La_law_125 : decode m_La_law.2.2.1 125 = .ok (.iaload, 1) := by decide +kernel
theorem d_La_law_126 : decode m_La_law.2.2.1 126 = .ok (.aload_n 0, 1) := by decide +kernel
theorem d_La_law_127 : decode m_La_law.2.2.1 127 = .ok (.iload_n 3, 1) := by decide +kernel
theorem d_La_law_128 : decode m_La_law.2.2.1 128 = .ok (.iconst 2, 1) := by decide +kernel
theorem d_La_law_129 : decode m_La_law.2.2.1 129 = .ok (.iadd, 1) := by decide +kernel
theorem d_La_law_130 : decode m_La_law.2.2.1 130 = .ok (.iaload, 1) := by decide +kernel
theorem d_La_law_131 : decode m_La_law.2.2.1 131 = .ok (.aload_n 0, 1) := by decide +kernel
theorem d_La_law_132 : decode m_La_law.2.2.1 132 = .ok (.iload_n 3, 1) := by decide +kernel
theorem d_La_law_133 : decode m_La_law.2.2.1 133 = .ok (.iconst 3, 1) := by decide +kernel
theorem d_La_law_134 : decode m_La_law.2.2.1 134 = .ok (.iadd, 1) := by decide +kernel
theorem d_La_law_135 : decode m_La_law.2.2.1 135 = .ok (.iaload, 1) := by decide +kernel
theorem d_La_law_136 : decode m_La_law.2.2.1 136 = .ok (.aload_n 0, 1) := by decide +kernel
theorem d_La_law_137 : decode m_La_law.2.2.1 137 = .ok (.iload_n 3, 1) := by decide +kernel
theorem d_La_law_138 : decode m_La_law.2.2.1 138 = .ok (.iconst 4, 1) := by decide +kernel
theorem d_La_law_139 : decode m_La_law.2.2.1 139 = .ok (.iadd, 1) := by decide +kernel
theorem d_La_law_140 : decode m_La_law.2.2.1 140 = .ok (.iaload, 1) := by decide +kernel
theorem d_La_law_141 : decode m_La_law.2.2.1 141 = .ok (.invokevirtual 17, 3) := by decide +kernel
theorem d_La_law_144 : decode m_La_law.2.2.1 144 = .ok (.if_icmp .eq (286), 3) := by decide +kernel
theorem d_La_law_147 : decode m_La_law.2.2.1 147 = .ok (.iconst 0, 1) := by decide +kernel
theorem d_La_law_148 : decode m_La_law.2.2.1 148 = .ok (.ireturn, 1) := by decide +kernel
theorem d_La_law_149 : decode m_La_law.2.2.1 149 = .ok (.aload_n 1, 1) := by decide +kernel
theorem d_La_law_150 : decode m_La_law.2.2.1 150 = .ok (.aload_n 0, 1) := by decide +kernel
theorem d_La_law_151 : decode m_La_law.2.2.1 151 = .ok (.iload_n 3, 1) := by decide +kernel
theorem d_La_law_152 : decode m_La_law.2.2.1 152 = .ok (.iconst 1, 1) := by decide +kernel
theorem d_La_law_153 : decode m_La_law.2.2.1 153 = .ok (.iadd, 1) := by decide +kernel
theorem d_La_law_154 : decode m_La_law.2.2.1 154 = .ok (.iaload, 1) := by decide +kernel
theorem d_La_law_155 : decode m_La_law.2.2.1 155 = .ok (.aload_n 0, 1) := by decide +kernel
theorem d_La_law_156 : decode m_La_law.2.2.1 156 = .ok (.iload_n 3, 1) := by decide +kernel
theorem d_La_law_157 : decode m_La_law.2.2.1 157 = .ok (.iconst 2, 1) := by decide +kernel
theorem d_La_law_158 : decode m_La_law.2.2.1 158 = .ok (.iadd, 1) := by decide +kernel
theorem d_La_law_159 : decode m_La_law.2.2.1 159 = .ok (.iaload, 1) := by decide +kernel
theorem d_La_law_160 : decode m_La_law.2.2.1 160 = .ok (.aload_n 0, 1) := by decide +kernel
theorem d_La_law_161 : decode m_La_law.2.2.1 161 = .ok (.iload_n 3, 1) := by decide +kernel
theorem d_La_law_162 : decode m_La_law.2.2.1 162 = .ok (.iconst 3, 1) := by decide +kernel
theorem d_La_law_163 : decode m_La_law.2.2.1 163 = .ok (.iadd, 1) := by decide +kernel
theorem d_La_law_164 : decode m_La_law.2.2.1 164 = .ok (.iaload, 1) := by decide +kernel
theorem d_La_law_165 : decode m_La_law.2.2.1 165 = .ok (.invokevirtual 18, 3) := by decide +kernel
theorem d_La_law_168 : decode m_La_law.2.2.1 168 = .ok (.aload_n 2, 1) := by decide +kernel
theorem d_La_law_169 : decode m_La_law.2.2.1 169 = .ok (.aload_n 0, 1) := by decide +kernel
theorem d_La_law_170 : decode m_La_law.2.2.1 170 = .ok (.iload_n 3, 1) := by decide +kernel
theorem d_La_law_171 : decode m_La_law.2.2.1 171 = .ok (.iconst 1, 1) := by decide +kernel
theorem d_La_law_172 : decode m_La_law.2.2.1 172 = .ok (.iadd, 1) := by decide +kernel
theorem d_La_law_173 : decode m_La_law.2.2.1 173 = .ok (.iaload, 1) := by decide +kernel
theorem d_La_law_174 : decode m_La_law.2.2.1 174 = .ok (.aload_n 0, 1) := by decide +kernel
theorem d_La_law_175 : decode m_La_law.2.2.1 175 = .ok (.iload_n 3, 1) := by decide +kernel
theorem d_La_law_176 : decode m_La_law.2.2.1 176 = .ok (.iconst 2, 1) := by decide +kernel
theorem d_La_law_177 : decode m_La_law.2.2.1 177 = .ok (.iadd, 1) := by decide +kernel
theorem d_La_law_178 : decode m_La_law.2.2.1 178 = .ok (.iaload, 1) := by decide +kernel
theorem d_La_law_179 : decode m_La_law.2.2.1 179 = .ok (.aload_n 0, 1) := by decide +kernel
theorem d_La_law_180 : decode m_La_law.2.2.1 180 = .ok (.iload_n 3, 1) := by decide +kernel
theorem d_La_law_181 : decode m_La_law.2.2.1 181 = .ok (.iconst 3, 1) := by decide +kernel
theorem d_La_law_182 : decode m_La_law.2.2.1 182 = .ok (.iadd, 1) := by decide +kernel
theorem d_La_law_183 : decode m_La_law.2.2.1 183 = .ok (.iaload, 1) := by decide +kernel
theorem d_La_law_184 : decode m_La_law.2.2.1 184 = .ok (.invokevirtual 22, 3) := by decide +kernel
theorem d_La_law_187 : decode m_La_law.2.2.1 187 = .ok (.if_icmp .eq (243), 3) := by decide +kernel
theorem d_La_law_190 : decode m_La_law.2.2.1 190 = .ok (.iconst 0, 1) := by decide +kernel
theorem d_La_law_191 : decode m_La_law.2.2.1 191 = .ok (.ireturn, 1) := by decide +kernel
theorem d_La_law_192 : decode m_La_law.2.2.1 192 = .ok (.aload_n 1, 1) := by decide +kernel
theorem d_La_law_193 : decode m_La_law.2.2.1 193 = .ok (.invokevirtual 23, 3) := by decide +kernel
theorem d_La_law_196 : decode m_La_law.2.2.1 196 = .ok (.aload_n 2, 1) := by decide +kernel
theorem d_La_law_197 : decode m_La_law.2.2.1 197 = .ok (.invokevirtual 26, 3) := by decide +kernel
theorem d_La_law_200 : decode m_La_law.2.2.1 200 = .ok (.goto (230), 3) := by decide +kernel
theorem d_La_law_203 : decode m_La_law.2.2.1 203 = .ok (.aload_n 1, 1) := by decide +kernel
theorem d_La_law_204 : decode m_La_law.2.2.1 204 = .ok (.aload_n 0, 1) := by decide +kernel
theorem d_La_law_205 : decode m_La_law.2.2.1 205 = .ok (.iload_n 3, 1) := by decide +kernel
theorem d_La_law_206 : decode m_La_law.2.2.1 206 = .ok (.iconst 1, 1) := by decide +kernel
theorem d_La_law_207 : decode m_La_law.2.2.1 207 = .ok (.iadd, 1) := by decide +kernel
theorem d_La_law_208 : decode m_La_law.2.2.1 208 = .ok (.iaload, 1) := by decide +kernel
theorem d_La_law_209 : decode m_La_law.2.2.1 209 = .ok (.aload_n 0, 1) := by decide +kernel
theorem d_La_law_210 : decode m_La_law.2.2.1 210 = .ok (.iload_n 3, 1) := by decide +kernel
theorem d_La_law_211 : decode m_La_law.2.2.1 211 = .ok (.iconst 2, 1) := by decide +kernel
theorem d_La_law_212 : decode m_La_law.2.2.1 212 = .ok (.iadd, 1) := by decide +kernel
theorem d_La_law_213 : decode m_La_law.2.2.1 213 = .ok (.iaload, 1) := by decide +kernel
theorem d_La_law_214 : decode m_La_law.2.2.1 214 = .ok (.aload_n 0, 1) := by decide +kernel
theorem d_La_law_215 : decode m_La_law.2.2.1 215 = .ok (.iload_n 3, 1) := by decide +kernel
theorem d_La_law_216 : decode m_La_law.2.2.1 216 = .ok (.iconst 3, 1) := by decide +kernel
theorem d_La_law_217 : decode m_La_law.2.2.1 217 = .ok (.iadd, 1) := by decide +kernel
theorem d_La_law_218 : decode m_La_law.2.2.1 218 = .ok (.iaload, 1) := by decide +kernel
theorem d_La_law_219 : decode m_La_law.2.2.1 219 = .ok (.invokevirtual 27, 3) := by decide +kernel
theorem d_La_law_222 : decode m_La_law.2.2.1 222 = .ok (.aload_n 2, 1) := by decide +kernel
theorem d_La_law_223 : decode m_La_law.2.2.1 223 = .ok (.aload_n 0, 1) := by decide +kernel
theorem d_La_law_224 : decode m_La_law.2.2.1 224 = .ok (.iload_n 3, 1) := by decide +kernel
theorem d_La_law_225 : decode m_La_law.2.2.1 225 = .ok (.iconst 1, 1) := by decide +kernel
theorem d_La_law_226 : decode m_La_law.2.2.1 226 = .ok (.iadd, 1) := by decide +kernel
theorem d_La_law_227 : decode m_La_law.2.2.1 227 = .ok (.iaload, 1) := by decide +kernel
theorem d_La_law_228 : decode m_La_law.2.2.1 228 = .ok (.aload_n 0, 1) := by decide +kernel
theorem d_La_law_229 : decode m_La_law.2.2.1 229 = .ok (.iload_n 3, 1) := by decide +kernel
theorem d_La_law_230 : decode m_La_law.2.2.1 230 = .ok (.iconst 2, 1) := by decide +kernel
theorem d_La_law_231 : decode m_La_law.2.2.1 231 = .ok (.iadd, 1) := by decide +kernel
theorem d_La_law_232 : decode m_La_law.2.2.1 232 = .ok (.iaload, 1) := by decide +kernel
theorem d_La_law_233 : decode m_La_law.2.2.1 233 = .ok (.aload_n 0, 1) := by decide +kernel
theorem d_La_law_234 : decode m_La_law.2.2.1 234 = .ok (.iload_n 3, 1) := by decide +kernel
theorem d_La_law_235 : decode m_La_law.2.2.1 235 = .ok (.iconst 3, 1) := by decide +kernel
theorem d_La_law_236 : decode m_La_law.2.2.1 236 = .ok (.iadd, 1) := by decide +kernel
theorem d_La_law_237 : decode m_La_law.2.2.1 237 = .ok (.iaload, 1) := by decide +kernel
theorem d_La_law_238 : decode m_La_law.2.2.1 238 = .ok (.invokevirtual 31, 3) := by decide +kernel
theorem d_La_law_241 : decode m_La_law.2.2.1 241 = .ok (.if_icmp .eq (189), 3) := by decide +kernel
theorem d_La_law_244 : decode m_La_law.2.2.1 244 = .ok (.iconst 0, 1) := by decide +kernel
theorem d_La_law_245 : decode m_La_law.2.2.1 245 = .ok (.ireturn, 1) := by decide +kernel
theorem d_La_law_246 : decode m_La_law.2.2.1 246 = .ok (.aload_n 1, 1) := by decide +kernel
theorem d_La_law_247 : decode m_La_law.2.2.1 247 = .ok (.aload_n 0, 1) := by decide +kernel
theorem d_La_law_248 : decode m_La_law.2.2.1 248 = .ok (.iload_n 3, 1) := by decide +kernel
theorem d_La_law_249 : decode m_La_law.2.2.1 249 = .ok (.iconst 1, 1) := by decide +kernel
theorem d_La_law_250 : decode m_La_law.2.2.1 250 = .ok (.iadd, 1) := by decide +kernel
theorem d_La_law_251 : decode m_La_law.2.2.1 251 = .ok (.iaload, 1) := by decide +kernel
theorem d_La_law_252 : decode m_La_law.2.2.1 252 = .ok (.aload_n 0, 1) := by decide +kernel
theorem d_La_law_253 : decode m_La_law.2.2.1 253 = .ok (.iload_n 3, 1) := by decide +kernel
theorem d_La_law_254 : decode m_La_law.2.2.1 254 = .ok (.iconst 2, 1) := by decide +kernel
theorem d_La_law_255 : decode m_La_law.2.2.1 255 = .ok (.iadd, 1) := by decide +kernel
theorem d_La_law_256 : decode m_La_law.2.2.1 256 = .ok (.iaload, 1) := by decide +kernel
theorem d_La_law_257 : decode m_La_law.2.2.1 257 = .ok (.invokevirtual 32, 3) := by decide +kernel
theorem d_La_law_260 : decode m_La_law.2.2.1 260 = .ok (.aload_n 2, 1) := by decide +kernel
theorem d_La_law_261 : decode m_La_law.2.2.1 261 = .ok (.aload_n 0, 1) := by decide +kernel
theorem d_La_law_262 : decode m_La_law.2.2.1 262 = .ok (.iload_n 3, 1) := by decide +kernel
theorem d_La_law_263 : decode m_La_law.2.2.1 263 = .ok (.iconst 1, 1) := by decide +kernel
theorem d_La_law_264 : decode m_La_law.2.2.1 264 = .ok (.iadd, 1) := by decide +kernel
theorem d_La_law_265 : decode m_La_law.2.2.1 265 = .ok (.iaload, 1) := by decide +kernel
theorem d_La_law_266 : decode m_La_law.2.2.1 266 = .ok (.aload_n 0, 1) := by decide +kernel
theorem d_La_law_267 : decode m_La_law.2.2.1 267 = .ok (.iload_n 3, 1) := by decide +kernel
theorem d_La_law_268 : decode m_La_law.2.2.1 268 = .ok (.iconst 2, 1) := by decide +kernel
theorem d_La_law_269 : decode m_La_law.2.2.1 269 = .ok (.iadd, 1) := by decide +kernel
theorem d_La_law_270 : decode m_La_law.2.2.1 270 = .ok (.iaload, 1) := by decide +kernel
theorem d_La_law_271 : decode m_La_law.2.2.1 271 = .ok (.invokevirtual 36, 3) := by decide +kernel
theorem d_La_law_274 : decode m_La_law.2.2.1 274 = .ok (.if_icmp .eq (156), 3) := by decide +kernel
theorem d_La_law_277 : decode m_La_law.2.2.1 277 = .ok (.iconst 0, 1) := by decide +kernel
theorem d_La_law_278 : decode m_La_law.2.2.1 278 = .ok (.ireturn, 1) := by decide +kernel
theorem d_La_law_279 : decode m_La_law.2.2.1 279 = .ok (.aload_n 1, 1) := by decide +kernel
theorem d_La_law_280 : decode m_La_law.2.2.1 280 = .ok (.aload_n 0, 1) := by decide +kernel
theorem d_La_law_281 : decode m_La_law.2.2.1 281 = .ok (.iload_n 3, 1) := by decide +kernel
theorem d_La_law_282 : decode m_La_law.2.2.1 282 = .ok (.iconst 1, 1) := by decide +kernel
theorem d_La_law_283 : decode m_La_law.2.2.1 283 = .ok (.iadd, 1) := by decide +kernel
theorem d_La_law_284 : decode m_La_law.2.2.1 284 = .ok (.iaload, 1) := by decide +kernel
theorem d_La_law_285 : decode m_La_law.2.2.1 285 = .ok (.aload_n 0, 1) := by decide +kernel
theorem d_La_law_286 : decode m_La_law.2.2.1 286 = .ok (.iload_n 3, 1) := by decide +kernel
theorem d_La_law_287 : decode m_La_law.2.2.1 287 = .ok (.iconst 2, 1) := by decide +kernel
theorem d_La_law_288 : decode m_La_law.2.2.1 288 = .ok (.iadd, 1) := by decide +kernel
theorem d_La_law_289 : decode m_La_law.2.2.1 289 = .ok (.iaload, 1) := by decide +kernel
theorem d_La_law_290 : decode m_La_law.2.2.1 290 = .ok (.invokevirtual 37, 3) := by decide +kernel
theorem d_La_law_293 : decode m_La_law.2.2.1 293 = .ok (.aload_n 2, 1) := by decide +kernel
theorem d_La_law_294 : decode m_La_law.2.2.1 294 = .ok (.aload_n 0, 1) := by decide +kernel
theorem d_La_law_295 : decode m_La_law.2.2.1 295 = .ok (.iload_n 3, 1) := by decide +kernel
theorem d_La_law_296 : decode m_La_law.2.2.1 296 = .ok (.iconst 1, 1) := by decide +kernel
theorem d_La_law_297 : decode m_La_law.2.2.1 297 = .ok (.iadd, 1) := by decide +kernel
theorem d_La_law_298 : decode m_La_law.2.2.1 298 = .ok (.iaload, 1) := by decide +kernel
theorem d_La_law_299 : decode m_La_law.2.2.1 299 = .ok (.aload_n 0, 1) := by decide +kernel
theorem d_La_law_300 : decode m_La_law.2.2.1 300 = .ok (.iload_n 3, 1) := by decide +kernel
theorem d_La_law_301 : decode m_La_law.2.2.1 301 = .ok (.iconst 2, 1) := by decide +kernel
theorem d_La_law_302 : decode m_La_law.2.2.1 302 = .ok (.iadd, 1) := by decide +kernel
theorem d_La_law_303 : decode m_La_law.2.2.1 303 = .ok (.iaload, 1) := by decide +kernel
theorem d_La_law_304 : decode m_La_law.2.2.1 304 = .ok (.invokevirtual 40, 3) := by decide +kernel
theorem d_La_law_307 : decode m_La_law.2.2.1 307 = .ok (.if_icmp .eq (123), 3) := by decide +kernel
theorem d_La_law_310 : decode m_La_law.2.2.1 310 = .ok (.iconst 0, 1) := by decide +kernel
theorem d_La_law_311 : decode m_La_law.2.2.1 311 = .ok (.ireturn, 1) := by decide +kernel
theorem d_La_law_312 : decode m_La_law.2.2.1 312 = .ok (.aload_n 1, 1) := by decide +kernel
theorem d_La_law_313 : decode m_La_law.2.2.1 313 = .ok (.invokevirtual 41, 3) := by decide +kernel
theorem d_La_law_316 : decode m_La_law.2.2.1 316 = .ok (.aload_n 2, 1) := by decide +kernel
theorem d_La_law_317 : decode m_La_law.2.2.1 317 = .ok (.invokevirtual 45, 3) := by decide +kernel
theorem d_La_law_320 : decode m_La_law.2.2.1 320 = .ok (.if_icmp .eq (110), 3) := by decide +kernel
theorem d_La_law_323 : decode m_La_law.2.2.1 323 = .ok (.iconst 0, 1) := by decide +kernel
theorem d_La_law_324 : decode m_La_law.2.2.1 324 = .ok (.ireturn, 1) := by decide +kernel
theorem d_La_law_325 : decode m_La_law.2.2.1 325 = .ok (.aload_n 1, 1) := by decide +kernel
theorem d_La_law_326 : decode m_La_law.2.2.1 326 = .ok (.invokevirtual 46, 3) := by decide +kernel
theorem d_La_law_329 : decode m_La_law.2.2.1 329 = .ok (.aload_n 2, 1) := by decide +kernel
theorem d_La_law_330 : decode m_La_law.2.2.1 330 = .ok (.invokevirtual 49, 3) := by decide +kernel
theorem d_La_law_333 : decode m_La_law.2.2.1 333 = .ok (.if_icmp .eq (97), 3) := by decide +kernel
theorem d_La_law_336 : decode m_La_law.2.2.1 336 = .ok (.iconst 0, 1) := by decide +kernel
theorem d_La_law_337 : decode m_La_law.2.2.1 337 = .ok (.ireturn, 1) := by decide +kernel
theorem d_La_law_338 : decode m_La_law.2.2.1 338 = .ok (.aload_n 1, 1) := by decide +kernel
theorem d_La_law_339 : decode m_La_law.2.2.1 339 = .ok (.aload_n 0, 1) := by decide +kernel
theorem d_La_law_340 : decode m_La_law.2.2.1 340 = .ok (.iload_n 3, 1) := by decide +kernel
theorem d_La_law_341 : decode m_La_law.2.2.1 341 = .ok (.iconst 1, 1) := by decide +kernel
theorem d_La_law_342 : decode m_La_law.2.2.1 342 = .ok (.iadd, 1) := by decide +kernel
theorem d_La_law_343 : decode m_La_law.2.2.1 343 = .ok (.iaload, 1) := by decide +kernel
theorem d_La_law_344 : decode m_La_law.2.2.1 344 = .ok (.invokevirtual 50, 3) := by decide +kernel
theorem d_La_law_347 : decode m_La_law.2.2.1 347 = .ok (.aload_n 2, 1) := by decide +kernel
theorem d_La_law_348 : decode m_La_law.2.2.1 348 = .ok (.aload_n 0, 1) := by decide +kernel
theorem d_La_law_349 : decode m_La_law.2.2.1 349 = .ok (.iload_n 3, 1) := by decide +kernel
theorem d_La_law_350 : decode m_La_law.2.2.1 350 = .ok (.iconst 1, 1) := by decide +kernel
theorem d_La_law_351 : decode m_La_law.2.2.1 351 = .ok (.iadd, 1) := by decide +kernel
theorem d_La_law_352 : decode m_La_law.2.2.1 352 = .ok (.iaload, 1) := by decide +kernel
theorem d_La_law_353 : decode m_La_law.2.2.1 353 = .ok (.invokevirtual 54, 3) := by decide +kernel
theorem d_La_law_356 : decode m_La_law.2.2.1 356 = .ok (.if_icmp .eq (74), 3) := by decide +kernel
theorem d_La_law_359 : decode m_La_law.2.2.1 359 = .ok (.iconst 0, 1) := by decide +kernel
theorem d_La_law_360 : decode m_La_law.2.2.1 360 = .ok (.ireturn, 1) := by decide +kernel
theorem d_La_law_361 : decode m_La_law.2.2.1 361 = .ok (.aload_n 1, 1) := by decide +kernel
theorem d_La_law_362 : decode m_La_law.2.2.1 362 = .ok (.aload_n 0, 1) := by decide +kernel
theorem d_La_law_363 : decode m_La_law.2.2.1 363 = .ok (.iload_n 3, 1) := by decide +kernel
theorem d_La_law_364 : decode m_La_law.2.2.1 364 = .ok (.iconst 1, 1) := by decide +kernel
theorem d_La_law_365 : decode m_La_law.2.2.1 365 = .ok (.iadd, 1) := by decide +kernel
theorem d_La_law_366 : decode m_La_law.2.2.1 366 = .ok (.iaload, 1) := by decide +kernel
theorem d_La_law_367 : decode m_La_law.2.2.1 367 = .ok (.aload_n 0, 1) := by decide +kernel
theorem d_La_law_368 : decode m_La_law.2.2.1 368 = .ok (.iload_n 3, 1) := by decide +kernel
theorem d_La_law_369 : decode m_La_law.2.2.1 369 = .ok (.iconst 2, 1) := by decide +kernel
theorem d_La_law_370 : decode m_La_law.2.2.1 370 = .ok (.iadd, 1) := by decide +kernel
theorem d_La_law_371 : decode m_La_law.2.2.1 371 = .ok (.iaload, 1) := by decide +kernel
theorem d_La_law_372 : decode m_La_law.2.2.1 372 = .ok (.invokevirtual 55, 3) := by decide +kernel
theorem d_La_law_375 : decode m_La_law.2.2.1 375 = .ok (.aload_n 2, 1) := by decide +kernel
theorem d_La_law_376 : decode m_La_law.2.2.1 376 = .ok (.aload_n 0, 1) := by decide +kernel
theorem d_La_law_377 : decode m_La_law.2.2.1 377 = .ok (.iload_n 3, 1) := by decide +kernel
theorem d_La_law_378 : decode m_La_law.2.2.1 378 = .ok (.iconst 1, 1) := by decide +kernel
theorem d_La_law_379 : decode m_La_law.2.2.1 379 = .ok (.iadd, 1) := by decide +kernel
theorem d_La_law_380 : decode m_La_law.2.2.1 380 = .ok (.iaload, 1) := by decide +kernel
theorem d_La_law_381 : decode m_La_law.2.2.1 381 = .ok (.aload_n 0, 1) := by decide +kernel
theorem d_La_law_382 : decode m_La_law.2.2.1 382 = .ok (.iload_n 3, 1) := by decide +kernel
theorem d_La_law_383 : decode m_La_law.2.2.1 383 = .ok (.iconst 2, 1) := by decide +kernel
theorem d_La_law_384 : decode m_La_law.2.2.1 384 = .ok (.iadd, 1) := by decide +kernel
theorem d_La_law_385 : decode m_La_law.2.2.1 385 = .ok (.iaload, 1) := by decide +kernel
theorem d_La_law_386 : decode m_La_law.2.2.1 386 = .ok (.invokevirtual 59, 3) := by decide +kernel
theorem d_La_law_389 : decode m_La_law.2.2.1 389 = .ok (.if_icmp .eq (41), 3) := by decide +kernel
theorem d_La_law_392 : decode m_La_law.2.2.1 392 = .ok (.iconst 0, 1) := by decide +kernel
theorem d_La_law_393 : decode m_La_law.2.2.1 393 = .ok (.ireturn, 1) := by decide +kernel
theorem d_La_law_394 : decode m_La_law.2.2.1 394 = .ok (.aload_n 1, 1) := by decide +kernel
theorem d_La_law_395 : decode m_La_law.2.2.1 395 = .ok (.invokevirtual 60, 3) := by decide +kernel
theorem d_La_law_398 : decode m_La_law.2.2.1 398 = .ok (.aload_n 2, 1) := by decide +kernel
theorem d_La_law_399 : decode m_La_law.2.2.1 399 = .ok (.invokevirtual 63, 3) := by decide +kernel
theorem d_La_law_402 : decode m_La_law.2.2.1 402 = .ok (.if_icmp .eq (28), 3) := by decide +kernel
theorem d_La_law_405 : decode m_La_law.2.2.1 405 = .ok (.iconst 0, 1) := by decide +kernel
theorem d_La_law_406 : decode m_La_law.2.2.1 406 = .ok (.ireturn, 1) := by decide +kernel
theorem d_La_law_407 : decode m_La_law.2.2.1 407 = .ok (.aload_n 1, 1) := by decide +kernel
theorem d_La_law_408 : decode m_La_law.2.2.1 408 = .ok (.aload_n 0, 1) := by decide +kernel
theorem d_La_law_409 : decode m_La_law.2.2.1 409 = .ok (.iload_n 3, 1) := by decide +kernel
theorem d_La_law_410 : decode m_La_law.2.2.1 410 = .ok (.iconst 1, 1) := by decide +kernel
theorem d_La_law_411 : decode m_La_law.2.2.1 411 = .ok (.iadd, 1) := by decide +kernel
theorem d_La_law_412 : decode m_La_law.2.2.1 412 = .ok (.iaload, 1) := by decide +kernel
theorem d_La_law_413 : decode m_La_law.2.2.1 413 = .ok (.invokevirtual 64, 3) := by decide +kernel
theorem d_La_law_416 : decode m_La_law.2.2.1 416 = .ok (.aload_n 2, 1) := by decide +kernel
theorem d_La_law_417 : decode m_La_law.2.2.1 417 = .ok (.aload_n 0, 1) := by decide +kernel
theorem d_La_law_418 : decode m_La_law.2.2.1 418 = .ok (.iload_n 3, 1) := by decide +kernel
theorem d_La_law_419 : decode m_La_law.2.2.1 419 = .ok (.iconst 1, 1) := by decide +kernel
theorem d_La_law_420 : decode m_La_law.2.2.1 420 = .ok (.iadd, 1) := by decide +kernel
theorem d_La_law_421 : decode m_La_law.2.2.1 421 = .ok (.iaload, 1) := by decide +kernel
theorem d_La_law_422 : decode m_La_law.2.2.1 422 = .ok (.invokevirtual 67, 3) := by decide +kernel
theorem d_La_law_425 : decode m_La_law.2.2.1 425 = .ok (.if_icmp .eq (5), 3) := by decide +kernel
theorem d_La_law_428 : decode m_La_law.2.2.1 428 = .ok (.iconst 0, 1) := by decide +kernel
theorem d_La_law_429 : decode m_La_law.2.2.1 429 = .ok (.ireturn, 1) := by decide +kernel
theorem d_La_law_430 : decode m_La_law.2.2.1 430 = .ok (.iinc 3 (5), 3) := by decide +kernel
theorem d_La_law_433 : decode m_La_law.2.2.1 433 = .ok (.goto (-415), 3) := by decide +kernel
theorem d_La_law_436 : decode m_La_law.2.2.1 436 = .ok (.iconst 1, 1) := by decide +kernel
theorem d_La_law_437 : decode m_La_law.2.2.1 437 = .ok (.ireturn, 1) := by decide +kernel
end
section
/-! rows with ints by their numbers -/
def ew_q (v : Option Value) (sh : List ew_S) (M : ew_M) : Option Value → List ew_S → ew_M → Prop := fun v' sh' M' => v' = v ∧ sh' = sh ∧ M' = M
section EWQ
variable {l : Launch} {g : ew_G} {d a b : Nat} {m : ew_D} {pc : Nat} {ls st : List Value} {sh : List ew_S} {M : ew_M} {Q : Option Value → List ew_S → ew_M → Prop}
theorem en_iadd {x y : Nat} (hd : decode m.2.2.1 pc = .ok (.iadd, 1)) (k : Ew l g d a b m (pc + 1) ls (.int (nI (x + y)) :: st) sh M Q) : Ew l g d a b m pc ls (.int (nI y) :: .int (nI x) :: st) sh M Q := ew_iadd hd (by rw [nI_add]; exact k)
theorem en_imul {x y : Nat} (hd : decode m.2.2.1 pc = .ok (.imul, 1)) (k : Ew l g d a b m (pc + 1) ls (.int (nI (x * y)) :: st) sh M Q) : Ew l g d a b m pc ls (.int (nI y) :: .int (nI x) :: st) sh M Q := ew_imul hd (by rw [pk_mul]; exact k)
theorem en_isub {x y : Nat} (hd : decode m.2.2.1 pc = .ok (.isub, 1)) (h : y ≤ x) (k : Ew l g d a b m (pc + 1) ls (.int (nI (x - y)) :: st) sh M Q) : Ew l g d a b m pc ls (.int (nI y) :: .int (nI x) :: st) sh M Q := ew_isub hd (by rw [pk_sub h]; exact k)
theorem en_irem {x y : Nat} (hd : decode m.2.2.1 pc = .ok (.irem, 1)) (hx : x < 2 ^ 31) (h0 : 0 < y) (hy : y < 2 ^ 31) (k : Ew l g d a b m (pc + 1) ls (.int (nI (x % y)) :: st) sh M Q) : Ew l g d a b m pc ls (.int (nI y) :: .int (nI x) :: st) sh M Q := ew_irem hd (nI_ne0 h0 hy) (by rw [pk_rem hx h0 hy]; exact k)
theorem en_idiv {x y : Nat} (hd : decode m.2.2.1 pc = .ok (.idiv, 1)) (hx : x < 2 ^ 31) (h0 : 0 < y) (hy : y < 2 ^ 31) (k : Ew l g d a b m (pc + 1) ls (.int (nI (x / y)) :: st) sh M Q) : Ew l g d a b m pc ls (.int (nI y) :: .int (nI x) :: st) sh M Q := ew_idiv hd (nI_ne0 h0 hy) (by rw [pk_div hx h0 hy]; exact k)
theorem en_iinc {i x : Nat} (hd : decode m.2.2.1 pc = .ok (.iinc i 1, 3)) (hl : ls[i]? = some (.int (nI x))) (k : Ew l g d a b m (pc + 3) (ls.set i (.int (nI (x + 1)))) st sh M Q) : Ew l g d a b m pc ls st sh M Q := ew_iinc hd hl (nI_1 x) k
theorem en_idec {i x : Nat} (hd : decode m.2.2.1 pc = .ok (.iinc i (-1), 3)) (h0 : 0 < x) (hl : ls[i]? = some (.int (nI x))) (k : Ew l g d a b m (pc + 3) (ls.set i (.int (nI (x - 1)))) st sh M Q) : Ew l g d a b m pc ls st sh M Q := ew_iinc hd hl (by
  have := sb_m1 h0
  exact this) k
theorem en_icmp_lt {x y tgt : Nat} {off : Int} (hd : decode m.2.2.1 pc = .ok (.if_icmp .lt off, 3)) (ht : (pc : Int) + off = (tgt : Int)) (hx : x < 2 ^ 31) (hy : y < 2 ^ 31) (kt : x < y → Ew l g d a b m tgt ls st sh M Q) (kf : y ≤ x → Ew l g d a b m (pc + 3) ls st sh M Q) : Ew l g d a b m pc ls (.int (nI y) :: .int (nI x) :: st) sh M Q := ew_icmp_lt hd ht (fun h => kt ((nI_ltI hx hy).mp h)) (fun h => kf (Nat.le_of_not_lt fun q => h ((nI_ltI hx hy).mpr q)))
theorem en_icmp_ge {x y tgt : Nat} {off : Int} (hd : decode m.2.2.1 pc = .ok (.if_icmp .ge off, 3)) (ht : (pc : Int) + off = (tgt : Int)) (hx : x < 2 ^ 31) (hy : y < 2 ^ 31) (kt : y ≤ x → Ew l g d a b m tgt ls st sh M Q) (kf : x < y → Ew l g d a b m (pc + 3) ls st sh M Q) : Ew l g d a b m pc ls (.int (nI y) :: .int (nI x) :: st) sh M Q := ew_icmp_ge hd ht (fun h => kt ((nI_leI hy hx).mp h)) (fun h => kf (Nat.lt_of_not_le fun q => h ((nI_leI hy hx).mpr q)))
theorem en_icmp_gt {x y tgt : Nat} {off : Int} (hd : decode m.2.2.1 pc = .ok (.if_icmp .gt off, 3)) (ht : (pc : Int) + off = (tgt : Int)) (hx : x < 2 ^ 31) (hy : y < 2 ^ 31) (kt : y < x → Ew l g d a b m tgt ls st sh M Q) (kf : x ≤ y → Ew l g d a b m (pc + 3) ls st sh M Q) : Ew l g d a b m pc ls (.int (nI y) :: .int (nI x) :: st) sh M Q := ew_icmp_gt hd ht (fun h => kt ((nI_ltI hy hx).mp h)) (fun h => kf (Nat.le_of_not_lt fun q => h ((nI_ltI hy hx).mpr q)))
theorem en_icmp_le {x y tgt : Nat} {off : Int} (hd : decode m.2.2.1 pc = .ok (.if_icmp .le off, 3)) (ht : (pc : Int) + off = (tgt : Int)) (hx : x < 2 ^ 31) (hy : y < 2 ^ 31) (kt : x ≤ y → Ew l g d a b m tgt ls st sh M Q) (kf : y < x → Ew l g d a b m (pc + 3) ls st sh M Q) : Ew l g d a b m pc ls (.int (nI y) :: .int (nI x) :: st) sh M Q := ew_icmp_le hd ht (fun h => kt ((nI_leI hx hy).mp h)) (fun h => kf (Nat.lt_of_not_le fun q => h ((nI_leI hx hy).mpr q)))
theorem en_icmp_eq {x y tgt : Nat} {off : Int} (hd : decode m.2.2.1 pc = .ok (.if_icmp .eq off, 3)) (ht : (pc : Int) + off = (tgt : Int)) (hx : x < 2 ^ 31) (hy : y < 2 ^ 31) (kt : x = y → Ew l g d a b m tgt ls st sh M Q) (kf : x ≠ y → Ew l g d a b m (pc + 3) ls st sh M Q) : Ew l g d a b m pc ls (.int (nI y) :: .int (nI x) :: st) sh M Q := ew_icmp_eq hd ht (fun h => kt ((nI_eq hx hy).mp h)) (fun h => kf (fun q => h ((nI_eq hx hy).mpr q)))
theorem en_icmp_ne {x y tgt : Nat} {off : Int} (hd : decode m.2.2.1 pc = .ok (.if_icmp .ne off, 3)) (ht : (pc : Int) + off = (tgt : Int)) (hx : x < 2 ^ 31) (hy : y < 2 ^ 31) (kt : x ≠ y → Ew l g d a b m tgt ls st sh M Q) (kf : x = y → Ew l g d a b m (pc + 3) ls st sh M Q) : Ew l g d a b m pc ls (.int (nI y) :: .int (nI x) :: st) sh M Q := ew_icmp_ne hd ht (fun h => kt (fun q => h ((nI_eq hx hy).mpr q))) (fun h => kf ((nI_eq hx hy).mp h))
theorem en_if_eq {x tgt : Nat} {off : Int} (hd : decode m.2.2.1 pc = .ok (.ifCond .eq off, 3)) (ht : (pc : Int) + off = (tgt : Int)) (hx : x < 2 ^ 31) (kt : x = 0 → Ew l g d a b m tgt ls st sh M Q) (kf : x ≠ 0 → Ew l g d a b m (pc + 3) ls st sh M Q) : Ew l g d a b m pc ls (.int (nI x) :: st) sh M Q := ew_if_eq hd ht (fun h => kt ((nI_eq hx (by decide)).mp (by rw [h]; rfl))) (fun h => kf (fun q => h (by rw [q]; rfl)))
theorem en_if_ne {x tgt : Nat} {off : Int} (hd : decode m.2.2.1 pc = .ok (.ifCond .ne off, 3)) (ht : (pc : Int) + off = (tgt : Int)) (hx : x < 2 ^ 31) (kt : x ≠ 0 → Ew l g d a b m tgt ls st sh M Q) (kf : x = 0 → Ew l g d a b m (pc + 3) ls st sh M Q) : Ew l g d a b m pc ls (.int (nI x) :: st) sh M Q := ew_if_ne hd ht (fun h => kt (fun q => h (by rw [q]; rfl))) (fun h => kf ((nI_eq hx (by decide)).mp (by rw [h]; rfl)))
theorem en_if_le {x tgt : Nat} {off : Int} (hd : decode m.2.2.1 pc = .ok (.ifCond .le off, 3)) (ht : (pc : Int) + off = (tgt : Int)) (hx : x < 2 ^ 31) (kt : x = 0 → Ew l g d a b m tgt ls st sh M Q) (kf : 0 < x → Ew l g d a b m (pc + 3) ls st sh M Q) : Ew l g d a b m pc ls (.int (nI x) :: st) sh M Q := ew_if_le hd ht (fun h => kt (by
  rcases Nat.eq_zero_or_pos x with q | q
  · exact q
  · exact absurd h (nI_nle q hx))) (fun h => kf (by
  rcases Nat.eq_zero_or_pos x with q | q
  · exact absurd (by rw [q]; decide) h
  · exact q))
theorem en_if_lt {x tgt : Nat} {off : Int} (hd : decode m.2.2.1 pc = .ok (.ifCond .lt off, 3)) (ht : (pc : Int) + off = (tgt : Int)) (hx : x < 2 ^ 31) (kf : Ew l g d a b m (pc + 3) ls st sh M Q) : Ew l g d a b m pc ls (.int (nI x) :: st) sh M Q := ew_if_lt hd ht (fun h => absurd h (nI_pos hx)) (fun _ => kf)
theorem en_if_ge {x tgt : Nat} {off : Int} (hd : decode m.2.2.1 pc = .ok (.ifCond .ge off, 3)) (ht : (pc : Int) + off = (tgt : Int)) (hx : x < 2 ^ 31) (kt : Ew l g d a b m tgt ls st sh M Q) : Ew l g d a b m pc ls (.int (nI x) :: st) sh M Q := ew_if_ge hd ht (fun _ => kt) (fun h => absurd (nI_pos' hx) h)
/-- the int of a truth value -/
def ew_b (B : Bool) : Int32 := match B with
  | true => 1
  | false => 0
theorem ew_b01 (B : Bool) : ew_b B = 0 ∨ ew_b B = 1 := by cases B <;> first | exact Or.inl rfl | exact Or.inr rfl
theorem en_b_eq {B : Bool} {tgt : Nat} {off : Int} (hd : decode m.2.2.1 pc = .ok (.ifCond .eq off, 3)) (ht : (pc : Int) + off = (tgt : Int)) (kt : B = false → Ew l g d a b m tgt ls st sh M Q) (kf : B = true → Ew l g d a b m (pc + 3) ls st sh M Q) : Ew l g d a b m pc ls (.int (ew_b B) :: st) sh M Q := ew_if_eq hd ht (fun h => kt (by cases B <;> first | rfl | exact absurd h (by decide))) (fun h => kf (by cases B <;> first | rfl | exact absurd rfl h))
theorem en_b_ne {B : Bool} {tgt : Nat} {off : Int} (hd : decode m.2.2.1 pc = .ok (.ifCond .ne off, 3)) (ht : (pc : Int) + off = (tgt : Int)) (kt : B = true → Ew l g d a b m tgt ls st sh M Q) (kf : B = false → Ew l g d a b m (pc + 3) ls st sh M Q) : Ew l g d a b m pc ls (.int (ew_b B) :: st) sh M Q := ew_if_ne hd ht (fun h => kt (by cases B <;> first | rfl | exact absurd rfl h)) (fun h => kf (by cases B <;> first | rfl | exact absurd h (by decide)))
theorem en_istore_n {i : Fin 4} {x : Int32} {ls' : List Value} (hd : decode m.2.2.1 pc = .ok (.istore_n i, 1)) (hi : i.val < ls.length) (hl : ls.set i.val (.int x) = ls') (k : Ew l g d a b m (pc + 1) ls' st sh M Q) : Ew l g d a b m pc ls (.int x :: st) sh M Q := ew_istore_n hd hi (by rw [hl]; exact k)
theorem en_istore {i : Nat} {x : Int32} {ls' : List Value} (hd : decode m.2.2.1 pc = .ok (.istore i, 2)) (hi : i < ls.length) (hl : ls.set i (.int x) = ls') (k : Ew l g d a b m (pc + 2) ls' st sh M Q) : Ew l g d a b m pc ls (.int x :: st) sh M Q := ew_istore hd hi (by rw [hl]; exact k)
theorem en_astore_n {i : Fin 4} {x : Nat} {ls' : List Value} (hd : decode m.2.2.1 pc = .ok (.astore_n i, 1)) (hi : i.val < ls.length) (hl : ls.set i.val (.ref x) = ls') (k : Ew l g d a b m (pc + 1) ls' st sh M Q) : Ew l g d a b m pc ls (.ref x :: st) sh M Q := ew_astore_n hd hi (by rw [hl]; exact k)
theorem en_inc {i x : Nat} {ls' : List Value} (hd : decode m.2.2.1 pc = .ok (.iinc i 1, 3)) (hx : ls[i]? = some (.int (nI x))) (hl : ls.set i (.int (nI (x + 1))) = ls') (k : Ew l g d a b m (pc + 3) ls' st sh M Q) : Ew l g d a b m pc ls st sh M Q := en_iinc hd hx (by rw [hl]; exact k)
theorem en_incr {i : Nat} {n : Int} {x v : Int32} {ls' : List Value} (hd : decode m.2.2.1 pc = .ok (.iinc i n, 3)) (hx : ls[i]? = some (.int x)) (hv : x + Int32.ofInt n = v) (hl : ls.set i (.int v) = ls') (k : Ew l g d a b m (pc + 3) ls' st sh M Q) : Ew l g d a b m pc ls st sh M Q := ew_iinc hd hx hv (by rw [hl]; exact k)
theorem en_dec {i x : Nat} {ls' : List Value} (hd : decode m.2.2.1 pc = .ok (.iinc i (-1), 3)) (h0 : 0 < x) (hx : ls[i]? = some (.int (nI x))) (hl : ls.set i (.int (nI (x - 1))) = ls') (k : Ew l g d a b m (pc + 3) ls' st sh M Q) : Ew l g d a b m pc ls st sh M Q := en_idec hd h0 hx (by rw [hl]; exact k)
theorem en_eq {ls' st' : List Value} {M' : ew_M} (hl : ls = ls') (hs : st = st') (hM : M = M') (k : Ew l g d a b m pc ls' st' sh M' Q) : Ew l g d a b m pc ls st sh M Q := by subst hl; subst hs; subst hM; exact k
end EWQ
section EWCQ
variable {l : Launch} {g : ew_G} {d n : Nat} {m m' : ew_D} {pc : Nat} {ls st st0 st1 es As : List Value} {sh sh1 : List ew_S} {M M1 : ew_M} {v : Option Value} {Q : Option Value → List ew_S → ew_M → Prop}
theorem en_callS {idx : Nat} (hd : decode m.2.2.1 pc = .ok (.invokestatic idx, 3)) (ok : ew_ok m' n) (hk : Cond.methodLink m.1 idx m'.2.1 ∈ ew_tb) (hk2 : Cond.static m'.2.1 ∈ ew_tb) (hn : As.length = n) (hA : As.length ≤ m'.2.2.2.1) (hir : As.all ew_ir = true) (hst : (st.map fun v => v.category).sum ≤ 8) (hs0 : st0 = As.reverse ++ st) (he : ew_en m'.2.2.2.1 As = es)
    (hc : Ew l g d 0 0 m' 0 es [] sh M (ew_q v sh1 M1)) (h1 : v.toList ++ st = st1) (k : Ew l g (d + 1) 0 0 m (pc + 3) ls st1 sh1 M1 Q) : Ew l g (d + 1) 0 0 m pc ls st0 sh M Q := ew_callS (a := 0) (b := 0) (a1 := 0) (b1 := 0) hd ok hk hk2 hn hA hir hst hs0 (he ▸ hc) (fun v' sh' M' q => by
  obtain ⟨rfl, rfl, rfl⟩ := q
  rw [h1]
  exact k)
theorem en_callSN {idx : Nat} {host : String} (hd : decode m.2.2.1 pc = .ok (.invokestatic idx, 3)) (ok : ew_ok m' n) (hk : Cond.methodLinkNest m.1 idx m'.2.1 host ∈ ew_nt) (hk2 : Cond.static m'.2.1 ∈ ew_tb) (hn : As.length = n) (hA : As.length ≤ m'.2.2.2.1) (hir : As.all ew_ir = true) (hst : (st.map fun v => v.category).sum ≤ 8) (hs0 : st0 = As.reverse ++ st) (he : ew_en m'.2.2.2.1 As = es)
    (hc : Ew l g d 0 0 m' 0 es [] sh M (ew_q v sh1 M1)) (h1 : v.toList ++ st = st1) (k : Ew l g (d + 1) 0 0 m (pc + 3) ls st1 sh1 M1 Q) : Ew l g (d + 1) 0 0 m pc ls st0 sh M Q := ew_callSN (a := 0) (b := 0) (a1 := 0) (b1 := 0) hd ok hk hk2 hn hA hir hst hs0 (he ▸ hc) (fun v' sh' M' q => by
  obtain ⟨rfl, rfl, rfl⟩ := q
  rw [h1]
  exact k)
theorem en_callV {idx i ci : Nat} {fs : List (Option (Option Nat))} {r : vw_C} (hd : decode m.2.2.1 pc = .ok (.invokevirtual idx, 3)) (ok : ew_ok m' n) (hs : sh[i]? = some (.inr (.inr (ci, fs)))) (hcl : ew_cl[ci]? = some r) (hk : Cond.methodLink m.1 idx m'.2.1 ∈ ew_tb) (hk2 : Cond.instanceMethod m'.2.1 ∈ ew_tb) (hk3 : Cond.selects r.1 m'.2.1 m'.2.1 ∈ ew_tb) (hn : As.length = n) (hA : As.length + 1 ≤ m'.2.2.2.1) (hir : As.all ew_ir = true) (hst : (st.map fun v => v.category).sum ≤ 8) (hs0 : st0 = As.reverse ++ .ref i :: st) (he : ew_en m'.2.2.2.1 (.ref i :: As) = es)
    (hc : Ew l g d 0 0 m' 0 es [] sh M (ew_q v sh1 M1)) (h1 : v.toList ++ st = st1) (k : Ew l g (d + 1) 0 0 m (pc + 3) ls st1 sh1 M1 Q) : Ew l g (d + 1) 0 0 m pc ls st0 sh M Q := ew_callV (a := 0) (b := 0) (a1 := 0) (b1 := 0) hd ok hs hcl hk hk2 hk3 hn hA hir hst hs0 (he ▸ hc) (fun v' sh' M' q => by
  obtain ⟨rfl, rfl, rfl⟩ := q
  rw [h1]
  exact k)
/-- the same with any end of the callee -/
theorem en_callVq {Q1 : Option Value → List ew_S → ew_M → Prop} {idx i ci : Nat} {fs : List (Option (Option Nat))} {r : vw_C} (hd : decode m.2.2.1 pc = .ok (.invokevirtual idx, 3)) (ok : ew_ok m' n) (hs : sh[i]? = some (.inr (.inr (ci, fs)))) (hcl : ew_cl[ci]? = some r) (hk : Cond.methodLink m.1 idx m'.2.1 ∈ ew_tb) (hk2 : Cond.instanceMethod m'.2.1 ∈ ew_tb) (hk3 : Cond.selects r.1 m'.2.1 m'.2.1 ∈ ew_tb) (hn : As.length = n) (hA : As.length + 1 ≤ m'.2.2.2.1) (hir : As.all ew_ir = true) (hst : (st.map fun v => v.category).sum ≤ 8) (hs0 : st0 = As.reverse ++ .ref i :: st) (he : ew_en m'.2.2.2.1 (.ref i :: As) = es)
    (hc : Ew l g d 0 0 m' 0 es [] sh M Q1) (k : ∀ v sh' M', Q1 v sh' M' → Ew l g (d + 1) 0 0 m (pc + 3) ls (v.toList ++ st) sh' M' Q) : Ew l g (d + 1) 0 0 m pc ls st0 sh M Q := ew_callV (a := 0) (b := 0) (a1 := 0) (b1 := 0) hd ok hs hcl hk hk2 hk3 hn hA hir hst hs0 (he ▸ hc) k
end EWCQ
def ew_sub : List Value → List Value → Prop
  | [], [] => True
  | v :: a, w :: b => (v = w ∨ ew_ir w = false) ∧ ew_sub a b
  | _, _ => False
theorem ew_sub_len : ∀ {a b : List Value}, ew_sub a b → a.length = b.length
  | [], [], _ => rfl
  | _ :: _, _ :: _, h => by
    rw [List.length_cons, List.length_cons, ew_sub_len h.2]
theorem ew_sub_at : ∀ {a b : List Value} {i : Nat} {v : Value}, ew_sub a b → b[i]? = some v → ew_ir v = true → a[i]? = some v
  | [], [], i, v, _, h, _ => by simp at h
  | x :: a, y :: b, 0, v, h, hv, hr => by
    simp at hv
    subst hv
    rcases h.1 with e | e
    · simp [e]
    · rw [hr] at e
      cases e
  | x :: a, y :: b, i + 1, v, h, hv, hr => by
    have h1 : b[i]? = some v := by simpa using hv
    have := ew_sub_at h.2 h1 hr
    simpa using this
theorem en_drop {l : Launch} {g : ew_G} {d a b : Nat} {m : ew_D} {pc : Nat} {ls ls' st : List Value} {sh : List ew_S} {M : ew_M} {Q : Option Value → List ew_S → ew_M → Prop} (h : ew_sub ls ls') (k : Ew l g d a b m pc ls' st sh M Q) : Ew l g d a b m pc ls st sh M Q := by
  intro p e R s mid args below meth c H locs cells slots Z lr X h1 h2 h3 h4 hH hlo hL hr
  exact k p e R s mid args below meth c H locs cells slots Z lr X h1 h2 h3 h4 hH hlo ⟨hL.1, (ew_sub_len h).symm.trans hL.2.1, hL.2.2.1, fun i v hv hi => hL.2.2.2 i v (ew_sub_at h hv hi) hi⟩ hr
end
section
def ew_SH (L : Nat) : List ew_S := [.inl L, .inl 4, .inl 3, .inr (.inr (0, [some (some 4), some (some 10), some (some 17), some (some 21), some (some 23), some (some 43), none, none])), .inr (.inr (1, [some (some 5), some (some 6), some (some 7), some (some 8), some (some 9)])), .inl 32, .inl 32, .inl 32, .inl 32, .inl 32, .inr (.inr (2, [some (some 4), some (some 11), some (some 12), some (some 15), none, some (some 16)])), .inl 2, .inr (.inl (0, [some 13, some 14])), .inl 18, .inl 18, .inl 12, .inl 5, .inr (.inr (3, [some (some 4), some (some 18)])), .inr (.inl (0, [some 19, some 20])), .inl 8, .inl 8, .inr (.inr (4, [some (some 22)])), .inl 179, .inr (.inr (5, [some (some 4), some (some 10), some (some 17), some (some 24), some (some 27), some (some 30), some (some 34), some (some 36)])), .inr (.inr (7, [none, none, some (some 25), some (some 26)])), .inl 3, .inl 3, .inr (.inl (0, [some 28, some 29])), .inl 32, .inl 32, .inr (.inl (0, [some 31, some 32, some 33])), .inl 32, .inl 32, .inl 32, .inr (.inr (8, [none, some (some 35)])), .inl 64, .inr (.inl (1, [some 37, some 39, some 41])), .inr (.inr (8, [none, some (some 38)])), .inl 64, .inr (.inr (8, [none, some (some 40)])), .inl 32, .inr (.inr (8, [none, some (some 42)])), .inl 16, .inr (.inr (6, [some (some 4), some (some 10), some (some 21), some (some 22), some (some 44)])), .inr (.inr (7, [none, none, some (some 45), some (some 46)])), .inl 3, .inl 3, .inr (.inr (9, [some (some 48), some (some 49), some (some 50), some (some 51), some (some 52), none, some (some 53), some (some 54), some (some 55), none, some (some 56), none, none, none, none, some (some 57), some (some 58), some (some 59), none, some (some 60), some (some 61), some (some 62), some (some 63), some (some 64)])), .inl 16, .inl 2, .inl 12, .inl 12, .inl 12, .inl 4, .inl 4, .inl 4, .inl 179, .inl 3, .inl 3, .inl 3, .inl 32, .inl 64, .inl 60, .inl 176, .inl 5]
theorem ep_mul {x y : Nat} (hx : x < 12289) (hy : y < 12289) : x * y < 2 ^ 31 := by
  have h : x * y ≤ 12288 * 12288 := Nat.mul_le_mul (by omega) (by omega)
  omega
theorem ep_lt (x : Nat) : x % 12289 < 12289 := Nat.mod_lt _ (by decide)
theorem ep_sub {x y : Nat} (hy : y < 12289) : nI x - nI y + nI 12289 = nI (x + 12289 - y) := by
  have h : nI x + nI 12289 - nI y = nI (x + 12289 - y) := by rw [nI_add, pk_sub (by omega)]
  rw [← h, Int32.sub_eq_add_neg, Int32.sub_eq_add_neg, Int32.add_assoc, Int32.add_assoc, Int32.add_comm (-nI y)]
/-- a truth value: 0 .. n - 1 -/
def sp_in (x : Int32) (n : Nat) : Bool := decide (¬ x < 0 ∧ ¬ nI n ≤ x)
theorem sp_in_t {x : Int32} {n : Nat} (h : ¬ x < 0) (h2 : ¬ nI n ≤ x) : sp_in x n = true := decide_eq_true ⟨h, h2⟩
theorem sp_in_1 {x : Int32} {n : Nat} (h : x < 0) : sp_in x n = false := decide_eq_false (fun q => q.1 h)
theorem sp_in_2 {x : Int32} {n : Nat} (h : nI n ≤ x) : sp_in x n = false := decide_eq_false (fun q => q.2 h)
theorem sp_in_of {x : Int32} {n : Nat} (hn : n < 2 ^ 31) (h : sp_in x n = true) : ∃ j : Nat, j < n ∧ x = nI j := by
  obtain ⟨h1, h2⟩ := of_decide_eq_true h
  rcases pk_ix x hn with q | q | q
  · exact absurd q h1
  · exact absurd q h2
  · exact q
theorem sp_in_nI {j n : Nat} (hn : n < 2 ^ 31) (h : j < n) : sp_in (nI j) n = true := sp_in_t (nI_pos (by omega)) (nI_ge h hn)
/-- MIX -/
def sp_stir (m n : Int32) : Int32 := ((m ^^^ n) * (nI 16777619)) ^^^ (((m ^^^ n) * (nI 16777619)).toUInt32 >>> ((nI 15).toUInt32 &&& Int32.toUInt32 31)).toInt32
def sp_mix (x y : Int32) : Int32 := sp_stir (sp_stir (nI 40503) x) y
theorem pw_even {r q e : Nat} (h : ¬ e % 2 = 1) : r * q ^ e % 12289 = r * (q * q % 12289) ^ (e / 2) % 12289 := by
  obtain ⟨f, hf⟩ : ∃ f, e = 2 * f := ⟨e / 2, by omega⟩
  subst hf
  rw [Nat.mul_div_cancel_left f (by decide), Nat.pow_mul]
  have h1 : (q ^ 2) ^ f % 12289 = (q * q % 12289) ^ f % 12289 := by rw [Nat.pow_mod, Nat.pow_two]
  rw [Nat.mul_mod, h1, ← Nat.mul_mod]
theorem pw_odd {r q e : Nat} (h : e % 2 = 1) : r * q ^ e % 12289 = (r * q % 12289) * (q * q % 12289) ^ (e / 2) % 12289 := by
  obtain ⟨f, hf⟩ : ∃ f, e = 2 * f + 1 := ⟨e / 2, by omega⟩
  have hd : e / 2 = f := by omega
  have e1 : r * q ^ e = r * q * q ^ (2 * f) := by rw [hf, Nat.pow_succ, Nat.mul_comm (q ^ (2 * f)) q, Nat.mul_assoc]
  have e2 : ¬ (2 * f) % 2 = 1 := by omega
  rw [hd, e1, pw_even e2, show 2 * f / 2 = f by omega]
  conv => rhs; rw [Nat.mul_mod, Nat.mod_mod]
  rw [Nat.mul_mod]
set_option maxRecDepth 100000 in
theorem c_Fi_times (l : Launch) (g : ew_G) (d : Nat) (sh : List ew_S) (M : ew_M) (x y : Nat) (hx : x < 12289) (hy : y < 12289) :
    Ew l g d 0 0 m_Fi_times 0 [.int (nI x), .int (nI y)] [] sh M (ew_q (some (.int (nI (x * y % 12289)))) sh M) := by
  refine ew_iload_n d_Fi_times_0 rfl ?_
  refine ew_iload_n d_Fi_times_1 rfl ?_
  refine en_imul d_Fi_times_2 ?_
  refine ew_sipush (v := nI 12289) d_Fi_times_3 (by decide) ?_
  refine en_irem d_Fi_times_6 (ep_mul hx hy) (by decide) (by decide) ?_
  exact ew_iret d_Fi_times_7 rfl (⟨rfl, rfl, rfl⟩)
set_option maxRecDepth 100000 in
theorem c_Mo_times (l : Launch) (g : ew_G) (d : Nat) (sh : List ew_S) (M : ew_M) (x y : Nat) (hx : x < 12289) (hy : y < 12289) :
    Ew l g d 0 0 m_Mo_times 0 [.int (nI x), .int (nI y)] [] sh M (ew_q (some (.int (nI (x * y % 12289)))) sh M) := by
  refine ew_iload_n d_Mo_times_0 rfl ?_
  refine ew_iload_n d_Mo_times_1 rfl ?_
  refine en_imul d_Mo_times_2 ?_
  refine ew_sipush (v := nI 12289) d_Mo_times_3 (by decide) ?_
  refine en_irem d_Mo_times_6 (ep_mul hx hy) (by decide) (by decide) ?_
  exact ew_iret d_Mo_times_7 rfl (⟨rfl, rfl, rfl⟩)
set_option maxRecDepth 100000 in
theorem c_Fi_plus (l : Launch) (g : ew_G) (d : Nat) (sh : List ew_S) (M : ew_M) (x y : Nat) (hx : x < 12289) (hy : y < 12289) :
    Ew l g d 0 0 m_Fi_plus 0 [.int (nI x), .int (nI y)] [] sh M (ew_q (some (.int (nI ((x + y) % 12289)))) sh M) := by
  refine ew_iload_n d_Fi_plus_0 rfl ?_
  refine ew_iload_n d_Fi_plus_1 rfl ?_
  refine en_iadd d_Fi_plus_2 ?_
  refine ew_sipush (v := nI 12289) d_Fi_plus_3 (by decide) ?_
  refine en_irem d_Fi_plus_6 (by omega) (by decide) (by decide) ?_
  exact ew_iret d_Fi_plus_7 rfl (⟨rfl, rfl, rfl⟩)
set_option maxRecDepth 100000 in
theorem c_Fi_minus (l : Launch) (g : ew_G) (d : Nat) (sh : List ew_S) (M : ew_M) (x y : Nat) (hx : x < 12289) (hy : y < 12289) :
    Ew l g d 0 0 m_Fi_minus 0 [.int (nI x), .int (nI y)] [] sh M (ew_q (some (.int (nI ((x + 12289 - y) % 12289)))) sh M) := by
  refine ew_iload_n d_Fi_minus_0 rfl ?_
  refine ew_iload_n d_Fi_minus_1 rfl ?_
  refine ew_isub d_Fi_minus_2 ?_
  refine ew_sipush (v := nI 12289) d_Fi_minus_3 (by decide) ?_
  refine ew_iadd d_Fi_minus_6 ?_
  refine en_eq (st' := [.int (nI (x + 12289 - y))]) rfl (by rw [show (((nI x) - (nI y)) + (nI 12289)) = (nI (x + 12289 - y)) from ep_sub hy]) rfl ?_
  refine ew_sipush (v := nI 12289) d_Fi_minus_7 (by decide) ?_
  refine en_irem d_Fi_minus_10 (by omega) (by decide) (by decide) ?_
  exact ew_iret d_Fi_minus_11 rfl (⟨rfl, rfl, rfl⟩)
set_option maxRecDepth 100000 in
theorem c_Fi_holds (l : Launch) (g : ew_G) (d : Nat) (sh : List ew_S) (M : ew_M) (x : Int32) :
    Ew l g d 0 0 m_Fi_holds 0 [.int x] [] sh M (ew_q (some (.int (ew_b (sp_in x 12289)))) sh M) := by
  refine ew_iload_n d_Fi_holds_0 rfl ?_
  refine ew_if_lt (tgt := 15) d_Fi_holds_1 (by decide) (fun h1 => ?_) (fun h1 => ?_)
  · refine ew_iconst (v := nI 0) d_Fi_holds_15 (by decide) ?_
    exact ew_zret d_Fi_holds_16 rfl (by decide) (⟨by first | rw [sp_in_1 h1]; rfl | rw [sp_in_2 h8]; rfl, rfl, rfl⟩)
  · refine ew_iload_n d_Fi_holds_4 rfl ?_
    refine ew_sipush (v := nI 12289) d_Fi_holds_5 (by decide) ?_
    refine ew_icmp_ge (tgt := 15) d_Fi_holds_8 (by decide) (fun h8 => ?_) (fun h8 => ?_)
    · refine ew_iconst (v := nI 0) d_Fi_holds_15 (by decide) ?_
      exact ew_zret d_Fi_holds_16 rfl (by decide) (⟨by first | rw [sp_in_1 h1]; rfl | rw [sp_in_2 h8]; rfl, rfl, rfl⟩)
    · refine ew_iconst (v := nI 1) d_Fi_holds_11 (by decide) ?_
      refine ew_goto (tgt := 16) d_Fi_holds_12 (by decide) ?_
      exact ew_zret d_Fi_holds_16 rfl (by decide) (⟨by rw [sp_in_t h1 h8]; rfl, rfl, rfl⟩)
set_option maxRecDepth 100000 in
theorem c_Mo_isNumber (l : Launch) (g : ew_G) (d : Nat) (sh : List ew_S) (M : ew_M) (x : Int32) :
    Ew l g d 0 0 m_Mo_isNumber 0 [.int x] [] sh M (ew_q (some (.int (ew_b (sp_in x 12289)))) sh M) := by
  refine ew_iload_n d_Mo_isNumber_0 rfl ?_
  refine ew_if_lt (tgt := 15) d_Mo_isNumber_1 (by decide) (fun h1 => ?_) (fun h1 => ?_)
  · refine ew_iconst (v := nI 0) d_Mo_isNumber_15 (by decide) ?_
    exact ew_zret d_Mo_isNumber_16 rfl (by decide) (⟨by first | rw [sp_in_1 h1]; rfl | rw [sp_in_2 h8]; rfl, rfl, rfl⟩)
  · refine ew_iload_n d_Mo_isNumber_4 rfl ?_
    refine ew_sipush (v := nI 12289) d_Mo_isNumber_5 (by decide) ?_
    refine ew_icmp_ge (tgt := 15) d_Mo_isNumber_8 (by decide) (fun h8 => ?_) (fun h8 => ?_)
    · refine ew_iconst (v := nI 0) d_Mo_isNumber_15 (by decide) ?_
      exact ew_zret d_Mo_isNumber_16 rfl (by decide) (⟨by first | rw [sp_in_1 h1]; rfl | rw [sp_in_2 h8]; rfl, rfl, rfl⟩)
    · refine ew_iconst (v := nI 1) d_Mo_isNumber_11 (by decide) ?_
      refine ew_goto (tgt := 16) d_Mo_isNumber_12 (by decide) ?_
      exact ew_zret d_Mo_isNumber_16 rfl (by decide) (⟨by rw [sp_in_t h1 h8]; rfl, rfl, rfl⟩)
set_option maxRecDepth 100000 in
theorem c_Mo_isRow (l : Launch) (g : ew_G) (d : Nat) (sh : List ew_S) (M : ew_M) (x : Int32) :
    Ew l g d 0 0 m_Mo_isRow 0 [.int x] [] sh M (ew_q (some (.int (ew_b (sp_in x 8)))) sh M) := by
  refine ew_iload_n d_Mo_isRow_0 rfl ?_
  refine ew_if_lt (tgt := 14) d_Mo_isRow_1 (by decide) (fun h1 => ?_) (fun h1 => ?_)
  · refine ew_iconst (v := nI 0) d_Mo_isRow_14 (by decide) ?_
    exact ew_zret d_Mo_isRow_15 rfl (by decide) (⟨by first | rw [sp_in_1 h1]; rfl | rw [sp_in_2 h7]; rfl, rfl, rfl⟩)
  · refine ew_iload_n d_Mo_isRow_4 rfl ?_
    refine ew_bipush (v := nI 8) d_Mo_isRow_5 (by decide) ?_
    refine ew_icmp_ge (tgt := 14) d_Mo_isRow_7 (by decide) (fun h7 => ?_) (fun h7 => ?_)
    · refine ew_iconst (v := nI 0) d_Mo_isRow_14 (by decide) ?_
      exact ew_zret d_Mo_isRow_15 rfl (by decide) (⟨by first | rw [sp_in_1 h1]; rfl | rw [sp_in_2 h7]; rfl, rfl, rfl⟩)
    · refine ew_iconst (v := nI 1) d_Mo_isRow_10 (by decide) ?_
      refine ew_goto (tgt := 15) d_Mo_isRow_11 (by decide) ?_
      exact ew_zret d_Mo_isRow_15 rfl (by decide) (⟨by rw [sp_in_t h1 h7]; rfl, rfl, rfl⟩)
set_option maxRecDepth 100000 in
theorem lp_Fi_power (l : Launch) (g : ew_G) (d : Nat) (sh : List ew_S) (M : ew_M) : ∀ (n x y r q e : Nat), e < n → r < 12289 → q < 12289 → e < 2 ^ 31 → Ew l g (d + 1) 0 0 m_Fi_power 7 [.int (nI x), .int (nI y), .int (nI r), .int (nI q), .int (nI e)] [] sh M (ew_q (some (.int (nI (r * q ^ e % 12289)))) sh M) := by
  intro n
  induction n with
  | zero =>
    intro x y r q e h
    exact absurd h (Nat.not_lt_zero _)
  | succ n ih =>
    intro x y r q e he hr hq hb
    refine ew_iload d_Fi_power_7 rfl ?_
    refine en_if_le (tgt := 41) d_Fi_power_9 (by decide) (by omega) (fun h9 => ?_) (fun h9 => ?_)
    · refine ew_iload_n d_Fi_power_41 rfl ?_
      exact ew_iret d_Fi_power_42 rfl (⟨by rw [h9, Nat.pow_zero, Nat.mul_one, Nat.mod_eq_of_lt hr], rfl, rfl⟩)
    · refine ew_iload d_Fi_power_12 rfl ?_
      refine ew_iconst (v := nI 2) d_Fi_power_14 (by decide) ?_
      refine en_irem d_Fi_power_15 (by omega) (by decide) (by decide) ?_
      refine ew_iconst (v := nI 1) d_Fi_power_16 (by decide) ?_
      refine en_icmp_ne (tgt := 26) d_Fi_power_17 (by decide) (by omega) (by omega) (fun h17 => ?_) (fun h17 => ?_)
      · refine ew_iload_n d_Fi_power_26 rfl ?_
        refine ew_iload_n d_Fi_power_27 rfl ?_
        refine en_callS (As := [.int (nI q), .int (nI q)]) (st := []) (st1 := [.int (nI (q * q % 12289))]) d_Fi_power_28 k_Fi_times tw_29 tw_30 rfl (Nat.le_of_ble_eq_true rfl) rfl (Nat.le_of_ble_eq_true rfl) rfl rfl (c_Fi_times l g _ sh M q q (by assumption) (by assumption)) rfl ?_
        refine en_istore_n (ls' := [.int (nI x), .int (nI y), .int (nI r), .int (nI (q * q % 12289)), .int (nI e)]) d_Fi_power_31 (Nat.le_of_ble_eq_true rfl) rfl ?_
        refine ew_iload d_Fi_power_32 rfl ?_
        refine ew_iconst (v := nI 2) d_Fi_power_34 (by decide) ?_
        refine en_idiv d_Fi_power_35 (by omega) (by decide) (by decide) ?_
        refine en_istore (ls' := [.int (nI x), .int (nI y), .int (nI r), .int (nI (q * q % 12289)), .int (nI (e / 2))]) d_Fi_power_36 (Nat.le_of_ble_eq_true rfl) rfl ?_
        refine ew_goto (tgt := 7) d_Fi_power_38 (by decide) ?_
        rw [pw_even h17]
        exact ih x y r (q * q % 12289) (e / 2) (by omega) hr (ep_lt _) (by omega)
      · refine ew_iload_n d_Fi_power_20 rfl ?_
        refine ew_iload_n d_Fi_power_21 rfl ?_
        refine en_callS (As := [.int (nI r), .int (nI q)]) (st := []) (st1 := [.int (nI (r * q % 12289))]) d_Fi_power_22 k_Fi_times tw_29 tw_30 rfl (Nat.le_of_ble_eq_true rfl) rfl (Nat.le_of_ble_eq_true rfl) rfl rfl (c_Fi_times l g _ sh M r q (by assumption) (by assumption)) rfl ?_
        refine en_istore_n (ls' := [.int (nI x), .int (nI y), .int (nI (r * q % 12289)), .int (nI q), .int (nI e)]) d_Fi_power_25 (Nat.le_of_ble_eq_true rfl) rfl ?_
        refine ew_iload_n d_Fi_power_26 rfl ?_
        refine ew_iload_n d_Fi_power_27 rfl ?_
        refine en_callS (As := [.int (nI q), .int (nI q)]) (st := []) (st1 := [.int (nI (q * q % 12289))]) d_Fi_power_28 k_Fi_times tw_29 tw_30 rfl (Nat.le_of_ble_eq_true rfl) rfl (Nat.le_of_ble_eq_true rfl) rfl rfl (c_Fi_times l g _ sh M q q (by assumption) (by assumption)) rfl ?_
        refine en_istore_n (ls' := [.int (nI x), .int (nI y), .int (nI (r * q % 12289)), .int (nI (q * q % 12289)), .int (nI e)]) d_Fi_power_31 (Nat.le_of_ble_eq_true rfl) rfl ?_
        refine ew_iload d_Fi_power_32 rfl ?_
        refine ew_iconst (v := nI 2) d_Fi_power_34 (by decide) ?_
        refine en_idiv d_Fi_power_35 (by omega) (by decide) (by decide) ?_
        refine en_istore (ls' := [.int (nI x), .int (nI y), .int (nI (r * q % 12289)), .int (nI (q * q % 12289)), .int (nI (e / 2))]) d_Fi_power_36 (Nat.le_of_ble_eq_true rfl) rfl ?_
        refine ew_goto (tgt := 7) d_Fi_power_38 (by decide) ?_
        rw [pw_odd h17]
        exact ih x y (r * q % 12289) (q * q % 12289) (e / 2) (by omega) (ep_lt _) (ep_lt _) (by omega)
set_option maxRecDepth 100000 in
theorem lp_Mo_inverse (l : Launch) (g : ew_G) (d : Nat) (sh : List ew_S) (M : ew_M) : ∀ (n x r q e : Nat), e < n → r < 12289 → q < 12289 → e < 2 ^ 31 → Ew l g (d + 1) 0 0 m_Mo_inverse 8 [.int (nI x), .int (nI r), .int (nI q), .int (nI e)] [] sh M (ew_q (some (.int (nI (r * q ^ e % 12289)))) sh M) := by
  intro n
  induction n with
  | zero =>
    intro x r q e h
    exact absurd h (Nat.not_lt_zero _)
  | succ n ih =>
    intro x r q e he hr hq hb
    refine ew_iload_n d_Mo_inverse_8 rfl ?_
    refine en_if_le (tgt := 38) d_Mo_inverse_9 (by decide) (by omega) (fun h9 => ?_) (fun h9 => ?_)
    · refine ew_iload_n d_Mo_inverse_38 rfl ?_
      exact ew_iret d_Mo_inverse_39 rfl (⟨by rw [h9, Nat.pow_zero, Nat.mul_one, Nat.mod_eq_of_lt hr], rfl, rfl⟩)
    · refine ew_iload_n d_Mo_inverse_12 rfl ?_
      refine ew_iconst (v := nI 2) d_Mo_inverse_13 (by decide) ?_
      refine en_irem d_Mo_inverse_14 (by omega) (by decide) (by decide) ?_
      refine ew_iconst (v := nI 1) d_Mo_inverse_15 (by decide) ?_
      refine en_icmp_ne (tgt := 25) d_Mo_inverse_16 (by decide) (by omega) (by omega) (fun h16 => ?_) (fun h16 => ?_)
      · refine ew_iload_n d_Mo_inverse_25 rfl ?_
        refine ew_iload_n d_Mo_inverse_26 rfl ?_
        refine en_callS (As := [.int (nI q), .int (nI q)]) (st := []) (st1 := [.int (nI (q * q % 12289))]) d_Mo_inverse_27 k_Mo_times tw_592 tw_593 rfl (Nat.le_of_ble_eq_true rfl) rfl (Nat.le_of_ble_eq_true rfl) rfl rfl (c_Mo_times l g _ sh M q q (by assumption) (by assumption)) rfl ?_
        refine en_istore_n (ls' := [.int (nI x), .int (nI r), .int (nI (q * q % 12289)), .int (nI e)]) d_Mo_inverse_30 (Nat.le_of_ble_eq_true rfl) rfl ?_
        refine ew_iload_n d_Mo_inverse_31 rfl ?_
        refine ew_iconst (v := nI 2) d_Mo_inverse_32 (by decide) ?_
        refine en_idiv d_Mo_inverse_33 (by omega) (by decide) (by decide) ?_
        refine en_istore_n (ls' := [.int (nI x), .int (nI r), .int (nI (q * q % 12289)), .int (nI (e / 2))]) d_Mo_inverse_34 (Nat.le_of_ble_eq_true rfl) rfl ?_
        refine ew_goto (tgt := 8) d_Mo_inverse_35 (by decide) ?_
        rw [pw_even h16]
        exact ih x r (q * q % 12289) (e / 2) (by omega) hr (ep_lt _) (by omega)
      · refine ew_iload_n d_Mo_inverse_19 rfl ?_
        refine ew_iload_n d_Mo_inverse_20 rfl ?_
        refine en_callS (As := [.int (nI r), .int (nI q)]) (st := []) (st1 := [.int (nI (r * q % 12289))]) d_Mo_inverse_21 k_Mo_times tw_592 tw_593 rfl (Nat.le_of_ble_eq_true rfl) rfl (Nat.le_of_ble_eq_true rfl) rfl rfl (c_Mo_times l g _ sh M r q (by assumption) (by assumption)) rfl ?_
        refine en_istore_n (ls' := [.int (nI x), .int (nI (r * q % 12289)), .int (nI q), .int (nI e)]) d_Mo_inverse_24 (Nat.le_of_ble_eq_true rfl) rfl ?_
        refine ew_iload_n d_Mo_inverse_25 rfl ?_
        refine ew_iload_n d_Mo_inverse_26 rfl ?_
        refine en_callS (As := [.int (nI q), .int (nI q)]) (st := []) (st1 := [.int (nI (q * q % 12289))]) d_Mo_inverse_27 k_Mo_times tw_592 tw_593 rfl (Nat.le_of_ble_eq_true rfl) rfl (Nat.le_of_ble_eq_true rfl) rfl rfl (c_Mo_times l g _ sh M q q (by assumption) (by assumption)) rfl ?_
        refine en_istore_n (ls' := [.int (nI x), .int (nI (r * q % 12289)), .int (nI (q * q % 12289)), .int (nI e)]) d_Mo_inverse_30 (Nat.le_of_ble_eq_true rfl) rfl ?_
        refine ew_iload_n d_Mo_inverse_31 rfl ?_
        refine ew_iconst (v := nI 2) d_Mo_inverse_32 (by decide) ?_
        refine en_idiv d_Mo_inverse_33 (by omega) (by decide) (by decide) ?_
        refine en_istore_n (ls' := [.int (nI x), .int (nI (r * q % 12289)), .int (nI (q * q % 12289)), .int (nI (e / 2))]) d_Mo_inverse_34 (Nat.le_of_ble_eq_true rfl) rfl ?_
        refine ew_goto (tgt := 8) d_Mo_inverse_35 (by decide) ?_
        rw [pw_odd h16]
        exact ih x (r * q % 12289) (q * q % 12289) (e / 2) (by omega) (ep_lt _) (ep_lt _) (by omega)
set_option maxRecDepth 100000 in
theorem c_Fi_power (l : Launch) (g : ew_G) (d : Nat) (sh : List ew_S) (M : ew_M) (x e : Nat) (hx : x < 12289) (he : e < 2 ^ 31) :
    Ew l g (d + 1) 0 0 m_Fi_power 0 [.int (nI x), .int (nI e), .retAddr 0, .retAddr 0, .retAddr 0] [] sh M (ew_q (some (.int (nI (x ^ e % 12289)))) sh M) := by
  refine ew_iconst (v := nI 1) d_Fi_power_0 (by decide) ?_
  refine en_istore_n (ls' := [.int (nI x), .int (nI e), .int (nI 1), .retAddr 0, .retAddr 0]) d_Fi_power_1 (Nat.le_of_ble_eq_true rfl) rfl ?_
  refine ew_iload_n d_Fi_power_2 rfl ?_
  refine en_istore_n (ls' := [.int (nI x), .int (nI e), .int (nI 1), .int (nI x), .retAddr 0]) d_Fi_power_3 (Nat.le_of_ble_eq_true rfl) rfl ?_
  refine ew_iload_n d_Fi_power_4 rfl ?_
  refine en_istore (ls' := [.int (nI x), .int (nI e), .int (nI 1), .int (nI x), .int (nI e)]) d_Fi_power_5 (Nat.le_of_ble_eq_true rfl) rfl ?_
  rw [show x ^ e % 12289 = 1 * x ^ e % 12289 by rw [Nat.one_mul]]
  exact lp_Fi_power l g d sh M (e + 1) x e 1 x e (by omega) (by decide) hx he
set_option maxRecDepth 100000 in
theorem c_Fi_inverse (l : Launch) (g : ew_G) (d : Nat) (sh : List ew_S) (M : ew_M) (x : Nat) (hx : x < 12289) :
    Ew l g (d + 2) 0 0 m_Fi_inverse 0 [.int (nI x)] [] sh M (ew_q (some (.int (nI (x ^ 12287 % 12289)))) sh M) := by
  refine ew_iload_n d_Fi_inverse_0 rfl ?_
  refine ew_sipush (v := nI 12287) d_Fi_inverse_1 (by decide) ?_
  refine en_callS (As := [.int (nI x), .int (nI 12287)]) (st := []) (st1 := [.int (nI (x ^ 12287 % 12289))]) d_Fi_inverse_4 k_Fi_power tw_36 tw_27 rfl (Nat.le_of_ble_eq_true rfl) rfl (Nat.le_of_ble_eq_true rfl) rfl rfl (c_Fi_power l g _ sh M x 12287 (hx) (by decide)) rfl ?_
  exact ew_iret d_Fi_inverse_7 rfl (⟨rfl, rfl, rfl⟩)
set_option maxRecDepth 100000 in
theorem c_Mo_inverse (l : Launch) (g : ew_G) (d : Nat) (sh : List ew_S) (M : ew_M) (x : Nat) (hx : x < 12289) :
    Ew l g (d + 1) 0 0 m_Mo_inverse 0 [.int (nI x), .retAddr 0, .retAddr 0, .retAddr 0] [] sh M (ew_q (some (.int (nI (x ^ 12287 % 12289)))) sh M) := by
  refine ew_iconst (v := nI 1) d_Mo_inverse_0 (by decide) ?_
  refine en_istore_n (ls' := [.int (nI x), .int (nI 1), .retAddr 0, .retAddr 0]) d_Mo_inverse_1 (Nat.le_of_ble_eq_true rfl) rfl ?_
  refine ew_iload_n d_Mo_inverse_2 rfl ?_
  refine en_istore_n (ls' := [.int (nI x), .int (nI 1), .int (nI x), .retAddr 0]) d_Mo_inverse_3 (Nat.le_of_ble_eq_true rfl) rfl ?_
  refine ew_sipush (v := nI 12287) d_Mo_inverse_4 (by decide) ?_
  refine en_istore_n (ls' := [.int (nI x), .int (nI 1), .int (nI x), .int (nI 12287)]) d_Mo_inverse_7 (Nat.le_of_ble_eq_true rfl) rfl ?_
  rw [show x ^ 12287 % 12289 = 1 * x ^ 12287 % 12289 by rw [Nat.one_mul]]
  exact lp_Mo_inverse l g d sh M 12288 x 1 x 12287 (by decide) (by decide) hx (by decide)
set_option maxRecDepth 100000 in
theorem lp_Mo_power (l : Launch) (g : ew_G) (d : Nat) (sh : List ew_S) (M : ew_M) : ∀ (n x e i r : Nat), e < i + n → i ≤ e → x < 12289 → e < 2 ^ 31 → r = x ^ i % 12289 → Ew l g (d + 1) 0 0 m_Mo_power 4 [.int (nI x), .int (nI e), .int (nI r), .int (nI i)] [] sh M (ew_q (some (.int (nI (x ^ e % 12289)))) sh M) := by
  intro n
  induction n with
  | zero =>
    intro x e i r h h2
    exact absurd h (by omega)
  | succ n ih =>
    intro x e i r he hi hx hb hr
    refine ew_iload_n d_Mo_power_4 rfl ?_
    refine ew_iload_n d_Mo_power_5 rfl ?_
    refine en_icmp_ge (tgt := 21) d_Mo_power_6 (by decide) (by omega) (by omega) (fun h6 => ?_) (fun h6 => ?_)
    · refine ew_iload_n d_Mo_power_21 rfl ?_
      exact ew_iret d_Mo_power_22 rfl (⟨by rw [hr, show i = e by omega], rfl, rfl⟩)
    · refine ew_iload_n d_Mo_power_9 rfl ?_
      refine ew_iload_n d_Mo_power_10 rfl ?_
      refine en_callS (As := [.int (nI r), .int (nI x)]) (st := []) (st1 := [.int (nI (r * x % 12289))]) d_Mo_power_11 k_Mo_times tw_592 tw_593 rfl (Nat.le_of_ble_eq_true rfl) rfl (Nat.le_of_ble_eq_true rfl) rfl rfl (c_Mo_times l g _ sh M r x (by first | assumption | (rw [hr]; exact ep_lt _)) (by first | assumption | (rw [hr]; exact ep_lt _))) rfl ?_
      refine en_istore_n (ls' := [.int (nI x), .int (nI e), .int (nI (r * x % 12289)), .int (nI i)]) d_Mo_power_14 (Nat.le_of_ble_eq_true rfl) rfl ?_
      refine en_inc (ls' := [.int (nI x), .int (nI e), .int (nI (r * x % 12289)), .int (nI (i + 1))]) d_Mo_power_15 rfl rfl ?_
      refine ew_goto (tgt := 4) d_Mo_power_18 (by decide) ?_
      rw [show r * x % 12289 = x ^ (i + 1) % 12289 by rw [hr, Nat.pow_succ, Nat.mod_mul_mod]]
      exact ih x e (i + 1) _ (by omega) (by omega) hx hb rfl
set_option maxRecDepth 100000 in
theorem c_Mo_power (l : Launch) (g : ew_G) (d : Nat) (sh : List ew_S) (M : ew_M) (x e : Nat) (hx : x < 12289) (he : e < 2 ^ 31) :
    Ew l g (d + 1) 0 0 m_Mo_power 0 [.int (nI x), .int (nI e), .retAddr 0, .retAddr 0] [] sh M (ew_q (some (.int (nI (x ^ e % 12289)))) sh M) := by
  refine ew_iconst (v := nI 1) d_Mo_power_0 (by decide) ?_
  refine en_istore_n (ls' := [.int (nI x), .int (nI e), .int (nI 1), .retAddr 0]) d_Mo_power_1 (Nat.le_of_ble_eq_true rfl) rfl ?_
  refine ew_iconst (v := nI 0) d_Mo_power_2 (by decide) ?_
  refine en_istore_n (ls' := [.int (nI x), .int (nI e), .int (nI 1), .int (nI 0)]) d_Mo_power_3 (Nat.le_of_ble_eq_true rfl) rfl ?_
  exact lp_Mo_power l g d sh M (e + 1) x e 0 1 (by omega) (by omega) hx he (by rw [Nat.pow_zero])
set_option maxRecDepth 100000 in
theorem c_Mo_mod (l : Launch) (g : ew_G) (d : Nat) (sh : List ew_S) (M : ew_M) (x : Nat) (hx : x < 2 ^ 31) :
    Ew l g d 0 0 m_Mo_mod 0 [.int (nI x), .retAddr 0] [] sh M (ew_q (some (.int (nI (x % 12289)))) sh M) := by
  refine ew_iload_n d_Mo_mod_0 rfl ?_
  refine ew_sipush (v := nI 12289) d_Mo_mod_1 (by decide) ?_
  refine en_irem d_Mo_mod_4 (by omega) (by decide) (by decide) ?_
  refine en_istore_n (ls' := [.int (nI x), .int (nI (x % 12289))]) d_Mo_mod_5 (Nat.le_of_ble_eq_true rfl) rfl ?_
  refine ew_iload_n d_Mo_mod_6 rfl ?_
  refine en_if_ge (tgt := 18) d_Mo_mod_7 (by decide) (by omega) ?_
  refine ew_iload_n d_Mo_mod_18 rfl ?_
  exact ew_iret d_Mo_mod_19 rfl (⟨rfl, rfl, rfl⟩)
theorem ep_rem {x y : Nat} (hx : x < 12289) (hy : y < 12289) : (nI x - nI y) - (nI x - nI y) / nI 12289 * nI 12289 = nI x - nI y := by
  have h1 : (nI x - nI y).toInt = (x : Int) - y := pk_sub_toInt (by omega) (by omega)
  have h2 : (nI 12289).toInt = 12289 := rfl
  have h3 : (nI x - nI y) / nI 12289 = 0 := by
    apply Int32.toInt_inj.mp
    rw [Int32.toInt_div, h1, h2]
    have : ((x : Int) - y).tdiv 12289 = 0 := by
      rcases (show ((x : Int) - y) < 0 ∨ 0 ≤ ((x : Int) - y) by omega) with q | q
      · have h4 : ((x : Int) - y) = -(((y - x : Nat) : Int)) := by omega
        rw [h4, Int.neg_tdiv, Int.tdiv_eq_zero_of_lt (by omega) (by omega)]
        rfl
      · exact Int.tdiv_eq_zero_of_lt q (by omega)
    rw [this]
    rfl
  rw [h3, Int32.zero_mul, Int32.sub_zero]
theorem ep_modN {x y : Nat} (hx : x < 12289) (hy : y < 12289) (h : y ≤ x) : (x + 12289 - y) % 12289 = x - y := by
  rw [show x + 12289 - y = (x - y) + 12289 by omega, Nat.add_mod_right, Nat.mod_eq_of_lt (by omega)]
theorem ep_modM {x y : Nat} (hx : x < 12289) (hy : y < 12289) (h : x < y) : (x + 12289 - y) % 12289 = x + 12289 - y := Nat.mod_eq_of_lt (by omega)
theorem ep_lt0 {x y : Nat} (hx : x < 12289) (hy : y < 12289) : nI x - nI y < 0 ↔ x < y := by
  rw [Int32.lt_iff_toInt_lt, pk_sub_toInt (by omega) (by omega), Int32.toInt_zero]
  omega
set_option maxRecDepth 100000 in
theorem c_Mo_modS (l : Launch) (g : ew_G) (d : Nat) (sh : List ew_S) (M : ew_M) (x y : Nat) (hx : x < 12289) (hy : y < 12289) :
    Ew l g d 0 0 m_Mo_mod 0 [.int (nI x - nI y), .retAddr 0] [] sh M (ew_q (some (.int (nI ((x + 12289 - y) % 12289)))) sh M) := by
  refine ew_iload_n d_Mo_mod_0 rfl ?_
  refine ew_sipush (v := nI 12289) d_Mo_mod_1 (by decide) ?_
  refine ew_irem d_Mo_mod_4 (by decide) ?_
  refine en_eq (st' := [.int (nI x - nI y)]) rfl (by rw [show ((nI x - nI y) - (nI x - nI y) / (nI 12289) * (nI 12289)) = (nI x - nI y) from ep_rem hx hy]) rfl ?_
  refine en_istore_n (ls' := [.int (nI x - nI y), .int (nI x - nI y)]) d_Mo_mod_5 (Nat.le_of_ble_eq_true rfl) rfl ?_
  refine ew_iload_n d_Mo_mod_6 rfl ?_
  refine ew_if_ge (tgt := 18) d_Mo_mod_7 (by decide) (fun h7 => ?_) (fun h7 => ?_)
  · refine ew_iload_n d_Mo_mod_18 rfl ?_
    exact ew_iret d_Mo_mod_19 rfl (⟨by rw [ep_modN hx hy (Nat.le_of_not_lt fun q => absurd ((ep_lt0 hx hy).mpr q) (Int32.not_lt.mpr h7)), ← pk_sub (Nat.le_of_not_lt fun q => absurd ((ep_lt0 hx hy).mpr q) (Int32.not_lt.mpr h7))], rfl, rfl⟩)
  · refine ew_iload_n d_Mo_mod_10 rfl ?_
    refine ew_sipush (v := nI 12289) d_Mo_mod_11 (by decide) ?_
    refine ew_iadd d_Mo_mod_14 ?_
    refine en_eq (st' := [.int (nI (x + 12289 - y))]) rfl (by rw [show ((nI x - nI y) + (nI 12289)) = (nI (x + 12289 - y)) from ep_sub hy]) rfl ?_
    refine ew_goto (tgt := 19) d_Mo_mod_15 (by decide) ?_
    exact ew_iret d_Mo_mod_19 rfl (⟨by rw [ep_modM hx hy ((ep_lt0 hx hy).mp (Int32.not_le.mp h7))], rfl, rfl⟩)
set_option maxRecDepth 100000 in
theorem c_P_stir (l : Launch) (g : ew_G) (d : Nat) (sh : List ew_S) (M : ew_M) (x y : Int32) :
    Ew l g d 0 0 m_P_stir 0 [.int x, .int y, .retAddr 0] [] sh M (ew_q (some (.int (sp_stir x y))) sh M) := by
  refine ew_iload_n d_P_stir_0 rfl ?_
  refine ew_iload_n d_P_stir_1 rfl ?_
  refine ew_ixor d_P_stir_2 ?_
  refine ew_ldc (v := 16777619) d_P_stir_3 tw_382 ?_
  refine en_eq rfl (show _ = [.int (nI 16777619), .int (x ^^^ y)] from rfl) rfl ?_
  refine ew_imul d_P_stir_5 ?_
  refine en_istore_n (ls' := [.int x, .int y, .int ((x ^^^ y) * (nI 16777619))]) d_P_stir_6 (Nat.le_of_ble_eq_true rfl) rfl ?_
  refine ew_iload_n d_P_stir_7 rfl ?_
  refine ew_iload_n d_P_stir_8 rfl ?_
  refine ew_bipush (v := nI 15) d_P_stir_9 (by decide) ?_
  refine ew_iushr d_P_stir_11 ?_
  refine ew_ixor d_P_stir_12 ?_
  exact ew_iret d_P_stir_13 rfl (⟨rfl, rfl, rfl⟩)
set_option maxRecDepth 100000 in
theorem c_P_mix (l : Launch) (g : ew_G) (d : Nat) (sh : List ew_S) (M : ew_M) (x y : Int32) :
    Ew l g (d + 1) 0 0 m_P_mix 0 [.int x, .int y] [] sh M (ew_q (some (.int (sp_mix x y))) sh M) := by
  refine ew_ldc (v := 40503) d_P_mix_0 tw_378 ?_
  refine en_eq rfl (show _ = [.int (nI 40503)] from rfl) rfl ?_
  refine ew_iload_n d_P_mix_2 rfl ?_
  refine en_callS (As := [.int (nI 40503), .int x]) (st := []) (st1 := [.int (sp_stir (nI 40503) x)]) d_P_mix_3 k_P_stir tw_379 tw_380 rfl (Nat.le_of_ble_eq_true rfl) rfl (Nat.le_of_ble_eq_true rfl) rfl rfl (c_P_stir l g _ sh M (nI 40503) x) rfl ?_
  refine ew_iload_n d_P_mix_6 rfl ?_
  refine en_callS (As := [.int (sp_stir (nI 40503) x), .int y]) (st := []) (st1 := [.int (sp_stir (sp_stir (nI 40503) x) y)]) d_P_mix_7 k_P_stir tw_379 tw_380 rfl (Nat.le_of_ble_eq_true rfl) rfl (Nat.le_of_ble_eq_true rfl) rfl rfl (c_P_stir l g _ sh M (sp_stir (nI 40503) x) y) rfl ?_
  exact ew_iret d_P_mix_10 rfl (⟨rfl, rfl, rfl⟩)
set_option maxRecDepth 100000 in
theorem c_Mo_mix (l : Launch) (g : ew_G) (d : Nat) (sh : List ew_S) (M : ew_M) (x y : Int32) :
    Ew l g d 0 0 m_Mo_mix 0 [.int x, .int y, .retAddr 0] [] sh M (ew_q (some (.int (sp_mix x y))) sh M) := by
  refine ew_ldc (v := 40503) d_Mo_mix_0 tw_758 ?_
  refine en_eq rfl (show _ = [.int (nI 40503)] from rfl) rfl ?_
  refine en_istore_n (ls' := [.int x, .int y, .int (nI 40503)]) d_Mo_mix_2 (Nat.le_of_ble_eq_true rfl) rfl ?_
  refine ew_iload_n d_Mo_mix_3 rfl ?_
  refine ew_iload_n d_Mo_mix_4 rfl ?_
  refine ew_ixor d_Mo_mix_5 ?_
  refine ew_ldc (v := 16777619) d_Mo_mix_6 tw_759 ?_
  refine en_eq rfl (show _ = [.int (nI 16777619), .int ((nI 40503) ^^^ x)] from rfl) rfl ?_
  refine ew_imul d_Mo_mix_8 ?_
  refine en_istore_n (ls' := [.int x, .int y, .int (((nI 40503) ^^^ x) * (nI 16777619))]) d_Mo_mix_9 (Nat.le_of_ble_eq_true rfl) rfl ?_
  refine ew_iload_n d_Mo_mix_10 rfl ?_
  refine ew_iload_n d_Mo_mix_11 rfl ?_
  refine ew_bipush (v := nI 15) d_Mo_mix_12 (by decide) ?_
  refine ew_iushr d_Mo_mix_14 ?_
  refine ew_ixor d_Mo_mix_15 ?_
  refine en_istore_n (ls' := [.int x, .int y, .int ((((nI 40503) ^^^ x) * (nI 16777619)) ^^^ (((((nI 40503) ^^^ x) * (nI 16777619)).toUInt32 >>> ((nI 15).toUInt32 &&& Int32.toUInt32 31)).toInt32))]) d_Mo_mix_16 (Nat.le_of_ble_eq_true rfl) rfl ?_
  refine ew_iload_n d_Mo_mix_17 rfl ?_
  refine ew_iload_n d_Mo_mix_18 rfl ?_
  refine ew_ixor d_Mo_mix_19 ?_
  refine ew_ldc (v := 16777619) d_Mo_mix_20 tw_759 ?_
  refine en_eq rfl (show _ = [.int (nI 16777619), .int (((((nI 40503) ^^^ x) * (nI 16777619)) ^^^ (((((nI 40503) ^^^ x) * (nI 16777619)).toUInt32 >>> ((nI 15).toUInt32 &&& Int32.toUInt32 31)).toInt32)) ^^^ y)] from rfl) rfl ?_
  refine ew_imul d_Mo_mix_22 ?_
  refine en_istore_n (ls' := [.int x, .int y, .int ((((((nI 40503) ^^^ x) * (nI 16777619)) ^^^ (((((nI 40503) ^^^ x) * (nI 16777619)).toUInt32 >>> ((nI 15).toUInt32 &&& Int32.toUInt32 31)).toInt32)) ^^^ y) * (nI 16777619))]) d_Mo_mix_23 (Nat.le_of_ble_eq_true rfl) rfl ?_
  refine ew_iload_n d_Mo_mix_24 rfl ?_
  refine ew_iload_n d_Mo_mix_25 rfl ?_
  refine ew_bipush (v := nI 15) d_Mo_mix_26 (by decide) ?_
  refine ew_iushr d_Mo_mix_28 ?_
  refine ew_ixor d_Mo_mix_29 ?_
  exact ew_iret d_Mo_mix_30 rfl (⟨rfl, rfl, rfl⟩)
set_option maxRecDepth 100000 in
theorem c_P_isColumn (l : Launch) (g : ew_G) (d : Nat) (sh : List ew_S) (M : ew_M) (x : Int32) :
    Ew l g d 0 0 m_P_isColumn 0 [.int x] [] sh M (ew_q (some (.int (ew_b (sp_in x 2)))) sh M) := by
  refine ew_iload_n d_P_isColumn_0 rfl ?_
  refine ew_if_lt (tgt := 13) d_P_isColumn_1 (by decide) (fun h1 => ?_) (fun h1 => ?_)
  · refine ew_iconst (v := nI 0) d_P_isColumn_13 (by decide) ?_
    exact ew_zret d_P_isColumn_14 rfl (by decide) (⟨by first | rw [sp_in_1 h1]; rfl | rw [sp_in_2 h6]; rfl, rfl, rfl⟩)
  · refine ew_iload_n d_P_isColumn_4 rfl ?_
    refine ew_iconst (v := nI 2) d_P_isColumn_5 (by decide) ?_
    refine ew_icmp_ge (tgt := 13) d_P_isColumn_6 (by decide) (fun h6 => ?_) (fun h6 => ?_)
    · refine ew_iconst (v := nI 0) d_P_isColumn_13 (by decide) ?_
      exact ew_zret d_P_isColumn_14 rfl (by decide) (⟨by first | rw [sp_in_1 h1]; rfl | rw [sp_in_2 h6]; rfl, rfl, rfl⟩)
    · refine ew_iconst (v := nI 1) d_P_isColumn_9 (by decide) ?_
      refine ew_goto (tgt := 14) d_P_isColumn_10 (by decide) ?_
      exact ew_zret d_P_isColumn_14 rfl (by decide) (⟨by rw [sp_in_t h1 h6]; rfl, rfl, rfl⟩)
set_option maxRecDepth 100000 in
theorem c_P_isLetter (l : Launch) (g : ew_G) (d : Nat) (sh : List ew_S) (M : ew_M) (x : Int32) :
    Ew l g d 0 0 m_P_isLetter 0 [.int x] [] sh M (ew_q (some (.int (ew_b (sp_in x 5)))) sh M) := by
  refine ew_iload_n d_P_isLetter_0 rfl ?_
  refine ew_if_lt (tgt := 13) d_P_isLetter_1 (by decide) (fun h1 => ?_) (fun h1 => ?_)
  · refine ew_iconst (v := nI 0) d_P_isLetter_13 (by decide) ?_
    exact ew_zret d_P_isLetter_14 rfl (by decide) (⟨by first | rw [sp_in_1 h1]; rfl | rw [sp_in_2 h6]; rfl, rfl, rfl⟩)
  · refine ew_iload_n d_P_isLetter_4 rfl ?_
    refine ew_iconst (v := nI 5) d_P_isLetter_5 (by decide) ?_
    refine ew_icmp_ge (tgt := 13) d_P_isLetter_6 (by decide) (fun h6 => ?_) (fun h6 => ?_)
    · refine ew_iconst (v := nI 0) d_P_isLetter_13 (by decide) ?_
      exact ew_zret d_P_isLetter_14 rfl (by decide) (⟨by first | rw [sp_in_1 h1]; rfl | rw [sp_in_2 h6]; rfl, rfl, rfl⟩)
    · refine ew_iconst (v := nI 1) d_P_isLetter_9 (by decide) ?_
      refine ew_goto (tgt := 14) d_P_isLetter_10 (by decide) ?_
      exact ew_zret d_P_isLetter_14 rfl (by decide) (⟨by rw [sp_in_t h1 h6]; rfl, rfl, rfl⟩)
theorem sp_col {x : Int32} (h1 : ¬ x = 0) (h2 : ¬ x = nI 1) : sp_in x 2 = false := by
  cases h : sp_in x 2 with
  | false => rfl
  | true =>
    obtain ⟨j, hj, rfl⟩ := sp_in_of (by decide) h
    rcases (show j = 0 ∨ j = 1 by omega) with rfl | rfl
    · exact absurd rfl h1
    · exact absurd rfl h2
set_option maxRecDepth 100000 in
theorem c_Mo_isColumn (l : Launch) (g : ew_G) (d : Nat) (sh : List ew_S) (M : ew_M) (x : Int32) :
    Ew l g d 0 0 m_Mo_isColumn 0 [.int x] [] sh M (ew_q (some (.int (ew_b (sp_in x 2)))) sh M) := by
  refine ew_iload_n d_Mo_isColumn_0 rfl ?_
  refine ew_if_eq (tgt := 9) d_Mo_isColumn_1 (by decide) (fun h1 => ?_) (fun h1 => ?_)
  · refine ew_iconst (v := nI 1) d_Mo_isColumn_9 (by decide) ?_
    refine ew_goto (tgt := 14) d_Mo_isColumn_10 (by decide) ?_
    exact ew_zret d_Mo_isColumn_14 rfl (by decide) (⟨by first | (rw [h1]; rfl) | (rw [h6]; rfl), rfl, rfl⟩)
  · refine ew_iload_n d_Mo_isColumn_4 rfl ?_
    refine ew_iconst (v := nI 1) d_Mo_isColumn_5 (by decide) ?_
    refine ew_icmp_ne (tgt := 13) d_Mo_isColumn_6 (by decide) (fun h6 => ?_) (fun h6 => ?_)
    · refine ew_iconst (v := nI 0) d_Mo_isColumn_13 (by decide) ?_
      exact ew_zret d_Mo_isColumn_14 rfl (by decide) (⟨by rw [show sp_in x 2 = false from sp_col h1 h6]; rfl, rfl, rfl⟩)
    · refine ew_iconst (v := nI 1) d_Mo_isColumn_9 (by decide) ?_
      refine ew_goto (tgt := 14) d_Mo_isColumn_10 (by decide) ?_
      exact ew_zret d_Mo_isColumn_14 rfl (by decide) (⟨by first | (rw [h1]; rfl) | (rw [h6]; rfl), rfl, rfl⟩)
end
section
def tb_rt (i : Nat) : Nat := (11 ^ 384 % 12289) ^ i % 12289
def tb_x (i : Nat) : Nat := 11 * tb_rt i % 12289
def tb_o0 (i : Nat) : Nat := tb_x i ^ 12287 % 12289
def tb_o1 (i : Nat) : Nat := ((tb_x i + 12289 - 1) % 12289) ^ 12287 % 12289
def tb_va (i : Nat) : Nat := (tb_x i ^ 8 % 12289 + 12289 - 1) % 12289
def tb_ll (i : Nat) : Nat := (tb_x i + 12289 - tb_rt 28) % 12289
def tb_cf (i : Nat) : Nat := tb_ll i * (tb_va i ^ 12287 % 12289) % 12289
def tb_kf (i : Nat) : Nat := tb_va i * (8 ^ 12287 % 12289) % 12289
def sp_tab (M : ew_M) : Prop := ∀ i : Nat, i < 32 → M 5 i = nI (tb_rt i) ∧ M 6 i = nI (tb_o0 i) ∧ M 7 i = nI (tb_o1 i) ∧ M 8 i = nI (tb_cf i) ∧ M 9 i = nI (tb_kf i)
def sp_rts (M : ew_M) : Prop := ∀ i : Nat, i < 32 → M 60 i = nI (tb_rt i)
def sp_bf (i r : Nat) : Nat := tb_rt (4 * ((8 - r) % 8)) * tb_o1 ((i + 32 - 4 * r) % 32) % 12289
def sp_its (f : Nat → Nat) (i : Nat) : Nat → Nat
  | 0 => 0
  | r + 1 => (sp_its f i r + f r * tb_o1 ((i + 32 - 4 * r) % 32) % 12289) % 12289
theorem tb_l_rt (i : Nat) : tb_rt i < 12289 := ep_lt _
theorem tb_l_x (i : Nat) : tb_x i < 12289 := ep_lt _
theorem tb_l_o0 (i : Nat) : tb_o0 i < 12289 := ep_lt _
theorem tb_l_o1 (i : Nat) : tb_o1 i < 12289 := ep_lt _
theorem tb_l_va (i : Nat) : tb_va i < 12289 := ep_lt _
theorem tb_l_ll (i : Nat) : tb_ll i < 12289 := ep_lt _
theorem tb_l_cf (i : Nat) : tb_cf i < 12289 := ep_lt _
theorem tb_l_kf (i : Nat) : tb_kf i < 12289 := ep_lt _
theorem sp_its_lt (f : Nat → Nat) (i : Nat) : ∀ r : Nat, sp_its f i r < 12289
  | 0 => Nat.zero_lt_succ _
  | r + 1 => ep_lt _
def sp_it (f : Nat → Nat) (i : Nat) : Nat := sp_its f i 8 * tb_kf i % 12289
def sp_fo (l i f g B : Nat) : Nat := (((f + g) % 12289 + B * (((f + 12289 - g) % 12289) * (tb_o0 i ^ l % 12289) % 12289) % 12289) % 12289) * 6145 % 12289
set_option maxRecDepth 100000 in
theorem c_Pt_rowsBefore (l : Launch) (g : ew_G) (d L : Nat) (M : ew_M) (i r : Nat) (hi : i < 32) (hr : r < 8) :
    Ew l g d 0 0 m_Pt_rowsBefore 0 [.int (nI i), .int (nI r)] [] (ew_SH L) M (ew_q (some (.int (nI ((i + 32 - 4 * r) % 32)))) (ew_SH L) M) := by
  refine ew_iload_n d_Pt_rowsBefore_0 rfl ?_
  refine ew_bipush (v := nI 32) d_Pt_rowsBefore_1 (by decide) ?_
  refine en_iadd d_Pt_rowsBefore_3 ?_
  refine ew_iconst (v := nI 4) d_Pt_rowsBefore_4 (by decide) ?_
  refine ew_iload_n d_Pt_rowsBefore_5 rfl ?_
  refine en_imul d_Pt_rowsBefore_6 ?_
  refine en_isub d_Pt_rowsBefore_7 (by first | with_reducible assumption | with_reducible exact ep_lt _ | with_reducible exact sp_its_lt _ _ _ | with_reducible exact tb_l_rt _ | with_reducible exact tb_l_x _ | with_reducible exact tb_l_o0 _ | with_reducible exact tb_l_o1 _ | with_reducible exact tb_l_va _ | with_reducible exact tb_l_ll _ | with_reducible exact tb_l_cf _ | with_reducible exact tb_l_kf _ | omega) ?_
  refine ew_bipush (v := nI 32) d_Pt_rowsBefore_8 (by decide) ?_
  refine en_irem d_Pt_rowsBefore_10 (by first | with_reducible assumption | with_reducible exact ep_lt _ | with_reducible exact sp_its_lt _ _ _ | with_reducible exact tb_l_rt _ | with_reducible exact tb_l_x _ | with_reducible exact tb_l_o0 _ | with_reducible exact tb_l_o1 _ | with_reducible exact tb_l_va _ | with_reducible exact tb_l_ll _ | with_reducible exact tb_l_cf _ | with_reducible exact tb_l_kf _ | omega) (by decide) (by decide) ?_
  exact ew_iret d_Pt_rowsBefore_11 rfl (⟨rfl, rfl, rfl⟩)
set_option maxRecDepth 100000 in
theorem c_Pt_rowBehind (l : Launch) (g : ew_G) (d L : Nat) (M : ew_M) (i : Nat) (hi : i < 32) :
    Ew l g d 0 0 m_Pt_rowBehind 0 [.int (nI i)] [] (ew_SH L) M (ew_q (some (.int (nI ((i + 4) % 32)))) (ew_SH L) M) := by
  refine ew_iload_n d_Pt_rowBehind_0 rfl ?_
  refine ew_iconst (v := nI 4) d_Pt_rowBehind_1 (by decide) ?_
  refine en_iadd d_Pt_rowBehind_2 ?_
  refine ew_bipush (v := nI 32) d_Pt_rowBehind_3 (by decide) ?_
  refine en_irem d_Pt_rowBehind_5 (by first | with_reducible assumption | with_reducible exact ep_lt _ | with_reducible exact sp_its_lt _ _ _ | with_reducible exact tb_l_rt _ | with_reducible exact tb_l_x _ | with_reducible exact tb_l_o0 _ | with_reducible exact tb_l_o1 _ | with_reducible exact tb_l_va _ | with_reducible exact tb_l_ll _ | with_reducible exact tb_l_cf _ | with_reducible exact tb_l_kf _ | omega) (by decide) (by decide) ?_
  exact ew_iret d_Pt_rowBehind_6 rfl (⟨rfl, rfl, rfl⟩)
set_option maxRecDepth 100000 in
theorem c_Pt_rowPoint (l : Launch) (g : ew_G) (d L : Nat) (M : ew_M) (hT : sp_tab M) (r : Nat) (hr : r < 8) :
    Ew l g d 0 0 m_Pt_rowPoint 0 [.ref 4, .int (nI r)] [] (ew_SH L) M (ew_q (some (.int (nI (tb_rt (4 * r))))) (ew_SH L) M) := by
  refine ew_aload_n d_Pt_rowPoint_0 rfl ?_
  refine ew_getr (ci := 1) (f := 0) d_Pt_rowPoint_1 rfl rfl rfl tw_44 ?_
  refine ew_iconst (v := nI 4) d_Pt_rowPoint_4 (by decide) ?_
  refine ew_iload_n d_Pt_rowPoint_5 rfl ?_
  refine en_imul d_Pt_rowPoint_6 ?_
  refine ew_iald (j := 4 * r) d_Pt_rowPoint_7 rfl (rfl) (by first | with_reducible assumption | with_reducible exact ep_lt _ | with_reducible exact sp_its_lt _ _ _ | with_reducible exact tb_l_rt _ | with_reducible exact tb_l_x _ | with_reducible exact tb_l_o0 _ | with_reducible exact tb_l_o1 _ | with_reducible exact tb_l_va _ | with_reducible exact tb_l_ll _ | with_reducible exact tb_l_cf _ | with_reducible exact tb_l_kf _ | omega) (by decide) ?_
  refine en_eq (st' := [.int (nI (tb_rt (4 * r)))]) rfl (by rw [show (M 5 (4 * r)) = (nI (tb_rt (4 * r))) from (hT _ (by first | with_reducible assumption | with_reducible exact ep_lt _ | with_reducible exact sp_its_lt _ _ _ | with_reducible exact tb_l_rt _ | with_reducible exact tb_l_x _ | with_reducible exact tb_l_o0 _ | with_reducible exact tb_l_o1 _ | with_reducible exact tb_l_va _ | with_reducible exact tb_l_ll _ | with_reducible exact tb_l_cf _ | with_reducible exact tb_l_kf _ | omega)).1]) rfl ?_
  exact ew_iret d_Pt_rowPoint_8 rfl (⟨rfl, rfl, rfl⟩)
set_option maxRecDepth 100000 in
theorem c_Pt_constraintFactor (l : Launch) (g : ew_G) (d L : Nat) (M : ew_M) (hT : sp_tab M) (i : Nat) (hi : i < 32) :
    Ew l g d 0 0 m_Pt_constraintFactor 0 [.ref 4, .int (nI i)] [] (ew_SH L) M (ew_q (some (.int (nI (tb_cf i)))) (ew_SH L) M) := by
  refine ew_aload_n d_Pt_constraintFactor_0 rfl ?_
  refine ew_getr (ci := 1) (f := 3) d_Pt_constraintFactor_1 rfl rfl rfl tw_47 ?_
  refine ew_iload_n d_Pt_constraintFactor_4 rfl ?_
  refine ew_iald (j := i) d_Pt_constraintFactor_5 rfl (rfl) (by first | with_reducible assumption | with_reducible exact ep_lt _ | with_reducible exact sp_its_lt _ _ _ | with_reducible exact tb_l_rt _ | with_reducible exact tb_l_x _ | with_reducible exact tb_l_o0 _ | with_reducible exact tb_l_o1 _ | with_reducible exact tb_l_va _ | with_reducible exact tb_l_ll _ | with_reducible exact tb_l_cf _ | with_reducible exact tb_l_kf _ | omega) (by decide) ?_
  refine en_eq (st' := [.int (nI (tb_cf i))]) rfl (by rw [show (M 8 i) = (nI (tb_cf i)) from (hT _ (by first | with_reducible assumption | with_reducible exact ep_lt _ | with_reducible exact sp_its_lt _ _ _ | with_reducible exact tb_l_rt _ | with_reducible exact tb_l_x _ | with_reducible exact tb_l_o0 _ | with_reducible exact tb_l_o1 _ | with_reducible exact tb_l_va _ | with_reducible exact tb_l_ll _ | with_reducible exact tb_l_cf _ | with_reducible exact tb_l_kf _ | omega)).2.2.2.1]) rfl ?_
  exact ew_iret d_Pt_constraintFactor_6 rfl (⟨rfl, rfl, rfl⟩)
set_option maxRecDepth 100000 in
theorem c_Pt_boundFactor (l : Launch) (g : ew_G) (d L : Nat) (M : ew_M) (hT : sp_tab M) (i r : Nat) (hi : i < 32) (hr : r < 8) :
    Ew l g (d + 1) 0 0 m_Pt_boundFactor 0 [.ref 4, .int (nI i), .int (nI r), .retAddr 0] [] (ew_SH L) M (ew_q (some (.int (nI (sp_bf i r)))) (ew_SH L) M) := by
  refine ew_aload_n d_Pt_boundFactor_0 rfl ?_
  refine ew_bipush (v := nI 8) d_Pt_boundFactor_1 (by decide) ?_
  refine ew_iload_n d_Pt_boundFactor_3 rfl ?_
  refine en_isub d_Pt_boundFactor_4 (by first | with_reducible assumption | with_reducible exact ep_lt _ | with_reducible exact sp_its_lt _ _ _ | with_reducible exact tb_l_rt _ | with_reducible exact tb_l_x _ | with_reducible exact tb_l_o0 _ | with_reducible exact tb_l_o1 _ | with_reducible exact tb_l_va _ | with_reducible exact tb_l_ll _ | with_reducible exact tb_l_cf _ | with_reducible exact tb_l_kf _ | omega) ?_
  refine ew_bipush (v := nI 8) d_Pt_boundFactor_5 (by decide) ?_
  refine en_irem d_Pt_boundFactor_7 (by first | with_reducible assumption | with_reducible exact ep_lt _ | with_reducible exact sp_its_lt _ _ _ | with_reducible exact tb_l_rt _ | with_reducible exact tb_l_x _ | with_reducible exact tb_l_o0 _ | with_reducible exact tb_l_o1 _ | with_reducible exact tb_l_va _ | with_reducible exact tb_l_ll _ | with_reducible exact tb_l_cf _ | with_reducible exact tb_l_kf _ | omega) (by decide) (by decide) ?_
  refine en_callV (As := [.int (nI ((8 - r) % 8))]) (i := 4) (ci := 1) (st := []) (st1 := [.int (nI (tb_rt (4 * ((8 - r) % 8))))]) d_Pt_boundFactor_8 k_Pt_rowPoint rfl rfl tw_40 tw_42 tp_0 rfl (Nat.le_of_ble_eq_true rfl) rfl (Nat.le_of_ble_eq_true rfl) rfl rfl (c_Pt_rowPoint l g _ L M (hT) ((8 - r) % 8) (by first | with_reducible assumption | with_reducible exact ep_lt _ | with_reducible exact sp_its_lt _ _ _ | with_reducible exact tb_l_rt _ | with_reducible exact tb_l_x _ | with_reducible exact tb_l_o0 _ | with_reducible exact tb_l_o1 _ | with_reducible exact tb_l_va _ | with_reducible exact tb_l_ll _ | with_reducible exact tb_l_cf _ | with_reducible exact tb_l_kf _ | omega)) rfl ?_
  refine en_istore_n (ls' := [.ref 4, .int (nI i), .int (nI r), .int (nI (tb_rt (4 * ((8 - r) % 8))))]) d_Pt_boundFactor_11 (Nat.le_of_ble_eq_true rfl) rfl ?_
  refine ew_iload_n d_Pt_boundFactor_12 rfl ?_
  refine ew_aload_n d_Pt_boundFactor_13 rfl ?_
  refine ew_getr (ci := 1) (f := 2) d_Pt_boundFactor_14 rfl rfl rfl tw_46 ?_
  refine ew_iload_n d_Pt_boundFactor_17 rfl ?_
  refine ew_iload_n d_Pt_boundFactor_18 rfl ?_
  refine en_callS (As := [.int (nI i), .int (nI r)]) (st := [.ref 7, .int (nI (tb_rt (4 * ((8 - r) % 8))))]) (st1 := [.int (nI ((i + 32 - 4 * r) % 32)), .ref 7, .int (nI (tb_rt (4 * ((8 - r) % 8))))]) d_Pt_boundFactor_19 k_Pt_rowsBefore tw_305 tw_306 rfl (Nat.le_of_ble_eq_true rfl) rfl (Nat.le_of_ble_eq_true rfl) rfl rfl (c_Pt_rowsBefore l g _ L M i r (by first | with_reducible assumption | with_reducible exact ep_lt _ | with_reducible exact sp_its_lt _ _ _ | with_reducible exact tb_l_rt _ | with_reducible exact tb_l_x _ | with_reducible exact tb_l_o0 _ | with_reducible exact tb_l_o1 _ | with_reducible exact tb_l_va _ | with_reducible exact tb_l_ll _ | with_reducible exact tb_l_cf _ | with_reducible exact tb_l_kf _ | omega) (by first | with_reducible assumption | with_reducible exact ep_lt _ | with_reducible exact sp_its_lt _ _ _ | with_reducible exact tb_l_rt _ | with_reducible exact tb_l_x _ | with_reducible exact tb_l_o0 _ | with_reducible exact tb_l_o1 _ | with_reducible exact tb_l_va _ | with_reducible exact tb_l_ll _ | with_reducible exact tb_l_cf _ | with_reducible exact tb_l_kf _ | omega)) rfl ?_
  refine ew_iald (j := (i + 32 - 4 * r) % 32) d_Pt_boundFactor_22 rfl (rfl) (by first | with_reducible assumption | with_reducible exact ep_lt _ | with_reducible exact sp_its_lt _ _ _ | with_reducible exact tb_l_rt _ | with_reducible exact tb_l_x _ | with_reducible exact tb_l_o0 _ | with_reducible exact tb_l_o1 _ | with_reducible exact tb_l_va _ | with_reducible exact tb_l_ll _ | with_reducible exact tb_l_cf _ | with_reducible exact tb_l_kf _ | omega) (by decide) ?_
  refine en_eq (st' := [.int (nI (tb_o1 ((i + 32 - 4 * r) % 32))), .int (nI (tb_rt (4 * ((8 - r) % 8))))]) rfl (by rw [show (M 7 ((i + 32 - 4 * r) % 32)) = (nI (tb_o1 ((i + 32 - 4 * r) % 32))) from (hT _ (by first | with_reducible assumption | with_reducible exact ep_lt _ | with_reducible exact sp_its_lt _ _ _ | with_reducible exact tb_l_rt _ | with_reducible exact tb_l_x _ | with_reducible exact tb_l_o0 _ | with_reducible exact tb_l_o1 _ | with_reducible exact tb_l_va _ | with_reducible exact tb_l_ll _ | with_reducible exact tb_l_cf _ | with_reducible exact tb_l_kf _ | omega)).2.2.1]) rfl ?_
  refine en_callS (As := [.int (nI (tb_rt (4 * ((8 - r) % 8)))), .int (nI (tb_o1 ((i + 32 - 4 * r) % 32)))]) (st := []) (st1 := [.int (nI ((tb_rt (4 * ((8 - r) % 8))) * (tb_o1 ((i + 32 - 4 * r) % 32)) % 12289))]) d_Pt_boundFactor_23 k_Fi_times tw_32 tw_30 rfl (Nat.le_of_ble_eq_true rfl) rfl (Nat.le_of_ble_eq_true rfl) rfl rfl (c_Fi_times l g _ (ew_SH L) M (tb_rt (4 * ((8 - r) % 8))) (tb_o1 ((i + 32 - 4 * r) % 32)) (by first | with_reducible assumption | with_reducible exact ep_lt _ | with_reducible exact sp_its_lt _ _ _ | with_reducible exact tb_l_rt _ | with_reducible exact tb_l_x _ | with_reducible exact tb_l_o0 _ | with_reducible exact tb_l_o1 _ | with_reducible exact tb_l_va _ | with_reducible exact tb_l_ll _ | with_reducible exact tb_l_cf _ | with_reducible exact tb_l_kf _ | omega) (by first | with_reducible assumption | with_reducible exact ep_lt _ | with_reducible exact sp_its_lt _ _ _ | with_reducible exact tb_l_rt _ | with_reducible exact tb_l_x _ | with_reducible exact tb_l_o0 _ | with_reducible exact tb_l_o1 _ | with_reducible exact tb_l_va _ | with_reducible exact tb_l_ll _ | with_reducible exact tb_l_cf _ | with_reducible exact tb_l_kf _ | omega)) rfl ?_
  exact ew_iret d_Pt_boundFactor_26 rfl (⟨rfl, rfl, rfl⟩)
set_option maxRecDepth 100000 in
theorem lp_Pt_interpolate19 (l : Launch) (g : ew_G) (d L : Nat) (M : ew_M) (hT : sp_tab M) (f : Nat → Nat) (hf : ∀ r, r < 8 → M 19 r = nI (f r) ∧ f r < 12289) (i : Nat) (hi : i < 32) : ∀ (n r : Nat), 8 - r < n → r ≤ 8 → Ew l g (d + 1) 0 0 m_Pt_interpolate 5 [.ref 4, .ref 19, .int (nI i), .int (nI (sp_its f i r)), .int (nI r)] [] (ew_SH L) M (ew_q (some (.int (nI (sp_it f i)))) (ew_SH L) M) := by
  intro n
  induction n with
  | zero =>
    intro r  hn
    exact absurd hn (Nat.not_lt_zero _)
  | succ n ih =>
    intro r  hn hle
    refine ew_iload d_Pt_interpolate_5 rfl ?_
    refine ew_bipush (v := nI 8) d_Pt_interpolate_7 (by decide) ?_
    refine en_icmp_ge (tgt := 41) d_Pt_interpolate_9 (by decide) (by first | with_reducible assumption | with_reducible exact ep_lt _ | with_reducible exact sp_its_lt _ _ _ | with_reducible exact tb_l_rt _ | with_reducible exact tb_l_x _ | with_reducible exact tb_l_o0 _ | with_reducible exact tb_l_o1 _ | with_reducible exact tb_l_va _ | with_reducible exact tb_l_ll _ | with_reducible exact tb_l_cf _ | with_reducible exact tb_l_kf _ | omega) (by first | with_reducible assumption | with_reducible exact ep_lt _ | with_reducible exact sp_its_lt _ _ _ | with_reducible exact tb_l_rt _ | with_reducible exact tb_l_x _ | with_reducible exact tb_l_o0 _ | with_reducible exact tb_l_o1 _ | with_reducible exact tb_l_va _ | with_reducible exact tb_l_ll _ | with_reducible exact tb_l_cf _ | with_reducible exact tb_l_kf _ | omega) (fun h9 => ?_) (fun h9 => ?_)
    · obtain rfl : r = 8 := by omega
      refine ew_iload_n d_Pt_interpolate_41 rfl ?_
      refine ew_aload_n d_Pt_interpolate_42 rfl ?_
      refine ew_getr (ci := 1) (f := 4) d_Pt_interpolate_43 rfl rfl rfl tw_48 ?_
      refine ew_iload_n d_Pt_interpolate_46 rfl ?_
      refine ew_iald (j := i) d_Pt_interpolate_47 rfl (rfl) (by first | with_reducible assumption | with_reducible exact ep_lt _ | with_reducible exact sp_its_lt _ _ _ | with_reducible exact tb_l_rt _ | with_reducible exact tb_l_x _ | with_reducible exact tb_l_o0 _ | with_reducible exact tb_l_o1 _ | with_reducible exact tb_l_va _ | with_reducible exact tb_l_ll _ | with_reducible exact tb_l_cf _ | with_reducible exact tb_l_kf _ | omega) (by decide) ?_
      refine en_eq (st' := [.int (nI (tb_kf i)), .int (nI (sp_its f i 8))]) rfl (by rw [show (M 9 i) = (nI (tb_kf i)) from (hT _ (by first | with_reducible assumption | with_reducible exact ep_lt _ | with_reducible exact sp_its_lt _ _ _ | with_reducible exact tb_l_rt _ | with_reducible exact tb_l_x _ | with_reducible exact tb_l_o0 _ | with_reducible exact tb_l_o1 _ | with_reducible exact tb_l_va _ | with_reducible exact tb_l_ll _ | with_reducible exact tb_l_cf _ | with_reducible exact tb_l_kf _ | omega)).2.2.2.2]) rfl ?_
      refine en_callS (As := [.int (nI (sp_its f i 8)), .int (nI (tb_kf i))]) (st := []) (st1 := [.int (nI ((sp_its f i 8) * (tb_kf i) % 12289))]) d_Pt_interpolate_48 k_Fi_times tw_32 tw_30 rfl (Nat.le_of_ble_eq_true rfl) rfl (Nat.le_of_ble_eq_true rfl) rfl rfl (c_Fi_times l g _ (ew_SH L) M (sp_its f i 8) (tb_kf i) (by first | with_reducible assumption | with_reducible exact ep_lt _ | with_reducible exact sp_its_lt _ _ _ | with_reducible exact tb_l_rt _ | with_reducible exact tb_l_x _ | with_reducible exact tb_l_o0 _ | with_reducible exact tb_l_o1 _ | with_reducible exact tb_l_va _ | with_reducible exact tb_l_ll _ | with_reducible exact tb_l_cf _ | with_reducible exact tb_l_kf _ | omega) (by first | with_reducible assumption | with_reducible exact ep_lt _ | with_reducible exact sp_its_lt _ _ _ | with_reducible exact tb_l_rt _ | with_reducible exact tb_l_x _ | with_reducible exact tb_l_o0 _ | with_reducible exact tb_l_o1 _ | with_reducible exact tb_l_va _ | with_reducible exact tb_l_ll _ | with_reducible exact tb_l_cf _ | with_reducible exact tb_l_kf _ | omega)) rfl ?_
      exact ew_iret d_Pt_interpolate_51 rfl (⟨rfl, rfl, rfl⟩)
    · refine ew_iload_n d_Pt_interpolate_12 rfl ?_
      refine ew_aload_n d_Pt_interpolate_13 rfl ?_
      refine ew_iload d_Pt_interpolate_14 rfl ?_
      refine ew_iald (j := r) d_Pt_interpolate_16 rfl (rfl) (by first | with_reducible assumption | with_reducible exact ep_lt _ | with_reducible exact sp_its_lt _ _ _ | with_reducible exact tb_l_rt _ | with_reducible exact tb_l_x _ | with_reducible exact tb_l_o0 _ | with_reducible exact tb_l_o1 _ | with_reducible exact tb_l_va _ | with_reducible exact tb_l_ll _ | with_reducible exact tb_l_cf _ | with_reducible exact tb_l_kf _ | omega) (by decide) ?_
      refine en_eq (st' := [.int (nI (f r)), .int (nI (sp_its f i r))]) rfl (by rw [show (M 19 r) = (nI (f r)) from (hf _ (by first | with_reducible assumption | with_reducible exact ep_lt _ | with_reducible exact sp_its_lt _ _ _ | with_reducible exact tb_l_rt _ | with_reducible exact tb_l_x _ | with_reducible exact tb_l_o0 _ | with_reducible exact tb_l_o1 _ | with_reducible exact tb_l_va _ | with_reducible exact tb_l_ll _ | with_reducible exact tb_l_cf _ | with_reducible exact tb_l_kf _ | omega)).1]) rfl ?_
      refine ew_aload_n d_Pt_interpolate_17 rfl ?_
      refine ew_getr (ci := 1) (f := 2) d_Pt_interpolate_18 rfl rfl rfl tw_46 ?_
      refine ew_iload_n d_Pt_interpolate_21 rfl ?_
      refine ew_iload d_Pt_interpolate_22 rfl ?_
      refine en_callS (As := [.int (nI i), .int (nI r)]) (st := [.ref 7, .int (nI (f r)), .int (nI (sp_its f i r))]) (st1 := [.int (nI ((i + 32 - 4 * r) % 32)), .ref 7, .int (nI (f r)), .int (nI (sp_its f i r))]) d_Pt_interpolate_24 k_Pt_rowsBefore tw_305 tw_306 rfl (Nat.le_of_ble_eq_true rfl) rfl (Nat.le_of_ble_eq_true rfl) rfl rfl (c_Pt_rowsBefore l g _ L M i r (by first | with_reducible assumption | with_reducible exact ep_lt _ | with_reducible exact sp_its_lt _ _ _ | with_reducible exact tb_l_rt _ | with_reducible exact tb_l_x _ | with_reducible exact tb_l_o0 _ | with_reducible exact tb_l_o1 _ | with_reducible exact tb_l_va _ | with_reducible exact tb_l_ll _ | with_reducible exact tb_l_cf _ | with_reducible exact tb_l_kf _ | omega) (by first | with_reducible assumption | with_reducible exact ep_lt _ | with_reducible exact sp_its_lt _ _ _ | with_reducible exact tb_l_rt _ | with_reducible exact tb_l_x _ | with_reducible exact tb_l_o0 _ | with_reducible exact tb_l_o1 _ | with_reducible exact tb_l_va _ | with_reducible exact tb_l_ll _ | with_reducible exact tb_l_cf _ | with_reducible exact tb_l_kf _ | omega)) rfl ?_
      refine ew_iald (j := (i + 32 - 4 * r) % 32) d_Pt_interpolate_27 rfl (rfl) (by first | with_reducible assumption | with_reducible exact ep_lt _ | with_reducible exact sp_its_lt _ _ _ | with_reducible exact tb_l_rt _ | with_reducible exact tb_l_x _ | with_reducible exact tb_l_o0 _ | with_reducible exact tb_l_o1 _ | with_reducible exact tb_l_va _ | with_reducible exact tb_l_ll _ | with_reducible exact tb_l_cf _ | with_reducible exact tb_l_kf _ | omega) (by decide) ?_
      refine en_eq (st' := [.int (nI (tb_o1 ((i + 32 - 4 * r) % 32))), .int (nI (f r)), .int (nI (sp_its f i r))]) rfl (by rw [show (M 7 ((i + 32 - 4 * r) % 32)) = (nI (tb_o1 ((i + 32 - 4 * r) % 32))) from (hT _ (by first | with_reducible assumption | with_reducible exact ep_lt _ | with_reducible exact sp_its_lt _ _ _ | with_reducible exact tb_l_rt _ | with_reducible exact tb_l_x _ | with_reducible exact tb_l_o0 _ | with_reducible exact tb_l_o1 _ | with_reducible exact tb_l_va _ | with_reducible exact tb_l_ll _ | with_reducible exact tb_l_cf _ | with_reducible exact tb_l_kf _ | omega)).2.2.1]) rfl ?_
      refine en_callS (As := [.int (nI (f r)), .int (nI (tb_o1 ((i + 32 - 4 * r) % 32)))]) (st := [.int (nI (sp_its f i r))]) (st1 := [.int (nI ((f r) * (tb_o1 ((i + 32 - 4 * r) % 32)) % 12289)), .int (nI (sp_its f i r))]) d_Pt_interpolate_28 k_Fi_times tw_32 tw_30 rfl (Nat.le_of_ble_eq_true rfl) rfl (Nat.le_of_ble_eq_true rfl) rfl rfl (c_Fi_times l g _ (ew_SH L) M (f r) (tb_o1 ((i + 32 - 4 * r) % 32)) (by first | with_reducible exact ep_lt _ | with_reducible exact tb_l_o1 _ | exact (hf _ (by omega)).2) (by first | with_reducible exact ep_lt _ | with_reducible exact tb_l_o1 _ | exact (hf _ (by omega)).2)) rfl ?_
      refine en_callS (As := [.int (nI (sp_its f i r)), .int (nI ((f r) * (tb_o1 ((i + 32 - 4 * r) % 32)) % 12289))]) (st := []) (st1 := [.int (nI (((sp_its f i r) + ((f r) * (tb_o1 ((i + 32 - 4 * r) % 32)) % 12289)) % 12289))]) d_Pt_interpolate_31 k_Fi_plus tw_308 tw_309 rfl (Nat.le_of_ble_eq_true rfl) rfl (Nat.le_of_ble_eq_true rfl) rfl rfl (c_Fi_plus l g _ (ew_SH L) M (sp_its f i r) ((f r) * (tb_o1 ((i + 32 - 4 * r) % 32)) % 12289) (by first | with_reducible assumption | with_reducible exact ep_lt _ | with_reducible exact sp_its_lt _ _ _ | with_reducible exact tb_l_rt _ | with_reducible exact tb_l_x _ | with_reducible exact tb_l_o0 _ | with_reducible exact tb_l_o1 _ | with_reducible exact tb_l_va _ | with_reducible exact tb_l_ll _ | with_reducible exact tb_l_cf _ | with_reducible exact tb_l_kf _ | omega) (by first | with_reducible assumption | with_reducible exact ep_lt _ | with_reducible exact sp_its_lt _ _ _ | with_reducible exact tb_l_rt _ | with_reducible exact tb_l_x _ | with_reducible exact tb_l_o0 _ | with_reducible exact tb_l_o1 _ | with_reducible exact tb_l_va _ | with_reducible exact tb_l_ll _ | with_reducible exact tb_l_cf _ | with_reducible exact tb_l_kf _ | omega)) rfl ?_
      refine en_istore_n (ls' := [.ref 4, .ref 19, .int (nI i), .int (nI (((sp_its f i r) + ((f r) * (tb_o1 ((i + 32 - 4 * r) % 32)) % 12289)) % 12289)), .int (nI r)]) d_Pt_interpolate_34 (Nat.le_of_ble_eq_true rfl) rfl ?_
      refine en_inc (ls' := [.ref 4, .ref 19, .int (nI i), .int (nI (((sp_its f i r) + ((f r) * (tb_o1 ((i + 32 - 4 * r) % 32)) % 12289)) % 12289)), .int (nI (r + 1))]) d_Pt_interpolate_35 rfl rfl ?_
      refine ew_goto (tgt := 5) d_Pt_interpolate_38 (by decide) ?_
      exact ih (r + 1) (by omega) (by omega)
set_option maxRecDepth 100000 in
theorem c_Pt_interpolate19 (l : Launch) (g : ew_G) (d L : Nat) (M : ew_M) (hT : sp_tab M) (f : Nat → Nat) (hf : ∀ r, r < 8 → M 19 r = nI (f r) ∧ f r < 12289) (i : Nat) (hi : i < 32) :
    Ew l g (d + 1) 0 0 m_Pt_interpolate 0 [.ref 4, .ref 19, .int (nI i), .retAddr 0, .retAddr 0] [] (ew_SH L) M (ew_q (some (.int (nI (sp_it f i)))) (ew_SH L) M) := by
  refine ew_iconst (v := nI 0) d_Pt_interpolate_0 (by decide) ?_
  refine en_istore_n (ls' := [.ref 4, .ref 19, .int (nI i), .int (nI 0), .retAddr 0]) d_Pt_interpolate_1 (Nat.le_of_ble_eq_true rfl) rfl ?_
  refine ew_iconst (v := nI 0) d_Pt_interpolate_2 (by decide) ?_
  refine en_istore (ls' := [.ref 4, .ref 19, .int (nI i), .int (nI 0), .int (nI 0)]) d_Pt_interpolate_3 (Nat.le_of_ble_eq_true rfl) rfl ?_
  exact lp_Pt_interpolate19 l g d L M hT f hf i hi 9 0 (by omega) (by omega)
set_option maxRecDepth 100000 in
theorem lp_Pt_interpolate20 (l : Launch) (g : ew_G) (d L : Nat) (M : ew_M) (hT : sp_tab M) (f : Nat → Nat) (hf : ∀ r, r < 8 → M 20 r = nI (f r) ∧ f r < 12289) (i : Nat) (hi : i < 32) : ∀ (n r : Nat), 8 - r < n → r ≤ 8 → Ew l g (d + 1) 0 0 m_Pt_interpolate 5 [.ref 4, .ref 20, .int (nI i), .int (nI (sp_its f i r)), .int (nI r)] [] (ew_SH L) M (ew_q (some (.int (nI (sp_it f i)))) (ew_SH L) M) := by
  intro n
  induction n with
  | zero =>
    intro r  hn
    exact absurd hn (Nat.not_lt_zero _)
  | succ n ih =>
    intro r  hn hle
    refine ew_iload d_Pt_interpolate_5 rfl ?_
    refine ew_bipush (v := nI 8) d_Pt_interpolate_7 (by decide) ?_
    refine en_icmp_ge (tgt := 41) d_Pt_interpolate_9 (by decide) (by first | with_reducible assumption | with_reducible exact ep_lt _ | with_reducible exact sp_its_lt _ _ _ | with_reducible exact tb_l_rt _ | with_reducible exact tb_l_x _ | with_reducible exact tb_l_o0 _ | with_reducible exact tb_l_o1 _ | with_reducible exact tb_l_va _ | with_reducible exact tb_l_ll _ | with_reducible exact tb_l_cf _ | with_reducible exact tb_l_kf _ | omega) (by first | with_reducible assumption | with_reducible exact ep_lt _ | with_reducible exact sp_its_lt _ _ _ | with_reducible exact tb_l_rt _ | with_reducible exact tb_l_x _ | with_reducible exact tb_l_o0 _ | with_reducible exact tb_l_o1 _ | with_reducible exact tb_l_va _ | with_reducible exact tb_l_ll _ | with_reducible exact tb_l_cf _ | with_reducible exact tb_l_kf _ | omega) (fun h9 => ?_) (fun h9 => ?_)
    · obtain rfl : r = 8 := by omega
      refine ew_iload_n d_Pt_interpolate_41 rfl ?_
      refine ew_aload_n d_Pt_interpolate_42 rfl ?_
      refine ew_getr (ci := 1) (f := 4) d_Pt_interpolate_43 rfl rfl rfl tw_48 ?_
      refine ew_iload_n d_Pt_interpolate_46 rfl ?_
      refine ew_iald (j := i) d_Pt_interpolate_47 rfl (rfl) (by first | with_reducible assumption | with_reducible exact ep_lt _ | with_reducible exact sp_its_lt _ _ _ | with_reducible exact tb_l_rt _ | with_reducible exact tb_l_x _ | with_reducible exact tb_l_o0 _ | with_reducible exact tb_l_o1 _ | with_reducible exact tb_l_va _ | with_reducible exact tb_l_ll _ | with_reducible exact tb_l_cf _ | with_reducible exact tb_l_kf _ | omega) (by decide) ?_
      refine en_eq (st' := [.int (nI (tb_kf i)), .int (nI (sp_its f i 8))]) rfl (by rw [show (M 9 i) = (nI (tb_kf i)) from (hT _ (by first | with_reducible assumption | with_reducible exact ep_lt _ | with_reducible exact sp_its_lt _ _ _ | with_reducible exact tb_l_rt _ | with_reducible exact tb_l_x _ | with_reducible exact tb_l_o0 _ | with_reducible exact tb_l_o1 _ | with_reducible exact tb_l_va _ | with_reducible exact tb_l_ll _ | with_reducible exact tb_l_cf _ | with_reducible exact tb_l_kf _ | omega)).2.2.2.2]) rfl ?_
      refine en_callS (As := [.int (nI (sp_its f i 8)), .int (nI (tb_kf i))]) (st := []) (st1 := [.int (nI ((sp_its f i 8) * (tb_kf i) % 12289))]) d_Pt_interpolate_48 k_Fi_times tw_32 tw_30 rfl (Nat.le_of_ble_eq_true rfl) rfl (Nat.le_of_ble_eq_true rfl) rfl rfl (c_Fi_times l g _ (ew_SH L) M (sp_its f i 8) (tb_kf i) (by first | with_reducible assumption | with_reducible exact ep_lt _ | with_reducible exact sp_its_lt _ _ _ | with_reducible exact tb_l_rt _ | with_reducible exact tb_l_x _ | with_reducible exact tb_l_o0 _ | with_reducible exact tb_l_o1 _ | with_reducible exact tb_l_va _ | with_reducible exact tb_l_ll _ | with_reducible exact tb_l_cf _ | with_reducible exact tb_l_kf _ | omega) (by first | with_reducible assumption | with_reducible exact ep_lt _ | with_reducible exact sp_its_lt _ _ _ | with_reducible exact tb_l_rt _ | with_reducible exact tb_l_x _ | with_reducible exact tb_l_o0 _ | with_reducible exact tb_l_o1 _ | with_reducible exact tb_l_va _ | with_reducible exact tb_l_ll _ | with_reducible exact tb_l_cf _ | with_reducible exact tb_l_kf _ | omega)) rfl ?_
      exact ew_iret d_Pt_interpolate_51 rfl (⟨rfl, rfl, rfl⟩)
    · refine ew_iload_n d_Pt_interpolate_12 rfl ?_
      refine ew_aload_n d_Pt_interpolate_13 rfl ?_
      refine ew_iload d_Pt_interpolate_14 rfl ?_
      refine ew_iald (j := r) d_Pt_interpolate_16 rfl (rfl) (by first | with_reducible assumption | with_reducible exact ep_lt _ | with_reducible exact sp_its_lt _ _ _ | with_reducible exact tb_l_rt _ | with_reducible exact tb_l_x _ | with_reducible exact tb_l_o0 _ | with_reducible exact tb_l_o1 _ | with_reducible exact tb_l_va _ | with_reducible exact tb_l_ll _ | with_reducible exact tb_l_cf _ | with_reducible exact tb_l_kf _ | omega) (by decide) ?_
      refine en_eq (st' := [.int (nI (f r)), .int (nI (sp_its f i r))]) rfl (by rw [show (M 20 r) = (nI (f r)) from (hf _ (by first | with_reducible assumption | with_reducible exact ep_lt _ | with_reducible exact sp_its_lt _ _ _ | with_reducible exact tb_l_rt _ | with_reducible exact tb_l_x _ | with_reducible exact tb_l_o0 _ | with_reducible exact tb_l_o1 _ | with_reducible exact tb_l_va _ | with_reducible exact tb_l_ll _ | with_reducible exact tb_l_cf _ | with_reducible exact tb_l_kf _ | omega)).1]) rfl ?_
      refine ew_aload_n d_Pt_interpolate_17 rfl ?_
      refine ew_getr (ci := 1) (f := 2) d_Pt_interpolate_18 rfl rfl rfl tw_46 ?_
      refine ew_iload_n d_Pt_interpolate_21 rfl ?_
      refine ew_iload d_Pt_interpolate_22 rfl ?_
      refine en_callS (As := [.int (nI i), .int (nI r)]) (st := [.ref 7, .int (nI (f r)), .int (nI (sp_its f i r))]) (st1 := [.int (nI ((i + 32 - 4 * r) % 32)), .ref 7, .int (nI (f r)), .int (nI (sp_its f i r))]) d_Pt_interpolate_24 k_Pt_rowsBefore tw_305 tw_306 rfl (Nat.le_of_ble_eq_true rfl) rfl (Nat.le_of_ble_eq_true rfl) rfl rfl (c_Pt_rowsBefore l g _ L M i r (by first | with_reducible assumption | with_reducible exact ep_lt _ | with_reducible exact sp_its_lt _ _ _ | with_reducible exact tb_l_rt _ | with_reducible exact tb_l_x _ | with_reducible exact tb_l_o0 _ | with_reducible exact tb_l_o1 _ | with_reducible exact tb_l_va _ | with_reducible exact tb_l_ll _ | with_reducible exact tb_l_cf _ | with_reducible exact tb_l_kf _ | omega) (by first | with_reducible assumption | with_reducible exact ep_lt _ | with_reducible exact sp_its_lt _ _ _ | with_reducible exact tb_l_rt _ | with_reducible exact tb_l_x _ | with_reducible exact tb_l_o0 _ | with_reducible exact tb_l_o1 _ | with_reducible exact tb_l_va _ | with_reducible exact tb_l_ll _ | with_reducible exact tb_l_cf _ | with_reducible exact tb_l_kf _ | omega)) rfl ?_
      refine ew_iald (j := (i + 32 - 4 * r) % 32) d_Pt_interpolate_27 rfl (rfl) (by first | with_reducible assumption | with_reducible exact ep_lt _ | with_reducible exact sp_its_lt _ _ _ | with_reducible exact tb_l_rt _ | with_reducible exact tb_l_x _ | with_reducible exact tb_l_o0 _ | with_reducible exact tb_l_o1 _ | with_reducible exact tb_l_va _ | with_reducible exact tb_l_ll _ | with_reducible exact tb_l_cf _ | with_reducible exact tb_l_kf _ | omega) (by decide) ?_
      refine en_eq (st' := [.int (nI (tb_o1 ((i + 32 - 4 * r) % 32))), .int (nI (f r)), .int (nI (sp_its f i r))]) rfl (by rw [show (M 7 ((i + 32 - 4 * r) % 32)) = (nI (tb_o1 ((i + 32 - 4 * r) % 32))) from (hT _ (by first | with_reducible assumption | with_reducible exact ep_lt _ | with_reducible exact sp_its_lt _ _ _ | with_reducible exact tb_l_rt _ | with_reducible exact tb_l_x _ | with_reducible exact tb_l_o0 _ | with_reducible exact tb_l_o1 _ | with_reducible exact tb_l_va _ | with_reducible exact tb_l_ll _ | with_reducible exact tb_l_cf _ | with_reducible exact tb_l_kf _ | omega)).2.2.1]) rfl ?_
      refine en_callS (As := [.int (nI (f r)), .int (nI (tb_o1 ((i + 32 - 4 * r) % 32)))]) (st := [.int (nI (sp_its f i r))]) (st1 := [.int (nI ((f r) * (tb_o1 ((i + 32 - 4 * r) % 32)) % 12289)), .int (nI (sp_its f i r))]) d_Pt_interpolate_28 k_Fi_times tw_32 tw_30 rfl (Nat.le_of_ble_eq_true rfl) rfl (Nat.le_of_ble_eq_true rfl) rfl rfl (c_Fi_times l g _ (ew_SH L) M (f r) (tb_o1 ((i + 32 - 4 * r) % 32)) (by first | with_reducible exact ep_lt _ | with_reducible exact tb_l_o1 _ | exact (hf _ (by omega)).2) (by first | with_reducible exact ep_lt _ | with_reducible exact tb_l_o1 _ | exact (hf _ (by omega)).2)) rfl ?_
      refine en_callS (As := [.int (nI (sp_its f i r)), .int (nI ((f r) * (tb_o1 ((i + 32 - 4 * r) % 32)) % 12289))]) (st := []) (st1 := [.int (nI (((sp_its f i r) + ((f r) * (tb_o1 ((i + 32 - 4 * r) % 32)) % 12289)) % 12289))]) d_Pt_interpolate_31 k_Fi_plus tw_308 tw_309 rfl (Nat.le_of_ble_eq_true rfl) rfl (Nat.le_of_ble_eq_true rfl) rfl rfl (c_Fi_plus l g _ (ew_SH L) M (sp_its f i r) ((f r) * (tb_o1 ((i + 32 - 4 * r) % 32)) % 12289) (by first | with_reducible assumption | with_reducible exact ep_lt _ | with_reducible exact sp_its_lt _ _ _ | with_reducible exact tb_l_rt _ | with_reducible exact tb_l_x _ | with_reducible exact tb_l_o0 _ | with_reducible exact tb_l_o1 _ | with_reducible exact tb_l_va _ | with_reducible exact tb_l_ll _ | with_reducible exact tb_l_cf _ | with_reducible exact tb_l_kf _ | omega) (by first | with_reducible assumption | with_reducible exact ep_lt _ | with_reducible exact sp_its_lt _ _ _ | with_reducible exact tb_l_rt _ | with_reducible exact tb_l_x _ | with_reducible exact tb_l_o0 _ | with_reducible exact tb_l_o1 _ | with_reducible exact tb_l_va _ | with_reducible exact tb_l_ll _ | with_reducible exact tb_l_cf _ | with_reducible exact tb_l_kf _ | omega)) rfl ?_
      refine en_istore_n (ls' := [.ref 4, .ref 20, .int (nI i), .int (nI (((sp_its f i r) + ((f r) * (tb_o1 ((i + 32 - 4 * r) % 32)) % 12289)) % 12289)), .int (nI r)]) d_Pt_interpolate_34 (Nat.le_of_ble_eq_true rfl) rfl ?_
      refine en_inc (ls' := [.ref 4, .ref 20, .int (nI i), .int (nI (((sp_its f i r) + ((f r) * (tb_o1 ((i + 32 - 4 * r) % 32)) % 12289)) % 12289)), .int (nI (r + 1))]) d_Pt_interpolate_35 rfl rfl ?_
      refine ew_goto (tgt := 5) d_Pt_interpolate_38 (by decide) ?_
      exact ih (r + 1) (by omega) (by omega)
set_option maxRecDepth 100000 in
theorem c_Pt_interpolate20 (l : Launch) (g : ew_G) (d L : Nat) (M : ew_M) (hT : sp_tab M) (f : Nat → Nat) (hf : ∀ r, r < 8 → M 20 r = nI (f r) ∧ f r < 12289) (i : Nat) (hi : i < 32) :
    Ew l g (d + 1) 0 0 m_Pt_interpolate 0 [.ref 4, .ref 20, .int (nI i), .retAddr 0, .retAddr 0] [] (ew_SH L) M (ew_q (some (.int (nI (sp_it f i)))) (ew_SH L) M) := by
  refine ew_iconst (v := nI 0) d_Pt_interpolate_0 (by decide) ?_
  refine en_istore_n (ls' := [.ref 4, .ref 20, .int (nI i), .int (nI 0), .retAddr 0]) d_Pt_interpolate_1 (Nat.le_of_ble_eq_true rfl) rfl ?_
  refine ew_iconst (v := nI 0) d_Pt_interpolate_2 (by decide) ?_
  refine en_istore (ls' := [.ref 4, .ref 20, .int (nI i), .int (nI 0), .int (nI 0)]) d_Pt_interpolate_3 (Nat.le_of_ble_eq_true rfl) rfl ?_
  exact lp_Pt_interpolate20 l g d L M hT f hf i hi 9 0 (by omega) (by omega)
set_option maxRecDepth 100000 in
theorem c_Pt_fold0 (l : Launch) (g : ew_G) (d L : Nat) (M : ew_M) (hT : sp_tab M) (i f h B : Nat) (hi : i < 32) (hf : f < 12289) (hh : h < 12289) (hB : B < 12289) :
    Ew l g (d + 2) 0 0 m_Pt_fold 0 [.ref 4, .int (nI 0), .int (nI i), .int (nI f), .int (nI h), .int (nI B), .retAddr 0, .retAddr 0, .retAddr 0] [] (ew_SH L) M (ew_q (some (.int (nI (sp_fo 1 i f h B)))) (ew_SH L) M) := by
  refine ew_aload_n d_Pt_fold_0 rfl ?_
  refine ew_getr (ci := 1) (f := 1) d_Pt_fold_1 rfl rfl rfl tw_45 ?_
  refine ew_iload_n d_Pt_fold_4 rfl ?_
  refine ew_iald (j := i) d_Pt_fold_5 rfl (rfl) (by first | with_reducible assumption | with_reducible exact ep_lt _ | with_reducible exact sp_its_lt _ _ _ | with_reducible exact tb_l_rt _ | with_reducible exact tb_l_x _ | with_reducible exact tb_l_o0 _ | with_reducible exact tb_l_o1 _ | with_reducible exact tb_l_va _ | with_reducible exact tb_l_ll _ | with_reducible exact tb_l_cf _ | with_reducible exact tb_l_kf _ | omega) (by decide) ?_
  refine en_eq (st' := [.int (nI (tb_o0 i))]) rfl (by rw [show (M 6 i) = (nI (tb_o0 i)) from (hT _ (by first | with_reducible assumption | with_reducible exact ep_lt _ | with_reducible exact sp_its_lt _ _ _ | with_reducible exact tb_l_rt _ | with_reducible exact tb_l_x _ | with_reducible exact tb_l_o0 _ | with_reducible exact tb_l_o1 _ | with_reducible exact tb_l_va _ | with_reducible exact tb_l_ll _ | with_reducible exact tb_l_cf _ | with_reducible exact tb_l_kf _ | omega)).2.1]) rfl ?_
  refine ew_iconst (v := nI 1) d_Pt_fold_6 (by decide) ?_
  refine ew_iload_n d_Pt_fold_7 rfl ?_
  refine ew_ishl d_Pt_fold_8 ?_
  refine en_eq (st' := [.int (nI 1), .int (nI (tb_o0 i))]) rfl (by rw [show ((nI 1) <<< ((nI 0) &&& 31)) = (nI 1) from by decide]) rfl ?_
  refine en_callS (As := [.int (nI (tb_o0 i)), .int (nI 1)]) (st := []) (st1 := [.int (nI ((tb_o0 i) ^ 1 % 12289))]) d_Pt_fold_9 k_Fi_power tw_26 tw_27 rfl (Nat.le_of_ble_eq_true rfl) rfl (Nat.le_of_ble_eq_true rfl) rfl rfl (c_Fi_power l g _ (ew_SH L) M (tb_o0 i) 1 (by first | with_reducible assumption | with_reducible exact ep_lt _ | with_reducible exact sp_its_lt _ _ _ | with_reducible exact tb_l_rt _ | with_reducible exact tb_l_x _ | with_reducible exact tb_l_o0 _ | with_reducible exact tb_l_o1 _ | with_reducible exact tb_l_va _ | with_reducible exact tb_l_ll _ | with_reducible exact tb_l_cf _ | with_reducible exact tb_l_kf _ | omega) (by decide)) rfl ?_
  refine en_istore (ls' := [.ref 4, .int (nI 0), .int (nI i), .int (nI f), .int (nI h), .int (nI B), .int (nI ((tb_o0 i) ^ 1 % 12289)), .retAddr 0, .retAddr 0]) d_Pt_fold_12 (Nat.le_of_ble_eq_true rfl) rfl ?_
  refine ew_iload_n d_Pt_fold_14 rfl ?_
  refine ew_iload d_Pt_fold_15 rfl ?_
  refine en_callS (As := [.int (nI f), .int (nI h)]) (st := []) (st1 := [.int (nI ((f + 12289 - h) % 12289))]) d_Pt_fold_17 k_Fi_minus tw_37 tw_38 rfl (Nat.le_of_ble_eq_true rfl) rfl (Nat.le_of_ble_eq_true rfl) rfl rfl (c_Fi_minus l g _ (ew_SH L) M f h (by first | with_reducible assumption | with_reducible exact ep_lt _ | with_reducible exact sp_its_lt _ _ _ | with_reducible exact tb_l_rt _ | with_reducible exact tb_l_x _ | with_reducible exact tb_l_o0 _ | with_reducible exact tb_l_o1 _ | with_reducible exact tb_l_va _ | with_reducible exact tb_l_ll _ | with_reducible exact tb_l_cf _ | with_reducible exact tb_l_kf _ | omega) (by first | with_reducible assumption | with_reducible exact ep_lt _ | with_reducible exact sp_its_lt _ _ _ | with_reducible exact tb_l_rt _ | with_reducible exact tb_l_x _ | with_reducible exact tb_l_o0 _ | with_reducible exact tb_l_o1 _ | with_reducible exact tb_l_va _ | with_reducible exact tb_l_ll _ | with_reducible exact tb_l_cf _ | with_reducible exact tb_l_kf _ | omega)) rfl ?_
  refine ew_iload d_Pt_fold_20 rfl ?_
  refine en_callS (As := [.int (nI ((f + 12289 - h) % 12289)), .int (nI ((tb_o0 i) ^ 1 % 12289))]) (st := []) (st1 := [.int (nI (((f + 12289 - h) % 12289) * ((tb_o0 i) ^ 1 % 12289) % 12289))]) d_Pt_fold_22 k_Fi_times tw_32 tw_30 rfl (Nat.le_of_ble_eq_true rfl) rfl (Nat.le_of_ble_eq_true rfl) rfl rfl (c_Fi_times l g _ (ew_SH L) M ((f + 12289 - h) % 12289) ((tb_o0 i) ^ 1 % 12289) (by first | with_reducible assumption | with_reducible exact ep_lt _ | with_reducible exact sp_its_lt _ _ _ | with_reducible exact tb_l_rt _ | with_reducible exact tb_l_x _ | with_reducible exact tb_l_o0 _ | with_reducible exact tb_l_o1 _ | with_reducible exact tb_l_va _ | with_reducible exact tb_l_ll _ | with_reducible exact tb_l_cf _ | with_reducible exact tb_l_kf _ | omega) (by first | with_reducible assumption | with_reducible exact ep_lt _ | with_reducible exact sp_its_lt _ _ _ | with_reducible exact tb_l_rt _ | with_reducible exact tb_l_x _ | with_reducible exact tb_l_o0 _ | with_reducible exact tb_l_o1 _ | with_reducible exact tb_l_va _ | with_reducible exact tb_l_ll _ | with_reducible exact tb_l_cf _ | with_reducible exact tb_l_kf _ | omega)) rfl ?_
  refine en_istore (ls' := [.ref 4, .int (nI 0), .int (nI i), .int (nI f), .int (nI h), .int (nI B), .int (nI ((tb_o0 i) ^ 1 % 12289)), .int (nI (((f + 12289 - h) % 12289) * ((tb_o0 i) ^ 1 % 12289) % 12289)), .retAddr 0]) d_Pt_fold_25 (Nat.le_of_ble_eq_true rfl) rfl ?_
  refine ew_iload_n d_Pt_fold_27 rfl ?_
  refine ew_iload d_Pt_fold_28 rfl ?_
  refine en_callS (As := [.int (nI f), .int (nI h)]) (st := []) (st1 := [.int (nI ((f + h) % 12289))]) d_Pt_fold_30 k_Fi_plus tw_308 tw_309 rfl (Nat.le_of_ble_eq_true rfl) rfl (Nat.le_of_ble_eq_true rfl) rfl rfl (c_Fi_plus l g _ (ew_SH L) M f h (by first | with_reducible assumption | with_reducible exact ep_lt _ | with_reducible exact sp_its_lt _ _ _ | with_reducible exact tb_l_rt _ | with_reducible exact tb_l_x _ | with_reducible exact tb_l_o0 _ | with_reducible exact tb_l_o1 _ | with_reducible exact tb_l_va _ | with_reducible exact tb_l_ll _ | with_reducible exact tb_l_cf _ | with_reducible exact tb_l_kf _ | omega) (by first | with_reducible assumption | with_reducible exact ep_lt _ | with_reducible exact sp_its_lt _ _ _ | with_reducible exact tb_l_rt _ | with_reducible exact tb_l_x _ | with_reducible exact tb_l_o0 _ | with_reducible exact tb_l_o1 _ | with_reducible exact tb_l_va _ | with_reducible exact tb_l_ll _ | with_reducible exact tb_l_cf _ | with_reducible exact tb_l_kf _ | omega)) rfl ?_
  refine ew_iload d_Pt_fold_33 rfl ?_
  refine ew_iload d_Pt_fold_35 rfl ?_
  refine en_callS (As := [.int (nI B), .int (nI (((f + 12289 - h) % 12289) * ((tb_o0 i) ^ 1 % 12289) % 12289))]) (st := [.int (nI ((f + h) % 12289))]) (st1 := [.int (nI (B * (((f + 12289 - h) % 12289) * ((tb_o0 i) ^ 1 % 12289) % 12289) % 12289)), .int (nI ((f + h) % 12289))]) d_Pt_fold_37 k_Fi_times tw_32 tw_30 rfl (Nat.le_of_ble_eq_true rfl) rfl (Nat.le_of_ble_eq_true rfl) rfl rfl (c_Fi_times l g _ (ew_SH L) M B (((f + 12289 - h) % 12289) * ((tb_o0 i) ^ 1 % 12289) % 12289) (by first | with_reducible assumption | with_reducible exact ep_lt _ | with_reducible exact sp_its_lt _ _ _ | with_reducible exact tb_l_rt _ | with_reducible exact tb_l_x _ | with_reducible exact tb_l_o0 _ | with_reducible exact tb_l_o1 _ | with_reducible exact tb_l_va _ | with_reducible exact tb_l_ll _ | with_reducible exact tb_l_cf _ | with_reducible exact tb_l_kf _ | omega) (by first | with_reducible assumption | with_reducible exact ep_lt _ | with_reducible exact sp_its_lt _ _ _ | with_reducible exact tb_l_rt _ | with_reducible exact tb_l_x _ | with_reducible exact tb_l_o0 _ | with_reducible exact tb_l_o1 _ | with_reducible exact tb_l_va _ | with_reducible exact tb_l_ll _ | with_reducible exact tb_l_cf _ | with_reducible exact tb_l_kf _ | omega)) rfl ?_
  refine en_callS (As := [.int (nI ((f + h) % 12289)), .int (nI (B * (((f + 12289 - h) % 12289) * ((tb_o0 i) ^ 1 % 12289) % 12289) % 12289))]) (st := []) (st1 := [.int (nI ((((f + h) % 12289) + (B * (((f + 12289 - h) % 12289) * ((tb_o0 i) ^ 1 % 12289) % 12289) % 12289)) % 12289))]) d_Pt_fold_40 k_Fi_plus tw_308 tw_309 rfl (Nat.le_of_ble_eq_true rfl) rfl (Nat.le_of_ble_eq_true rfl) rfl rfl (c_Fi_plus l g _ (ew_SH L) M ((f + h) % 12289) (B * (((f + 12289 - h) % 12289) * ((tb_o0 i) ^ 1 % 12289) % 12289) % 12289) (by first | with_reducible assumption | with_reducible exact ep_lt _ | with_reducible exact sp_its_lt _ _ _ | with_reducible exact tb_l_rt _ | with_reducible exact tb_l_x _ | with_reducible exact tb_l_o0 _ | with_reducible exact tb_l_o1 _ | with_reducible exact tb_l_va _ | with_reducible exact tb_l_ll _ | with_reducible exact tb_l_cf _ | with_reducible exact tb_l_kf _ | omega) (by first | with_reducible assumption | with_reducible exact ep_lt _ | with_reducible exact sp_its_lt _ _ _ | with_reducible exact tb_l_rt _ | with_reducible exact tb_l_x _ | with_reducible exact tb_l_o0 _ | with_reducible exact tb_l_o1 _ | with_reducible exact tb_l_va _ | with_reducible exact tb_l_ll _ | with_reducible exact tb_l_cf _ | with_reducible exact tb_l_kf _ | omega)) rfl ?_
  refine en_istore (ls' := [.ref 4, .int (nI 0), .int (nI i), .int (nI f), .int (nI h), .int (nI B), .int (nI ((tb_o0 i) ^ 1 % 12289)), .int (nI (((f + 12289 - h) % 12289) * ((tb_o0 i) ^ 1 % 12289) % 12289)), .int (nI ((((f + h) % 12289) + (B * (((f + 12289 - h) % 12289) * ((tb_o0 i) ^ 1 % 12289) % 12289) % 12289)) % 12289))]) d_Pt_fold_43 (Nat.le_of_ble_eq_true rfl) rfl ?_
  refine ew_iload d_Pt_fold_45 rfl ?_
  refine ew_sipush (v := nI 6145) d_Pt_fold_47 (by decide) ?_
  refine en_callS (As := [.int (nI ((((f + h) % 12289) + (B * (((f + 12289 - h) % 12289) * ((tb_o0 i) ^ 1 % 12289) % 12289) % 12289)) % 12289)), .int (nI 6145)]) (st := []) (st1 := [.int (nI (((((f + h) % 12289) + (B * (((f + 12289 - h) % 12289) * ((tb_o0 i) ^ 1 % 12289) % 12289) % 12289)) % 12289) * 6145 % 12289))]) d_Pt_fold_50 k_Fi_times tw_32 tw_30 rfl (Nat.le_of_ble_eq_true rfl) rfl (Nat.le_of_ble_eq_true rfl) rfl rfl (c_Fi_times l g _ (ew_SH L) M ((((f + h) % 12289) + (B * (((f + 12289 - h) % 12289) * ((tb_o0 i) ^ 1 % 12289) % 12289) % 12289)) % 12289) 6145 (by first | with_reducible assumption | with_reducible exact ep_lt _ | with_reducible exact sp_its_lt _ _ _ | with_reducible exact tb_l_rt _ | with_reducible exact tb_l_x _ | with_reducible exact tb_l_o0 _ | with_reducible exact tb_l_o1 _ | with_reducible exact tb_l_va _ | with_reducible exact tb_l_ll _ | with_reducible exact tb_l_cf _ | with_reducible exact tb_l_kf _ | omega) (by first | with_reducible assumption | with_reducible exact ep_lt _ | with_reducible exact sp_its_lt _ _ _ | with_reducible exact tb_l_rt _ | with_reducible exact tb_l_x _ | with_reducible exact tb_l_o0 _ | with_reducible exact tb_l_o1 _ | with_reducible exact tb_l_va _ | with_reducible exact tb_l_ll _ | with_reducible exact tb_l_cf _ | with_reducible exact tb_l_kf _ | omega)) rfl ?_
  exact ew_iret d_Pt_fold_53 rfl (⟨rfl, rfl, rfl⟩)
set_option maxRecDepth 100000 in
theorem c_Pt_fold1 (l : Launch) (g : ew_G) (d L : Nat) (M : ew_M) (hT : sp_tab M) (i f h B : Nat) (hi : i < 32) (hf : f < 12289) (hh : h < 12289) (hB : B < 12289) :
    Ew l g (d + 2) 0 0 m_Pt_fold 0 [.ref 4, .int (nI 1), .int (nI i), .int (nI f), .int (nI h), .int (nI B), .retAddr 0, .retAddr 0, .retAddr 0] [] (ew_SH L) M (ew_q (some (.int (nI (sp_fo 2 i f h B)))) (ew_SH L) M) := by
  refine ew_aload_n d_Pt_fold_0 rfl ?_
  refine ew_getr (ci := 1) (f := 1) d_Pt_fold_1 rfl rfl rfl tw_45 ?_
  refine ew_iload_n d_Pt_fold_4 rfl ?_
  refine ew_iald (j := i) d_Pt_fold_5 rfl (rfl) (by first | with_reducible assumption | with_reducible exact ep_lt _ | with_reducible exact sp_its_lt _ _ _ | with_reducible exact tb_l_rt _ | with_reducible exact tb_l_x _ | with_reducible exact tb_l_o0 _ | with_reducible exact tb_l_o1 _ | with_reducible exact tb_l_va _ | with_reducible exact tb_l_ll _ | with_reducible exact tb_l_cf _ | with_reducible exact tb_l_kf _ | omega) (by decide) ?_
  refine en_eq (st' := [.int (nI (tb_o0 i))]) rfl (by rw [show (M 6 i) = (nI (tb_o0 i)) from (hT _ (by first | with_reducible assumption | with_reducible exact ep_lt _ | with_reducible exact sp_its_lt _ _ _ | with_reducible exact tb_l_rt _ | with_reducible exact tb_l_x _ | with_reducible exact tb_l_o0 _ | with_reducible exact tb_l_o1 _ | with_reducible exact tb_l_va _ | with_reducible exact tb_l_ll _ | with_reducible exact tb_l_cf _ | with_reducible exact tb_l_kf _ | omega)).2.1]) rfl ?_
  refine ew_iconst (v := nI 1) d_Pt_fold_6 (by decide) ?_
  refine ew_iload_n d_Pt_fold_7 rfl ?_
  refine ew_ishl d_Pt_fold_8 ?_
  refine en_eq (st' := [.int (nI 2), .int (nI (tb_o0 i))]) rfl (by rw [show ((nI 1) <<< ((nI 1) &&& 31)) = (nI 2) from by decide]) rfl ?_
  refine en_callS (As := [.int (nI (tb_o0 i)), .int (nI 2)]) (st := []) (st1 := [.int (nI ((tb_o0 i) ^ 2 % 12289))]) d_Pt_fold_9 k_Fi_power tw_26 tw_27 rfl (Nat.le_of_ble_eq_true rfl) rfl (Nat.le_of_ble_eq_true rfl) rfl rfl (c_Fi_power l g _ (ew_SH L) M (tb_o0 i) 2 (by first | with_reducible assumption | with_reducible exact ep_lt _ | with_reducible exact sp_its_lt _ _ _ | with_reducible exact tb_l_rt _ | with_reducible exact tb_l_x _ | with_reducible exact tb_l_o0 _ | with_reducible exact tb_l_o1 _ | with_reducible exact tb_l_va _ | with_reducible exact tb_l_ll _ | with_reducible exact tb_l_cf _ | with_reducible exact tb_l_kf _ | omega) (by decide)) rfl ?_
  refine en_istore (ls' := [.ref 4, .int (nI 1), .int (nI i), .int (nI f), .int (nI h), .int (nI B), .int (nI ((tb_o0 i) ^ 2 % 12289)), .retAddr 0, .retAddr 0]) d_Pt_fold_12 (Nat.le_of_ble_eq_true rfl) rfl ?_
  refine ew_iload_n d_Pt_fold_14 rfl ?_
  refine ew_iload d_Pt_fold_15 rfl ?_
  refine en_callS (As := [.int (nI f), .int (nI h)]) (st := []) (st1 := [.int (nI ((f + 12289 - h) % 12289))]) d_Pt_fold_17 k_Fi_minus tw_37 tw_38 rfl (Nat.le_of_ble_eq_true rfl) rfl (Nat.le_of_ble_eq_true rfl) rfl rfl (c_Fi_minus l g _ (ew_SH L) M f h (by first | with_reducible assumption | with_reducible exact ep_lt _ | with_reducible exact sp_its_lt _ _ _ | with_reducible exact tb_l_rt _ | with_reducible exact tb_l_x _ | with_reducible exact tb_l_o0 _ | with_reducible exact tb_l_o1 _ | with_reducible exact tb_l_va _ | with_reducible exact tb_l_ll _ | with_reducible exact tb_l_cf _ | with_reducible exact tb_l_kf _ | omega) (by first | with_reducible assumption | with_reducible exact ep_lt _ | with_reducible exact sp_its_lt _ _ _ | with_reducible exact tb_l_rt _ | with_reducible exact tb_l_x _ | with_reducible exact tb_l_o0 _ | with_reducible exact tb_l_o1 _ | with_reducible exact tb_l_va _ | with_reducible exact tb_l_ll _ | with_reducible exact tb_l_cf _ | with_reducible exact tb_l_kf _ | omega)) rfl ?_
  refine ew_iload d_Pt_fold_20 rfl ?_
  refine en_callS (As := [.int (nI ((f + 12289 - h) % 12289)), .int (nI ((tb_o0 i) ^ 2 % 12289))]) (st := []) (st1 := [.int (nI (((f + 12289 - h) % 12289) * ((tb_o0 i) ^ 2 % 12289) % 12289))]) d_Pt_fold_22 k_Fi_times tw_32 tw_30 rfl (Nat.le_of_ble_eq_true rfl) rfl (Nat.le_of_ble_eq_true rfl) rfl rfl (c_Fi_times l g _ (ew_SH L) M ((f + 12289 - h) % 12289) ((tb_o0 i) ^ 2 % 12289) (by first | with_reducible assumption | with_reducible exact ep_lt _ | with_reducible exact sp_its_lt _ _ _ | with_reducible exact tb_l_rt _ | with_reducible exact tb_l_x _ | with_reducible exact tb_l_o0 _ | with_reducible exact tb_l_o1 _ | with_reducible exact tb_l_va _ | with_reducible exact tb_l_ll _ | with_reducible exact tb_l_cf _ | with_reducible exact tb_l_kf _ | omega) (by first | with_reducible assumption | with_reducible exact ep_lt _ | with_reducible exact sp_its_lt _ _ _ | with_reducible exact tb_l_rt _ | with_reducible exact tb_l_x _ | with_reducible exact tb_l_o0 _ | with_reducible exact tb_l_o1 _ | with_reducible exact tb_l_va _ | with_reducible exact tb_l_ll _ | with_reducible exact tb_l_cf _ | with_reducible exact tb_l_kf _ | omega)) rfl ?_
  refine en_istore (ls' := [.ref 4, .int (nI 1), .int (nI i), .int (nI f), .int (nI h), .int (nI B), .int (nI ((tb_o0 i) ^ 2 % 12289)), .int (nI (((f + 12289 - h) % 12289) * ((tb_o0 i) ^ 2 % 12289) % 12289)), .retAddr 0]) d_Pt_fold_25 (Nat.le_of_ble_eq_true rfl) rfl ?_
  refine ew_iload_n d_Pt_fold_27 rfl ?_
  refine ew_iload d_Pt_fold_28 rfl ?_
  refine en_callS (As := [.int (nI f), .int (nI h)]) (st := []) (st1 := [.int (nI ((f + h) % 12289))]) d_Pt_fold_30 k_Fi_plus tw_308 tw_309 rfl (Nat.le_of_ble_eq_true rfl) rfl (Nat.le_of_ble_eq_true rfl) rfl rfl (c_Fi_plus l g _ (ew_SH L) M f h (by first | with_reducible assumption | with_reducible exact ep_lt _ | with_reducible exact sp_its_lt _ _ _ | with_reducible exact tb_l_rt _ | with_reducible exact tb_l_x _ | with_reducible exact tb_l_o0 _ | with_reducible exact tb_l_o1 _ | with_reducible exact tb_l_va _ | with_reducible exact tb_l_ll _ | with_reducible exact tb_l_cf _ | with_reducible exact tb_l_kf _ | omega) (by first | with_reducible assumption | with_reducible exact ep_lt _ | with_reducible exact sp_its_lt _ _ _ | with_reducible exact tb_l_rt _ | with_reducible exact tb_l_x _ | with_reducible exact tb_l_o0 _ | with_reducible exact tb_l_o1 _ | with_reducible exact tb_l_va _ | with_reducible exact tb_l_ll _ | with_reducible exact tb_l_cf _ | with_reducible exact tb_l_kf _ | omega)) rfl ?_
  refine ew_iload d_Pt_fold_33 rfl ?_
  refine ew_iload d_Pt_fold_35 rfl ?_
  refine en_callS (As := [.int (nI B), .int (nI (((f + 12289 - h) % 12289) * ((tb_o0 i) ^ 2 % 12289) % 12289))]) (st := [.int (nI ((f + h) % 12289))]) (st1 := [.int (nI (B * (((f + 12289 - h) % 12289) * ((tb_o0 i) ^ 2 % 12289) % 12289) % 12289)), .int (nI ((f + h) % 12289))]) d_Pt_fold_37 k_Fi_times tw_32 tw_30 rfl (Nat.le_of_ble_eq_true rfl) rfl (Nat.le_of_ble_eq_true rfl) rfl rfl (c_Fi_times l g _ (ew_SH L) M B (((f + 12289 - h) % 12289) * ((tb_o0 i) ^ 2 % 12289) % 12289) (by first | with_reducible assumption | with_reducible exact ep_lt _ | with_reducible exact sp_its_lt _ _ _ | with_reducible exact tb_l_rt _ | with_reducible exact tb_l_x _ | with_reducible exact tb_l_o0 _ | with_reducible exact tb_l_o1 _ | with_reducible exact tb_l_va _ | with_reducible exact tb_l_ll _ | with_reducible exact tb_l_cf _ | with_reducible exact tb_l_kf _ | omega) (by first | with_reducible assumption | with_reducible exact ep_lt _ | with_reducible exact sp_its_lt _ _ _ | with_reducible exact tb_l_rt _ | with_reducible exact tb_l_x _ | with_reducible exact tb_l_o0 _ | with_reducible exact tb_l_o1 _ | with_reducible exact tb_l_va _ | with_reducible exact tb_l_ll _ | with_reducible exact tb_l_cf _ | with_reducible exact tb_l_kf _ | omega)) rfl ?_
  refine en_callS (As := [.int (nI ((f + h) % 12289)), .int (nI (B * (((f + 12289 - h) % 12289) * ((tb_o0 i) ^ 2 % 12289) % 12289) % 12289))]) (st := []) (st1 := [.int (nI ((((f + h) % 12289) + (B * (((f + 12289 - h) % 12289) * ((tb_o0 i) ^ 2 % 12289) % 12289) % 12289)) % 12289))]) d_Pt_fold_40 k_Fi_plus tw_308 tw_309 rfl (Nat.le_of_ble_eq_true rfl) rfl (Nat.le_of_ble_eq_true rfl) rfl rfl (c_Fi_plus l g _ (ew_SH L) M ((f + h) % 12289) (B * (((f + 12289 - h) % 12289) * ((tb_o0 i) ^ 2 % 12289) % 12289) % 12289) (by first | with_reducible assumption | with_reducible exact ep_lt _ | with_reducible exact sp_its_lt _ _ _ | with_reducible exact tb_l_rt _ | with_reducible exact tb_l_x _ | with_reducible exact tb_l_o0 _ | with_reducible exact tb_l_o1 _ | with_reducible exact tb_l_va _ | with_reducible exact tb_l_ll _ | with_reducible exact tb_l_cf _ | with_reducible exact tb_l_kf _ | omega) (by first | with_reducible assumption | with_reducible exact ep_lt _ | with_reducible exact sp_its_lt _ _ _ | with_reducible exact tb_l_rt _ | with_reducible exact tb_l_x _ | with_reducible exact tb_l_o0 _ | with_reducible exact tb_l_o1 _ | with_reducible exact tb_l_va _ | with_reducible exact tb_l_ll _ | with_reducible exact tb_l_cf _ | with_reducible exact tb_l_kf _ | omega)) rfl ?_
  refine en_istore (ls' := [.ref 4, .int (nI 1), .int (nI i), .int (nI f), .int (nI h), .int (nI B), .int (nI ((tb_o0 i) ^ 2 % 12289)), .int (nI (((f + 12289 - h) % 12289) * ((tb_o0 i) ^ 2 % 12289) % 12289)), .int (nI ((((f + h) % 12289) + (B * (((f + 12289 - h) % 12289) * ((tb_o0 i) ^ 2 % 12289) % 12289) % 12289)) % 12289))]) d_Pt_fold_43 (Nat.le_of_ble_eq_true rfl) rfl ?_
  refine ew_iload d_Pt_fold_45 rfl ?_
  refine ew_sipush (v := nI 6145) d_Pt_fold_47 (by decide) ?_
  refine en_callS (As := [.int (nI ((((f + h) % 12289) + (B * (((f + 12289 - h) % 12289) * ((tb_o0 i) ^ 2 % 12289) % 12289) % 12289)) % 12289)), .int (nI 6145)]) (st := []) (st1 := [.int (nI (((((f + h) % 12289) + (B * (((f + 12289 - h) % 12289) * ((tb_o0 i) ^ 2 % 12289) % 12289) % 12289)) % 12289) * 6145 % 12289))]) d_Pt_fold_50 k_Fi_times tw_32 tw_30 rfl (Nat.le_of_ble_eq_true rfl) rfl (Nat.le_of_ble_eq_true rfl) rfl rfl (c_Fi_times l g _ (ew_SH L) M ((((f + h) % 12289) + (B * (((f + 12289 - h) % 12289) * ((tb_o0 i) ^ 2 % 12289) % 12289) % 12289)) % 12289) 6145 (by first | with_reducible assumption | with_reducible exact ep_lt _ | with_reducible exact sp_its_lt _ _ _ | with_reducible exact tb_l_rt _ | with_reducible exact tb_l_x _ | with_reducible exact tb_l_o0 _ | with_reducible exact tb_l_o1 _ | with_reducible exact tb_l_va _ | with_reducible exact tb_l_ll _ | with_reducible exact tb_l_cf _ | with_reducible exact tb_l_kf _ | omega) (by first | with_reducible assumption | with_reducible exact ep_lt _ | with_reducible exact sp_its_lt _ _ _ | with_reducible exact tb_l_rt _ | with_reducible exact tb_l_x _ | with_reducible exact tb_l_o0 _ | with_reducible exact tb_l_o1 _ | with_reducible exact tb_l_va _ | with_reducible exact tb_l_ll _ | with_reducible exact tb_l_cf _ | with_reducible exact tb_l_kf _ | omega)) rfl ?_
  exact ew_iret d_Pt_fold_53 rfl (⟨rfl, rfl, rfl⟩)
set_option maxRecDepth 100000 in
theorem c_Pt_fold2 (l : Launch) (g : ew_G) (d L : Nat) (M : ew_M) (hT : sp_tab M) (i f h B : Nat) (hi : i < 32) (hf : f < 12289) (hh : h < 12289) (hB : B < 12289) :
    Ew l g (d + 2) 0 0 m_Pt_fold 0 [.ref 4, .int (nI 2), .int (nI i), .int (nI f), .int (nI h), .int (nI B), .retAddr 0, .retAddr 0, .retAddr 0] [] (ew_SH L) M (ew_q (some (.int (nI (sp_fo 4 i f h B)))) (ew_SH L) M) := by
  refine ew_aload_n d_Pt_fold_0 rfl ?_
  refine ew_getr (ci := 1) (f := 1) d_Pt_fold_1 rfl rfl rfl tw_45 ?_
  refine ew_iload_n d_Pt_fold_4 rfl ?_
  refine ew_iald (j := i) d_Pt_fold_5 rfl (rfl) (by first | with_reducible assumption | with_reducible exact ep_lt _ | with_reducible exact sp_its_lt _ _ _ | with_reducible exact tb_l_rt _ | with_reducible exact tb_l_x _ | with_reducible exact tb_l_o0 _ | with_reducible exact tb_l_o1 _ | with_reducible exact tb_l_va _ | with_reducible exact tb_l_ll _ | with_reducible exact tb_l_cf _ | with_reducible exact tb_l_kf _ | omega) (by decide) ?_
  refine en_eq (st' := [.int (nI (tb_o0 i))]) rfl (by rw [show (M 6 i) = (nI (tb_o0 i)) from (hT _ (by first | with_reducible assumption | with_reducible exact ep_lt _ | with_reducible exact sp_its_lt _ _ _ | with_reducible exact tb_l_rt _ | with_reducible exact tb_l_x _ | with_reducible exact tb_l_o0 _ | with_reducible exact tb_l_o1 _ | with_reducible exact tb_l_va _ | with_reducible exact tb_l_ll _ | with_reducible exact tb_l_cf _ | with_reducible exact tb_l_kf _ | omega)).2.1]) rfl ?_
  refine ew_iconst (v := nI 1) d_Pt_fold_6 (by decide) ?_
  refine ew_iload_n d_Pt_fold_7 rfl ?_
  refine ew_ishl d_Pt_fold_8 ?_
  refine en_eq (st' := [.int (nI 4), .int (nI (tb_o0 i))]) rfl (by rw [show ((nI 1) <<< ((nI 2) &&& 31)) = (nI 4) from by decide]) rfl ?_
  refine en_callS (As := [.int (nI (tb_o0 i)), .int (nI 4)]) (st := []) (st1 := [.int (nI ((tb_o0 i) ^ 4 % 12289))]) d_Pt_fold_9 k_Fi_power tw_26 tw_27 rfl (Nat.le_of_ble_eq_true rfl) rfl (Nat.le_of_ble_eq_true rfl) rfl rfl (c_Fi_power l g _ (ew_SH L) M (tb_o0 i) 4 (by first | with_reducible assumption | with_reducible exact ep_lt _ | with_reducible exact sp_its_lt _ _ _ | with_reducible exact tb_l_rt _ | with_reducible exact tb_l_x _ | with_reducible exact tb_l_o0 _ | with_reducible exact tb_l_o1 _ | with_reducible exact tb_l_va _ | with_reducible exact tb_l_ll _ | with_reducible exact tb_l_cf _ | with_reducible exact tb_l_kf _ | omega) (by decide)) rfl ?_
  refine en_istore (ls' := [.ref 4, .int (nI 2), .int (nI i), .int (nI f), .int (nI h), .int (nI B), .int (nI ((tb_o0 i) ^ 4 % 12289)), .retAddr 0, .retAddr 0]) d_Pt_fold_12 (Nat.le_of_ble_eq_true rfl) rfl ?_
  refine ew_iload_n d_Pt_fold_14 rfl ?_
  refine ew_iload d_Pt_fold_15 rfl ?_
  refine en_callS (As := [.int (nI f), .int (nI h)]) (st := []) (st1 := [.int (nI ((f + 12289 - h) % 12289))]) d_Pt_fold_17 k_Fi_minus tw_37 tw_38 rfl (Nat.le_of_ble_eq_true rfl) rfl (Nat.le_of_ble_eq_true rfl) rfl rfl (c_Fi_minus l g _ (ew_SH L) M f h (by first | with_reducible assumption | with_reducible exact ep_lt _ | with_reducible exact sp_its_lt _ _ _ | with_reducible exact tb_l_rt _ | with_reducible exact tb_l_x _ | with_reducible exact tb_l_o0 _ | with_reducible exact tb_l_o1 _ | with_reducible exact tb_l_va _ | with_reducible exact tb_l_ll _ | with_reducible exact tb_l_cf _ | with_reducible exact tb_l_kf _ | omega) (by first | with_reducible assumption | with_reducible exact ep_lt _ | with_reducible exact sp_its_lt _ _ _ | with_reducible exact tb_l_rt _ | with_reducible exact tb_l_x _ | with_reducible exact tb_l_o0 _ | with_reducible exact tb_l_o1 _ | with_reducible exact tb_l_va _ | with_reducible exact tb_l_ll _ | with_reducible exact tb_l_cf _ | with_reducible exact tb_l_kf _ | omega)) rfl ?_
  refine ew_iload d_Pt_fold_20 rfl ?_
  refine en_callS (As := [.int (nI ((f + 12289 - h) % 12289)), .int (nI ((tb_o0 i) ^ 4 % 12289))]) (st := []) (st1 := [.int (nI (((f + 12289 - h) % 12289) * ((tb_o0 i) ^ 4 % 12289) % 12289))]) d_Pt_fold_22 k_Fi_times tw_32 tw_30 rfl (Nat.le_of_ble_eq_true rfl) rfl (Nat.le_of_ble_eq_true rfl) rfl rfl (c_Fi_times l g _ (ew_SH L) M ((f + 12289 - h) % 12289) ((tb_o0 i) ^ 4 % 12289) (by first | with_reducible assumption | with_reducible exact ep_lt _ | with_reducible exact sp_its_lt _ _ _ | with_reducible exact tb_l_rt _ | with_reducible exact tb_l_x _ | with_reducible exact tb_l_o0 _ | with_reducible exact tb_l_o1 _ | with_reducible exact tb_l_va _ | with_reducible exact tb_l_ll _ | with_reducible exact tb_l_cf _ | with_reducible exact tb_l_kf _ | omega) (by first | with_reducible assumption | with_reducible exact ep_lt _ | with_reducible exact sp_its_lt _ _ _ | with_reducible exact tb_l_rt _ | with_reducible exact tb_l_x _ | with_reducible exact tb_l_o0 _ | with_reducible exact tb_l_o1 _ | with_reducible exact tb_l_va _ | with_reducible exact tb_l_ll _ | with_reducible exact tb_l_cf _ | with_reducible exact tb_l_kf _ | omega)) rfl ?_
  refine en_istore (ls' := [.ref 4, .int (nI 2), .int (nI i), .int (nI f), .int (nI h), .int (nI B), .int (nI ((tb_o0 i) ^ 4 % 12289)), .int (nI (((f + 12289 - h) % 12289) * ((tb_o0 i) ^ 4 % 12289) % 12289)), .retAddr 0]) d_Pt_fold_25 (Nat.le_of_ble_eq_true rfl) rfl ?_
  refine ew_iload_n d_Pt_fold_27 rfl ?_
  refine ew_iload d_Pt_fold_28 rfl ?_
  refine en_callS (As := [.int (nI f), .int (nI h)]) (st := []) (st1 := [.int (nI ((f + h) % 12289))]) d_Pt_fold_30 k_Fi_plus tw_308 tw_309 rfl (Nat.le_of_ble_eq_true rfl) rfl (Nat.le_of_ble_eq_true rfl) rfl rfl (c_Fi_plus l g _ (ew_SH L) M f h (by first | with_reducible assumption | with_reducible exact ep_lt _ | with_reducible exact sp_its_lt _ _ _ | with_reducible exact tb_l_rt _ | with_reducible exact tb_l_x _ | with_reducible exact tb_l_o0 _ | with_reducible exact tb_l_o1 _ | with_reducible exact tb_l_va _ | with_reducible exact tb_l_ll _ | with_reducible exact tb_l_cf _ | with_reducible exact tb_l_kf _ | omega) (by first | with_reducible assumption | with_reducible exact ep_lt _ | with_reducible exact sp_its_lt _ _ _ | with_reducible exact tb_l_rt _ | with_reducible exact tb_l_x _ | with_reducible exact tb_l_o0 _ | with_reducible exact tb_l_o1 _ | with_reducible exact tb_l_va _ | with_reducible exact tb_l_ll _ | with_reducible exact tb_l_cf _ | with_reducible exact tb_l_kf _ | omega)) rfl ?_
  refine ew_iload d_Pt_fold_33 rfl ?_
  refine ew_iload d_Pt_fold_35 rfl ?_
  refine en_callS (As := [.int (nI B), .int (nI (((f + 12289 - h) % 12289) * ((tb_o0 i) ^ 4 % 12289) % 12289))]) (st := [.int (nI ((f + h) % 12289))]) (st1 := [.int (nI (B * (((f + 12289 - h) % 12289) * ((tb_o0 i) ^ 4 % 12289) % 12289) % 12289)), .int (nI ((f + h) % 12289))]) d_Pt_fold_37 k_Fi_times tw_32 tw_30 rfl (Nat.le_of_ble_eq_true rfl) rfl (Nat.le_of_ble_eq_true rfl) rfl rfl (c_Fi_times l g _ (ew_SH L) M B (((f + 12289 - h) % 12289) * ((tb_o0 i) ^ 4 % 12289) % 12289) (by first | with_reducible assumption | with_reducible exact ep_lt _ | with_reducible exact sp_its_lt _ _ _ | with_reducible exact tb_l_rt _ | with_reducible exact tb_l_x _ | with_reducible exact tb_l_o0 _ | with_reducible exact tb_l_o1 _ | with_reducible exact tb_l_va _ | with_reducible exact tb_l_ll _ | with_reducible exact tb_l_cf _ | with_reducible exact tb_l_kf _ | omega) (by first | with_reducible assumption | with_reducible exact ep_lt _ | with_reducible exact sp_its_lt _ _ _ | with_reducible exact tb_l_rt _ | with_reducible exact tb_l_x _ | with_reducible exact tb_l_o0 _ | with_reducible exact tb_l_o1 _ | with_reducible exact tb_l_va _ | with_reducible exact tb_l_ll _ | with_reducible exact tb_l_cf _ | with_reducible exact tb_l_kf _ | omega)) rfl ?_
  refine en_callS (As := [.int (nI ((f + h) % 12289)), .int (nI (B * (((f + 12289 - h) % 12289) * ((tb_o0 i) ^ 4 % 12289) % 12289) % 12289))]) (st := []) (st1 := [.int (nI ((((f + h) % 12289) + (B * (((f + 12289 - h) % 12289) * ((tb_o0 i) ^ 4 % 12289) % 12289) % 12289)) % 12289))]) d_Pt_fold_40 k_Fi_plus tw_308 tw_309 rfl (Nat.le_of_ble_eq_true rfl) rfl (Nat.le_of_ble_eq_true rfl) rfl rfl (c_Fi_plus l g _ (ew_SH L) M ((f + h) % 12289) (B * (((f + 12289 - h) % 12289) * ((tb_o0 i) ^ 4 % 12289) % 12289) % 12289) (by first | with_reducible assumption | with_reducible exact ep_lt _ | with_reducible exact sp_its_lt _ _ _ | with_reducible exact tb_l_rt _ | with_reducible exact tb_l_x _ | with_reducible exact tb_l_o0 _ | with_reducible exact tb_l_o1 _ | with_reducible exact tb_l_va _ | with_reducible exact tb_l_ll _ | with_reducible exact tb_l_cf _ | with_reducible exact tb_l_kf _ | omega) (by first | with_reducible assumption | with_reducible exact ep_lt _ | with_reducible exact sp_its_lt _ _ _ | with_reducible exact tb_l_rt _ | with_reducible exact tb_l_x _ | with_reducible exact tb_l_o0 _ | with_reducible exact tb_l_o1 _ | with_reducible exact tb_l_va _ | with_reducible exact tb_l_ll _ | with_reducible exact tb_l_cf _ | with_reducible exact tb_l_kf _ | omega)) rfl ?_
  refine en_istore (ls' := [.ref 4, .int (nI 2), .int (nI i), .int (nI f), .int (nI h), .int (nI B), .int (nI ((tb_o0 i) ^ 4 % 12289)), .int (nI (((f + 12289 - h) % 12289) * ((tb_o0 i) ^ 4 % 12289) % 12289)), .int (nI ((((f + h) % 12289) + (B * (((f + 12289 - h) % 12289) * ((tb_o0 i) ^ 4 % 12289) % 12289) % 12289)) % 12289))]) d_Pt_fold_43 (Nat.le_of_ble_eq_true rfl) rfl ?_
  refine ew_iload d_Pt_fold_45 rfl ?_
  refine ew_sipush (v := nI 6145) d_Pt_fold_47 (by decide) ?_
  refine en_callS (As := [.int (nI ((((f + h) % 12289) + (B * (((f + 12289 - h) % 12289) * ((tb_o0 i) ^ 4 % 12289) % 12289) % 12289)) % 12289)), .int (nI 6145)]) (st := []) (st1 := [.int (nI (((((f + h) % 12289) + (B * (((f + 12289 - h) % 12289) * ((tb_o0 i) ^ 4 % 12289) % 12289) % 12289)) % 12289) * 6145 % 12289))]) d_Pt_fold_50 k_Fi_times tw_32 tw_30 rfl (Nat.le_of_ble_eq_true rfl) rfl (Nat.le_of_ble_eq_true rfl) rfl rfl (c_Fi_times l g _ (ew_SH L) M ((((f + h) % 12289) + (B * (((f + 12289 - h) % 12289) * ((tb_o0 i) ^ 4 % 12289) % 12289) % 12289)) % 12289) 6145 (by first | with_reducible assumption | with_reducible exact ep_lt _ | with_reducible exact sp_its_lt _ _ _ | with_reducible exact tb_l_rt _ | with_reducible exact tb_l_x _ | with_reducible exact tb_l_o0 _ | with_reducible exact tb_l_o1 _ | with_reducible exact tb_l_va _ | with_reducible exact tb_l_ll _ | with_reducible exact tb_l_cf _ | with_reducible exact tb_l_kf _ | omega) (by first | with_reducible assumption | with_reducible exact ep_lt _ | with_reducible exact sp_its_lt _ _ _ | with_reducible exact tb_l_rt _ | with_reducible exact tb_l_x _ | with_reducible exact tb_l_o0 _ | with_reducible exact tb_l_o1 _ | with_reducible exact tb_l_va _ | with_reducible exact tb_l_ll _ | with_reducible exact tb_l_cf _ | with_reducible exact tb_l_kf _ | omega)) rfl ?_
  exact ew_iret d_Pt_fold_53 rfl (⟨rfl, rfl, rfl⟩)
set_option maxRecDepth 100000 in
theorem c_Ta_get0 (l : Launch) (g : ew_G) (d L : Nat) (M : ew_M) (r : Nat) (hr : r < 8) :
    Ew l g d 0 0 m_Ta_get 0 [.ref 17, .int (nI 0), .int (nI r)] [] (ew_SH L) M (ew_q (some (.int (M 19 r))) (ew_SH L) M) := by
  refine ew_aload_n d_Ta_get_0 rfl ?_
  refine ew_getr (ci := 3) (f := 1) d_Ta_get_1 rfl rfl rfl tw_96 ?_
  refine ew_iload_n d_Ta_get_4 rfl ?_
  refine ew_aald (j := 0) d_Ta_get_5 rfl (by decide) rfl rfl (by decide) ?_
  refine ew_iload_n d_Ta_get_6 rfl ?_
  refine ew_iald (j := r) d_Ta_get_7 rfl (rfl) (by first | with_reducible assumption | with_reducible exact ep_lt _ | with_reducible exact sp_its_lt _ _ _ | with_reducible exact tb_l_rt _ | with_reducible exact tb_l_x _ | with_reducible exact tb_l_o0 _ | with_reducible exact tb_l_o1 _ | with_reducible exact tb_l_va _ | with_reducible exact tb_l_ll _ | with_reducible exact tb_l_cf _ | with_reducible exact tb_l_kf _ | omega) (by decide) ?_
  exact ew_iret d_Ta_get_8 rfl (⟨rfl, rfl, rfl⟩)
set_option maxRecDepth 100000 in
theorem c_Ta_put0 (l : Launch) (g : ew_G) (d L : Nat) (M : ew_M) (r : Nat) (v : Int32) (hr : r < 8) :
    Ew l g d 0 0 m_Ta_put 0 [.ref 17, .int (nI 0), .int (nI r), .int v] [] (ew_SH L) M (ew_q (none) (ew_SH L) (ew_w M 19 r v)) := by
  refine ew_aload_n d_Ta_put_0 rfl ?_
  refine ew_getr (ci := 3) (f := 1) d_Ta_put_1 rfl rfl rfl tw_96 ?_
  refine ew_iload_n d_Ta_put_4 rfl ?_
  refine ew_aald (j := 0) d_Ta_put_5 rfl (by decide) rfl rfl (by decide) ?_
  refine ew_iload_n d_Ta_put_6 rfl ?_
  refine ew_iload_n d_Ta_put_7 rfl ?_
  refine ew_iast (j := r) d_Ta_put_8 rfl (by decide) (rfl) (by first | with_reducible assumption | with_reducible exact ep_lt _ | with_reducible exact sp_its_lt _ _ _ | with_reducible exact tb_l_rt _ | with_reducible exact tb_l_x _ | with_reducible exact tb_l_o0 _ | with_reducible exact tb_l_o1 _ | with_reducible exact tb_l_va _ | with_reducible exact tb_l_ll _ | with_reducible exact tb_l_cf _ | with_reducible exact tb_l_kf _ | omega) (by decide) ?_
  exact ew_ret d_Ta_put_9 rfl (⟨rfl, rfl, rfl⟩)
set_option maxRecDepth 100000 in
theorem c_Ta_polynomial0 (l : Launch) (g : ew_G) (d L : Nat) (M : ew_M) (hT : sp_tab M) (f : Nat → Nat) (hf : ∀ r, r < 8 → M 19 r = nI (f r) ∧ f r < 12289) (i : Nat) (hi : i < 32) :
    Ew l g (d + 2) 0 0 m_Ta_polynomial 0 [.ref 17, .int (nI 0), .int (nI i)] [] (ew_SH L) M (ew_q (some (.int (nI (sp_it f i)))) (ew_SH L) M) := by
  refine ew_aload_n d_Ta_polynomial_0 rfl ?_
  refine ew_getr (ci := 3) (f := 0) d_Ta_polynomial_1 rfl rfl rfl tw_95 ?_
  refine ew_aload_n d_Ta_polynomial_4 rfl ?_
  refine ew_getr (ci := 3) (f := 1) d_Ta_polynomial_5 rfl rfl rfl tw_96 ?_
  refine ew_iload_n d_Ta_polynomial_8 rfl ?_
  refine ew_aald (j := 0) d_Ta_polynomial_9 rfl (by decide) rfl rfl (by decide) ?_
  refine ew_iload_n d_Ta_polynomial_10 rfl ?_
  refine en_callV (As := [.ref 19, .int (nI i)]) (i := 4) (ci := 1) (st := []) (st1 := [.int (nI (sp_it f i))]) d_Ta_polynomial_11 k_Pt_interpolate rfl rfl tw_301 tw_302 tw_303 rfl (Nat.le_of_ble_eq_true rfl) rfl (Nat.le_of_ble_eq_true rfl) rfl rfl (c_Pt_interpolate19 l g _ L M (hT) f hf i (by first | with_reducible assumption | with_reducible exact ep_lt _ | with_reducible exact sp_its_lt _ _ _ | with_reducible exact tb_l_rt _ | with_reducible exact tb_l_x _ | with_reducible exact tb_l_o0 _ | with_reducible exact tb_l_o1 _ | with_reducible exact tb_l_va _ | with_reducible exact tb_l_ll _ | with_reducible exact tb_l_cf _ | with_reducible exact tb_l_kf _ | omega)) rfl ?_
  exact ew_iret d_Ta_polynomial_14 rfl (⟨rfl, rfl, rfl⟩)
set_option maxRecDepth 100000 in
theorem c_Ta_get1 (l : Launch) (g : ew_G) (d L : Nat) (M : ew_M) (r : Nat) (hr : r < 8) :
    Ew l g d 0 0 m_Ta_get 0 [.ref 17, .int (nI 1), .int (nI r)] [] (ew_SH L) M (ew_q (some (.int (M 20 r))) (ew_SH L) M) := by
  refine ew_aload_n d_Ta_get_0 rfl ?_
  refine ew_getr (ci := 3) (f := 1) d_Ta_get_1 rfl rfl rfl tw_96 ?_
  refine ew_iload_n d_Ta_get_4 rfl ?_
  refine ew_aald (j := 1) d_Ta_get_5 rfl (by decide) rfl rfl (by decide) ?_
  refine ew_iload_n d_Ta_get_6 rfl ?_
  refine ew_iald (j := r) d_Ta_get_7 rfl (rfl) (by first | with_reducible assumption | with_reducible exact ep_lt _ | with_reducible exact sp_its_lt _ _ _ | with_reducible exact tb_l_rt _ | with_reducible exact tb_l_x _ | with_reducible exact tb_l_o0 _ | with_reducible exact tb_l_o1 _ | with_reducible exact tb_l_va _ | with_reducible exact tb_l_ll _ | with_reducible exact tb_l_cf _ | with_reducible exact tb_l_kf _ | omega) (by decide) ?_
  exact ew_iret d_Ta_get_8 rfl (⟨rfl, rfl, rfl⟩)
set_option maxRecDepth 100000 in
theorem c_Ta_put1 (l : Launch) (g : ew_G) (d L : Nat) (M : ew_M) (r : Nat) (v : Int32) (hr : r < 8) :
    Ew l g d 0 0 m_Ta_put 0 [.ref 17, .int (nI 1), .int (nI r), .int v] [] (ew_SH L) M (ew_q (none) (ew_SH L) (ew_w M 20 r v)) := by
  refine ew_aload_n d_Ta_put_0 rfl ?_
  refine ew_getr (ci := 3) (f := 1) d_Ta_put_1 rfl rfl rfl tw_96 ?_
  refine ew_iload_n d_Ta_put_4 rfl ?_
  refine ew_aald (j := 1) d_Ta_put_5 rfl (by decide) rfl rfl (by decide) ?_
  refine ew_iload_n d_Ta_put_6 rfl ?_
  refine ew_iload_n d_Ta_put_7 rfl ?_
  refine ew_iast (j := r) d_Ta_put_8 rfl (by decide) (rfl) (by first | with_reducible assumption | with_reducible exact ep_lt _ | with_reducible exact sp_its_lt _ _ _ | with_reducible exact tb_l_rt _ | with_reducible exact tb_l_x _ | with_reducible exact tb_l_o0 _ | with_reducible exact tb_l_o1 _ | with_reducible exact tb_l_va _ | with_reducible exact tb_l_ll _ | with_reducible exact tb_l_cf _ | with_reducible exact tb_l_kf _ | omega) (by decide) ?_
  exact ew_ret d_Ta_put_9 rfl (⟨rfl, rfl, rfl⟩)
set_option maxRecDepth 100000 in
theorem c_Ta_polynomial1 (l : Launch) (g : ew_G) (d L : Nat) (M : ew_M) (hT : sp_tab M) (f : Nat → Nat) (hf : ∀ r, r < 8 → M 20 r = nI (f r) ∧ f r < 12289) (i : Nat) (hi : i < 32) :
    Ew l g (d + 2) 0 0 m_Ta_polynomial 0 [.ref 17, .int (nI 1), .int (nI i)] [] (ew_SH L) M (ew_q (some (.int (nI (sp_it f i)))) (ew_SH L) M) := by
  refine ew_aload_n d_Ta_polynomial_0 rfl ?_
  refine ew_getr (ci := 3) (f := 0) d_Ta_polynomial_1 rfl rfl rfl tw_95 ?_
  refine ew_aload_n d_Ta_polynomial_4 rfl ?_
  refine ew_getr (ci := 3) (f := 1) d_Ta_polynomial_5 rfl rfl rfl tw_96 ?_
  refine ew_iload_n d_Ta_polynomial_8 rfl ?_
  refine ew_aald (j := 1) d_Ta_polynomial_9 rfl (by decide) rfl rfl (by decide) ?_
  refine ew_iload_n d_Ta_polynomial_10 rfl ?_
  refine en_callV (As := [.ref 20, .int (nI i)]) (i := 4) (ci := 1) (st := []) (st1 := [.int (nI (sp_it f i))]) d_Ta_polynomial_11 k_Pt_interpolate rfl rfl tw_301 tw_302 tw_303 rfl (Nat.le_of_ble_eq_true rfl) rfl (Nat.le_of_ble_eq_true rfl) rfl rfl (c_Pt_interpolate20 l g _ L M (hT) f hf i (by first | with_reducible assumption | with_reducible exact ep_lt _ | with_reducible exact sp_its_lt _ _ _ | with_reducible exact tb_l_rt _ | with_reducible exact tb_l_x _ | with_reducible exact tb_l_o0 _ | with_reducible exact tb_l_o1 _ | with_reducible exact tb_l_va _ | with_reducible exact tb_l_ll _ | with_reducible exact tb_l_cf _ | with_reducible exact tb_l_kf _ | omega)) rfl ?_
  exact ew_iret d_Ta_polynomial_14 rfl (⟨rfl, rfl, rfl⟩)
set_option maxRecDepth 100000 in
theorem c_Mo_w (l : Launch) (g : ew_G) (d L : Nat) (M : ew_M) (hR : sp_rts M) (e : Nat) (he : e < 2 ^ 31) :
    Ew l g d 0 0 m_Mo_w 0 [.ref 47, .int (nI e)] [] (ew_SH L) M (ew_q (some (.int (nI (tb_rt (e % 32))))) (ew_SH L) M) := by
  refine ew_aload_n d_Mo_w_0 rfl ?_
  refine ew_getr (ci := 9) (f := 19) d_Mo_w_1 rfl rfl rfl tw_613 ?_
  refine ew_iload_n d_Mo_w_4 rfl ?_
  refine ew_bipush (v := nI 32) d_Mo_w_5 (by decide) ?_
  refine en_irem d_Mo_w_7 (by first | with_reducible assumption | with_reducible exact ep_lt _ | with_reducible exact sp_its_lt _ _ _ | with_reducible exact tb_l_rt _ | with_reducible exact tb_l_x _ | with_reducible exact tb_l_o0 _ | with_reducible exact tb_l_o1 _ | with_reducible exact tb_l_va _ | with_reducible exact tb_l_ll _ | with_reducible exact tb_l_cf _ | with_reducible exact tb_l_kf _ | omega) (by decide) (by decide) ?_
  refine ew_iald (j := e % 32) d_Mo_w_8 rfl (rfl) (by first | with_reducible assumption | with_reducible exact ep_lt _ | with_reducible exact sp_its_lt _ _ _ | with_reducible exact tb_l_rt _ | with_reducible exact tb_l_x _ | with_reducible exact tb_l_o0 _ | with_reducible exact tb_l_o1 _ | with_reducible exact tb_l_va _ | with_reducible exact tb_l_ll _ | with_reducible exact tb_l_cf _ | with_reducible exact tb_l_kf _ | omega) (by decide) ?_
  refine en_eq (st' := [.int (nI (tb_rt (e % 32)))]) rfl (by rw [show (M 60 (e % 32)) = (nI (tb_rt (e % 32))) from hR _ (by first | with_reducible assumption | with_reducible exact ep_lt _ | with_reducible exact sp_its_lt _ _ _ | with_reducible exact tb_l_rt _ | with_reducible exact tb_l_x _ | with_reducible exact tb_l_o0 _ | with_reducible exact tb_l_o1 _ | with_reducible exact tb_l_va _ | with_reducible exact tb_l_ll _ | with_reducible exact tb_l_cf _ | with_reducible exact tb_l_kf _ | omega)]) rfl ?_
  exact ew_iret d_Mo_w_9 rfl (⟨rfl, rfl, rfl⟩)
set_option maxRecDepth 100000 in
theorem c_Mo_x (l : Launch) (g : ew_G) (d L : Nat) (M : ew_M) (hR : sp_rts M) (i : Nat) (hi : i < 32) :
    Ew l g (d + 1) 0 0 m_Mo_x 0 [.ref 47, .int (nI i)] [] (ew_SH L) M (ew_q (some (.int (nI (tb_x i)))) (ew_SH L) M) := by
  refine ew_bipush (v := nI 11) d_Mo_x_0 (by decide) ?_
  refine ew_aload_n d_Mo_x_2 rfl ?_
  refine ew_iload_n d_Mo_x_3 rfl ?_
  refine ew_bipush (v := nI 32) d_Mo_x_4 (by decide) ?_
  refine en_irem d_Mo_x_6 (by first | with_reducible assumption | with_reducible exact ep_lt _ | with_reducible exact sp_its_lt _ _ _ | with_reducible exact tb_l_rt _ | with_reducible exact tb_l_x _ | with_reducible exact tb_l_o0 _ | with_reducible exact tb_l_o1 _ | with_reducible exact tb_l_va _ | with_reducible exact tb_l_ll _ | with_reducible exact tb_l_cf _ | with_reducible exact tb_l_kf _ | omega) (by decide) (by decide) ?_
  refine en_callV (As := [.int (nI (i % 32))]) (i := 47) (ci := 9) (st := [.int (nI 11)]) (st1 := [.int (nI (tb_rt ((i % 32) % 32))), .int (nI 11)]) d_Mo_x_7 k_Mo_w rfl rfl tw_704 tw_706 tp_28 rfl (Nat.le_of_ble_eq_true rfl) rfl (Nat.le_of_ble_eq_true rfl) rfl rfl (c_Mo_w l g _ L M (hR) (i % 32) (by first | with_reducible assumption | with_reducible exact ep_lt _ | with_reducible exact sp_its_lt _ _ _ | with_reducible exact tb_l_rt _ | with_reducible exact tb_l_x _ | with_reducible exact tb_l_o0 _ | with_reducible exact tb_l_o1 _ | with_reducible exact tb_l_va _ | with_reducible exact tb_l_ll _ | with_reducible exact tb_l_cf _ | with_reducible exact tb_l_kf _ | omega)) rfl ?_
  refine en_callS (As := [.int (nI 11), .int (nI (tb_rt ((i % 32) % 32)))]) (st := []) (st1 := [.int (nI (11 * (tb_rt ((i % 32) % 32)) % 12289))]) d_Mo_x_10 k_Mo_times tw_592 tw_593 rfl (Nat.le_of_ble_eq_true rfl) rfl (Nat.le_of_ble_eq_true rfl) rfl rfl (c_Mo_times l g _ (ew_SH L) M 11 (tb_rt ((i % 32) % 32)) (by first | with_reducible exact tb_l_rt _ | decide) (by first | with_reducible exact tb_l_rt _ | decide)) rfl ?_
  exact ew_iret d_Mo_x_13 rfl (⟨by rw [Nat.mod_mod, Nat.mod_eq_of_lt hi]; rfl, rfl, rfl⟩)
set_option maxRecDepth 100000 in
theorem c_Mo_h (l : Launch) (g : ew_G) (d L : Nat) (M : ew_M) (hR : sp_rts M) (r : Nat) (hr : r < 8) :
    Ew l g (d + 1) 0 0 m_Mo_h 0 [.ref 47, .int (nI r)] [] (ew_SH L) M (ew_q (some (.int (nI (tb_rt (4 * r))))) (ew_SH L) M) := by
  refine ew_aload_n d_Mo_h_0 rfl ?_
  refine ew_iconst (v := nI 4) d_Mo_h_1 (by decide) ?_
  refine ew_iload_n d_Mo_h_2 rfl ?_
  refine en_imul d_Mo_h_3 ?_
  refine en_callV (As := [.int (nI (4 * r))]) (i := 47) (ci := 9) (st := []) (st1 := [.int (nI (tb_rt ((4 * r) % 32)))]) d_Mo_h_4 k_Mo_w rfl rfl tw_704 tw_706 tp_28 rfl (Nat.le_of_ble_eq_true rfl) rfl (Nat.le_of_ble_eq_true rfl) rfl rfl (c_Mo_w l g _ L M (hR) (4 * r) (by first | with_reducible assumption | with_reducible exact ep_lt _ | with_reducible exact sp_its_lt _ _ _ | with_reducible exact tb_l_rt _ | with_reducible exact tb_l_x _ | with_reducible exact tb_l_o0 _ | with_reducible exact tb_l_o1 _ | with_reducible exact tb_l_va _ | with_reducible exact tb_l_ll _ | with_reducible exact tb_l_cf _ | with_reducible exact tb_l_kf _ | omega)) rfl ?_
  exact ew_iret d_Mo_h_7 rfl (⟨by rw [Nat.mod_eq_of_lt (by omega)], rfl, rfl⟩)
end
section
abbrev sp_R : Type := (Nat → Nat) × (Nat → Nat → Nat) × (Nat → Nat → Nat) × (Nat → Nat → Nat) × Nat × (Nat → Nat) × (Nat → Nat) × (Nat → Nat)
def r_cn (ρ : sp_R) : Nat → Nat := ρ.1
def r_tk (ρ : sp_R) : Nat → Nat → Nat := ρ.2.1
def r_tu (ρ : sp_R) : Nat → Nat → Nat := ρ.2.2.1
def r_tv (ρ : sp_R) : Nat → Nat → Nat := ρ.2.2.2.1
def r_bn (ρ : sp_R) : Nat := ρ.2.2.2.2.1
def r_bc (ρ : sp_R) : Nat → Nat := ρ.2.2.2.2.2.1
def r_br (ρ : sp_R) : Nat → Nat := ρ.2.2.2.2.2.2.1
def r_bv (ρ : sp_R) : Nat → Nat := ρ.2.2.2.2.2.2.2
def sp_okR (ρ : sp_R) : Prop := (∀ c, c < 2 → r_cn ρ c ≤ 6) ∧ (∀ c t, c < 2 → t < r_cn ρ c → r_tk ρ c t < 12289 ∧ r_tu ρ c t < 5 ∧ r_tv ρ c t < 5) ∧ r_bn ρ ≤ 4 ∧ ∀ b, b < r_bn ρ → r_bc ρ b < 2 ∧ r_br ρ b < 8 ∧ r_bv ρ b < 12289
/-- the rules as the class has them -/
def sp_ru (ρ : sp_R) (M : ew_M) : Prop := sp_okR ρ ∧ (∀ c, c < 2 → M 11 c = nI (r_cn ρ c)) ∧ (∀ t, t < r_cn ρ 0 → M 13 (3 * t) = nI (r_tk ρ 0 t) ∧ M 13 (3 * t + 1) = nI (r_tu ρ 0 t) ∧ M 13 (3 * t + 2) = nI (r_tv ρ 0 t)) ∧ (∀ t, t < r_cn ρ 1 → M 14 (3 * t) = nI (r_tk ρ 1 t) ∧ M 14 (3 * t + 1) = nI (r_tu ρ 1 t) ∧ M 14 (3 * t + 2) = nI (r_tv ρ 1 t)) ∧ M 10 4 = nI (r_bn ρ) ∧ ∀ b, b < r_bn ρ → M 15 (3 * b) = nI (r_bc ρ b) ∧ M 15 (3 * b + 1) = nI (r_br ρ b) ∧ M 15 (3 * b + 2) = nI (r_bv ρ b)
/-- the rules as the reference has them -/
def sp_rm (ρ : sp_R) (M : ew_M) : Prop := sp_okR ρ ∧ (∀ c, c < 2 → M 49 c = nI (r_cn ρ c)) ∧ (∀ c t, c < 2 → t < r_cn ρ c → M 50 (6 * c + t) = nI (r_tk ρ c t) ∧ M 51 (6 * c + t) = nI (r_tu ρ c t) ∧ M 52 (6 * c + t) = nI (r_tv ρ c t)) ∧ M 47 5 = nI (r_bn ρ) ∧ ∀ b, b < r_bn ρ → M 53 b = nI (r_bc ρ b) ∧ M 54 b = nI (r_br ρ b) ∧ M 55 b = nI (r_bv ρ b)
def sp_cc (ρ : sp_R) : Nat := if 0 < r_cn ρ 1 then 2 else if 0 < r_cn ρ 0 then 1 else 0
def sp_ts (ρ : sp_R) (c : Nat) (le : Nat → Nat) : Nat → Nat
  | 0 => 0
  | t + 1 => (sp_ts ρ c le t + r_tk ρ c t * (le (r_tu ρ c t) * le (r_tv ρ c t) % 12289) % 12289) % 12289
theorem sp_ts_lt (ρ : sp_R) (c : Nat) (le : Nat → Nat) : ∀ t : Nat, sp_ts ρ c le t < 12289
  | 0 => Nat.zero_lt_succ _
  | t + 1 => ep_lt _
def sp_w (A : Nat) : Nat → Nat
  | 0 => 1
  | j + 1 => sp_w A j * A % 12289
theorem sp_w_lt (A : Nat) : ∀ j : Nat, sp_w A j < 12289
  | 0 => Nat.succ_lt_succ (Nat.zero_lt_succ _)
  | j + 1 => ep_lt _
def sp_cs (ρ : sp_R) (le : Nat → Nat) (i A : Nat) : Nat → Nat
  | 0 => 0
  | c + 1 => (sp_cs ρ le i A c + sp_w A c * (sp_ts ρ c le (r_cn ρ c) * tb_cf i % 12289) % 12289) % 12289
theorem sp_cs_lt (ρ : sp_R) (le : Nat → Nat) (i A : Nat) : ∀ c : Nat, sp_cs ρ le i A c < 12289
  | 0 => Nat.zero_lt_succ _
  | c + 1 => ep_lt _
def sp_cb (ρ : sp_R) (le : Nat → Nat) (i A : Nat) : Nat → Nat
  | 0 => sp_cs ρ le i A (sp_cc ρ)
  | b + 1 => (sp_cb ρ le i A b + sp_w A (sp_cc ρ + b) * (((le (1 + r_bc ρ b) + 12289 - r_bv ρ b) % 12289) * sp_bf i (r_br ρ b) % 12289) % 12289) % 12289
theorem sp_cb_lt (ρ : sp_R) (le : Nat → Nat) (i A : Nat) : ∀ b : Nat, sp_cb ρ le i A b < 12289
  | 0 => sp_cs_lt _ _ _ _ _
  | b + 1 => ep_lt _
def sp_com (ρ : sp_R) (le : Nat → Nat) (i A : Nat) : Nat := sp_cb ρ le i A (r_bn ρ)
def sp_le (a b c d : Nat) : Nat → Nat := fun j => match j with
  | 0 => 1
  | 1 => a
  | 2 => b
  | 3 => c
  | _ => d
def sp_hle (le : Nat → Nat) (f : Nat → Int32) : Prop := ∀ j, j < 5 → f j = nI (le j) ∧ le j < 12289
def sp_rd (M : ew_M) (k : Nat) (a b c d : Int32) : ew_M := ew_w (ew_w (ew_w (ew_w M k 1 a) k 2 b) k 3 c) k 4 d
theorem sp_rd_ne {M : ew_M} {k q : Nat} {a b c d : Int32} (h : q ≠ k) : sp_rd M k a b c d q = M q := by
  unfold sp_rd
  rw [ew_w_ne h, ew_w_ne h, ew_w_ne h, ew_w_ne h]
theorem sp_rd_le {M : ew_M} {k a b c d : Nat} (h0 : M k 0 = nI 1) (ha : a < 12289) (hb : b < 12289) (hc : c < 12289) (hd : d < 12289) : sp_hle (sp_le a b c d) (sp_rd M k (nI a) (nI b) (nI c) (nI d) k) := by
  intro j hj
  unfold sp_rd
  rw [ew_w_self, ew_w_self, ew_w_self, ew_w_self]
  rcases (show j = 0 ∨ j = 1 ∨ j = 2 ∨ j = 3 ∨ j = 4 by omega) with rfl | rfl | rfl | rfl | rfl
  · exact ⟨by simp [upd, h0, sp_le], by show (1 : Nat) < 12289; decide⟩
  · exact ⟨by simp [upd, sp_le], ha⟩
  · exact ⟨by simp [upd, sp_le], hb⟩
  · exact ⟨by simp [upd, sp_le], hc⟩
  · exact ⟨by simp [upd, sp_le], hd⟩
theorem sp_rd_0 {M : ew_M} {k : Nat} {a b c d : Int32} : sp_rd M k a b c d k 0 = M k 0 := by
  unfold sp_rd
  rw [ew_w_self, ew_w_self, ew_w_self, ew_w_self]
  simp [upd]
def sp_tp (f : Nat → Int32) (t : Int32) : Nat → Int32
  | 0 => t
  | i + 1 => sp_mix (sp_tp f t i) (f i)
theorem ew_ww {M : ew_M} {i j : Nat} {x y : Int32} : ew_w (ew_w M i j x) i j y = ew_w M i j y := by
  funext q r
  unfold ew_w ew_up
  by_cases h : q = i
  · subst h
    simp only [if_true]
    unfold upd
    by_cases hr : r = j <;> simp [hr]
  · simp [h]
theorem ew_w_at {M : ew_M} {i j : Nat} {x : Int32} : ew_w M i j x i j = x := by
  rw [ew_w_self]
  simp [upd]
theorem ew_w_j {M : ew_M} {i j r : Nat} {x : Int32} (h : r ≠ j) : ew_w M i j x i r = M i r := by
  rw [ew_w_self]
  simp [upd, h]
def sp_ch (t : Int32) : Nat := t.toBitVec.toNat % 2 ^ 31 % 12289
def sp_po (t : Int32) : Nat := t.toBitVec.toNat % 2 ^ 31 % 16
theorem sp_ch_lt (t : Int32) : sp_ch t < 12289 := ep_lt _
theorem sp_po_lt (t : Int32) : sp_po t < 16 := Nat.mod_lt _ (by decide)
theorem sp_dr (t : Int32) {n : Nat} (h0 : 0 < n) (hn : n < 2 ^ 31) : (t &&& nI 2147483647) - (t &&& nI 2147483647) / nI n * nI n = nI (t.toBitVec.toNat % 2 ^ 31 % n) := by
  rw [pk_and t 31 (by decide), pk_rem (Nat.mod_lt _ (by decide)) h0 hn]
theorem sp_bf_lt (i r : Nat) : sp_bf i r < 12289 := ep_lt _
set_option maxRecDepth 100000 in
theorem c_Ru_boundColumn (l : Launch) (g : ew_G) (d L : Nat) (M : ew_M) (ρ : sp_R) (hr : sp_ru ρ M) (b : Nat) (hb : b < r_bn ρ) :
    Ew l g d 0 0 m_Ru_boundColumn 0 [.ref 10, .int (nI b)] [] (ew_SH L) M (ew_q (some (.int (nI (r_bc ρ b)))) (ew_SH L) M) := by
  refine ew_aload_n d_Ru_boundColumn_0 rfl ?_
  refine ew_getr (ci := 2) (f := 3) d_Ru_boundColumn_1 rfl rfl rfl tw_72 ?_
  refine ew_iconst (v := nI 3) d_Ru_boundColumn_4 (by decide) ?_
  refine ew_iload_n d_Ru_boundColumn_5 rfl ?_
  refine en_imul d_Ru_boundColumn_6 ?_
  refine ew_iald (j := 3 * b) d_Ru_boundColumn_7 rfl (rfl) (by have := hr.1.2.2.1; omega) (by decide) ?_
  refine en_eq (st' := [.int (nI (r_bc ρ b))]) rfl (by rw [show (M 15 (3 * b)) = (nI (r_bc ρ b)) from (hr.2.2.2.2.2 b hb).1]) rfl ?_
  exact ew_iret d_Ru_boundColumn_8 rfl (⟨rfl, rfl, rfl⟩)
set_option maxRecDepth 100000 in
theorem c_Ru_boundRow (l : Launch) (g : ew_G) (d L : Nat) (M : ew_M) (ρ : sp_R) (hr : sp_ru ρ M) (b : Nat) (hb : b < r_bn ρ) :
    Ew l g d 0 0 m_Ru_boundRow 0 [.ref 10, .int (nI b)] [] (ew_SH L) M (ew_q (some (.int (nI (r_br ρ b)))) (ew_SH L) M) := by
  refine ew_aload_n d_Ru_boundRow_0 rfl ?_
  refine ew_getr (ci := 2) (f := 3) d_Ru_boundRow_1 rfl rfl rfl tw_72 ?_
  refine ew_iconst (v := nI 3) d_Ru_boundRow_4 (by decide) ?_
  refine ew_iload_n d_Ru_boundRow_5 rfl ?_
  refine en_imul d_Ru_boundRow_6 ?_
  refine ew_iconst (v := nI 1) d_Ru_boundRow_7 (by decide) ?_
  refine en_iadd d_Ru_boundRow_8 ?_
  refine ew_iald (j := (3 * b) + 1) d_Ru_boundRow_9 rfl (rfl) (by have := hr.1.2.2.1; omega) (by decide) ?_
  refine en_eq (st' := [.int (nI (r_br ρ b))]) rfl (by rw [show (M 15 ((3 * b) + 1)) = (nI (r_br ρ b)) from (hr.2.2.2.2.2 b hb).2.1]) rfl ?_
  exact ew_iret d_Ru_boundRow_10 rfl (⟨rfl, rfl, rfl⟩)
set_option maxRecDepth 100000 in
theorem c_Ru_boundValue (l : Launch) (g : ew_G) (d L : Nat) (M : ew_M) (ρ : sp_R) (hr : sp_ru ρ M) (b : Nat) (hb : b < r_bn ρ) :
    Ew l g d 0 0 m_Ru_boundValue 0 [.ref 10, .int (nI b)] [] (ew_SH L) M (ew_q (some (.int (nI (r_bv ρ b)))) (ew_SH L) M) := by
  refine ew_aload_n d_Ru_boundValue_0 rfl ?_
  refine ew_getr (ci := 2) (f := 3) d_Ru_boundValue_1 rfl rfl rfl tw_72 ?_
  refine ew_iconst (v := nI 3) d_Ru_boundValue_4 (by decide) ?_
  refine ew_iload_n d_Ru_boundValue_5 rfl ?_
  refine en_imul d_Ru_boundValue_6 ?_
  refine ew_iconst (v := nI 2) d_Ru_boundValue_7 (by decide) ?_
  refine en_iadd d_Ru_boundValue_8 ?_
  refine ew_iald (j := (3 * b) + 2) d_Ru_boundValue_9 rfl (rfl) (by have := hr.1.2.2.1; omega) (by decide) ?_
  refine en_eq (st' := [.int (nI (r_bv ρ b))]) rfl (by rw [show (M 15 ((3 * b) + 2)) = (nI (r_bv ρ b)) from (hr.2.2.2.2.2 b hb).2.2]) rfl ?_
  exact ew_iret d_Ru_boundValue_10 rfl (⟨rfl, rfl, rfl⟩)
set_option maxRecDepth 100000 in
theorem c_Ru_read (l : Launch) (g : ew_G) (d L : Nat) (M : ew_M) (a b c e : Int32) :
    Ew l g d 0 0 m_Ru_read 0 [.ref 10, .int a, .int b, .int c, .int e] [] (ew_SH L) M (ew_q (none) (ew_SH L) (sp_rd M 16 a b c e)) := by
  refine ew_aload_n d_Ru_read_0 rfl ?_
  refine ew_getr (ci := 2) (f := 5) d_Ru_read_1 rfl rfl rfl tw_74 ?_
  refine ew_iconst (v := nI 1) d_Ru_read_4 (by decide) ?_
  refine ew_iload_n d_Ru_read_5 rfl ?_
  refine ew_iast (j := 1) d_Ru_read_6 rfl (by decide) (rfl) (by decide) (by decide) ?_
  refine ew_aload_n d_Ru_read_7 rfl ?_
  refine ew_getr (ci := 2) (f := 5) d_Ru_read_8 rfl rfl rfl tw_74 ?_
  refine ew_iconst (v := nI 2) d_Ru_read_11 (by decide) ?_
  refine ew_iload_n d_Ru_read_12 rfl ?_
  refine ew_iast (j := 2) d_Ru_read_13 rfl (by decide) (rfl) (by decide) (by decide) ?_
  refine ew_aload_n d_Ru_read_14 rfl ?_
  refine ew_getr (ci := 2) (f := 5) d_Ru_read_15 rfl rfl rfl tw_74 ?_
  refine ew_iconst (v := nI 3) d_Ru_read_18 (by decide) ?_
  refine ew_iload_n d_Ru_read_19 rfl ?_
  refine ew_iast (j := 3) d_Ru_read_20 rfl (by decide) (rfl) (by decide) (by decide) ?_
  refine ew_aload_n d_Ru_read_21 rfl ?_
  refine ew_getr (ci := 2) (f := 5) d_Ru_read_22 rfl rfl rfl tw_74 ?_
  refine ew_iconst (v := nI 4) d_Ru_read_25 (by decide) ?_
  refine ew_iload d_Ru_read_26 rfl ?_
  refine ew_iast (j := 4) d_Ru_read_28 rfl (by decide) (rfl) (by decide) (by decide) ?_
  exact ew_ret d_Ru_read_29 rfl (⟨rfl, rfl, rfl⟩)
set_option maxRecDepth 100000 in
theorem c_Ru_constraintCount (l : Launch) (g : ew_G) (d L : Nat) (M : ew_M) (ρ : sp_R) (hr : sp_ru ρ M) :
    Ew l g d 0 0 m_Ru_constraintCount 0 [.ref 10] [] (ew_SH L) M (ew_q (some (.int (nI (sp_cc ρ)))) (ew_SH L) M) := by
  refine ew_aload_n d_Ru_constraintCount_0 rfl ?_
  refine ew_getr (ci := 2) (f := 1) d_Ru_constraintCount_1 rfl rfl rfl tw_70 ?_
  refine ew_iconst (v := nI 1) d_Ru_constraintCount_4 (by decide) ?_
  refine ew_iald (j := 1) d_Ru_constraintCount_5 rfl (rfl) (by decide) (by decide) ?_
  refine en_eq (st' := [.int (nI (r_cn ρ 1))]) rfl (by rw [show (M 11 1) = (nI (r_cn ρ 1)) from hr.2.1 1 (by decide)]) rfl ?_
  refine en_if_le (tgt := 11) d_Ru_constraintCount_6 (by decide) (by have := hr.1.1 0 (by decide); have := hr.1.1 1 (by decide); omega) (fun h6 => ?_) (fun h6 => ?_)
  · refine ew_aload_n d_Ru_constraintCount_11 rfl ?_
    refine ew_getr (ci := 2) (f := 1) d_Ru_constraintCount_12 rfl rfl rfl tw_70 ?_
    refine ew_iconst (v := nI 0) d_Ru_constraintCount_15 (by decide) ?_
    refine ew_iald (j := 0) d_Ru_constraintCount_16 rfl (rfl) (by decide) (by decide) ?_
    refine en_eq (st' := [.int (nI (r_cn ρ 0))]) rfl (by rw [show (M 11 0) = (nI (r_cn ρ 0)) from hr.2.1 0 (by decide)]) rfl ?_
    refine en_if_le (tgt := 24) d_Ru_constraintCount_17 (by decide) (by have := hr.1.1 0 (by decide); have := hr.1.1 1 (by decide); omega) (fun h17 => ?_) (fun h17 => ?_)
    · refine ew_iconst (v := nI 0) d_Ru_constraintCount_24 (by decide) ?_
      exact ew_iret d_Ru_constraintCount_25 rfl (⟨by rw [show sp_cc ρ = 0 by unfold sp_cc; rw [if_neg (by omega)]; first | exact if_pos h17 | exact if_neg (by omega)], rfl, rfl⟩)
    · refine ew_iconst (v := nI 1) d_Ru_constraintCount_20 (by decide) ?_
      refine ew_goto (tgt := 25) d_Ru_constraintCount_21 (by decide) ?_
      exact ew_iret d_Ru_constraintCount_25 rfl (⟨by rw [show sp_cc ρ = 1 by unfold sp_cc; rw [if_neg (by omega)]; first | exact if_pos h17 | exact if_neg (by omega)], rfl, rfl⟩)
  · refine ew_iconst (v := nI 2) d_Ru_constraintCount_9 (by decide) ?_
    exact ew_iret d_Ru_constraintCount_10 rfl (⟨by rw [show sp_cc ρ = 2 from if_pos h6], rfl, rfl⟩)
theorem sp_cc_le (ρ : sp_R) : sp_cc ρ ≤ 2 := by
  unfold sp_cc
  split
  · exact Nat.le_refl _
  · split <;> decide
set_option maxRecDepth 100000 in
theorem c_Ru_areNone (l : Launch) (g : ew_G) (d L : Nat) (M : ew_M) (ρ : sp_R) (hr : sp_ru ρ M) :
    Ew l g (d + 1) 0 0 m_Ru_areNone 0 [.ref 10] [] (ew_SH L) M (ew_q (some (.int (ew_b (decide (sp_cc ρ + r_bn ρ = 0))))) (ew_SH L) M) := by
  refine ew_aload_n d_Ru_areNone_0 rfl ?_
  refine en_callV (As := []) (i := 10) (ci := 2) (st := []) (st1 := [.int (nI (sp_cc ρ))]) d_Ru_areNone_1 k_Ru_constraintCount rfl rfl tw_358 tw_360 tp_7 rfl (Nat.le_of_ble_eq_true rfl) rfl (Nat.le_of_ble_eq_true rfl) rfl rfl (c_Ru_constraintCount l g _ L M ρ (hr)) rfl ?_
  refine en_if_ne (tgt := 18) d_Ru_areNone_4 (by decide) (by have := sp_cc_le ρ; have := hr.1.2.2.1; omega) (fun h4 => ?_) (fun h4 => ?_)
  · refine ew_iconst (v := nI 0) d_Ru_areNone_18 (by decide) ?_
    exact ew_zret d_Ru_areNone_19 rfl (by decide) (⟨by rw [show decide (sp_cc ρ + r_bn ρ = 0) = false from decide_eq_false (by omega)]; rfl, rfl, rfl⟩)
  · refine ew_aload_n d_Ru_areNone_7 rfl ?_
    refine ew_geti (ci := 2) (f := 4) d_Ru_areNone_8 rfl rfl rfl tw_73 ?_
    refine en_eq (st' := [.int (nI (r_bn ρ))]) rfl (by rw [show (M 10 4) = (nI (r_bn ρ)) from hr.2.2.2.2.1]) rfl ?_
    refine en_if_ne (tgt := 18) d_Ru_areNone_11 (by decide) (by have := sp_cc_le ρ; have := hr.1.2.2.1; omega) (fun h11 => ?_) (fun h11 => ?_)
    · refine ew_iconst (v := nI 0) d_Ru_areNone_18 (by decide) ?_
      exact ew_zret d_Ru_areNone_19 rfl (by decide) (⟨by rw [show decide (sp_cc ρ + r_bn ρ = 0) = false from decide_eq_false (by omega)]; rfl, rfl, rfl⟩)
    · refine ew_iconst (v := nI 1) d_Ru_areNone_14 (by decide) ?_
      refine ew_goto (tgt := 19) d_Ru_areNone_15 (by decide) ?_
      exact ew_zret d_Ru_areNone_19 rfl (by decide) (⟨by rw [show decide (sp_cc ρ + r_bn ρ = 0) = true from decide_eq_true (by omega)]; rfl, rfl, rfl⟩)
set_option maxRecDepth 100000 in
theorem c_Ru_dropAll (l : Launch) (g : ew_G) (d L : Nat) (M : ew_M)  :
    Ew l g d 0 0 m_Ru_dropAll 0 [.ref 10] [] (ew_SH L) M (ew_q (none) (ew_SH L) (ew_w (ew_w (ew_w M 11 0 (nI 0)) 11 1 (nI 0)) 10 4 (nI 0))) := by
  refine ew_aload_n d_Ru_dropAll_0 rfl ?_
  refine ew_getr (ci := 2) (f := 1) d_Ru_dropAll_1 rfl rfl rfl tw_70 ?_
  refine ew_iconst (v := nI 0) d_Ru_dropAll_4 (by decide) ?_
  refine ew_iconst (v := nI 0) d_Ru_dropAll_5 (by decide) ?_
  refine ew_iast (j := 0) d_Ru_dropAll_6 rfl (by decide) (rfl) (by decide) (by decide) ?_
  refine ew_aload_n d_Ru_dropAll_7 rfl ?_
  refine ew_getr (ci := 2) (f := 1) d_Ru_dropAll_8 rfl rfl rfl tw_70 ?_
  refine ew_iconst (v := nI 1) d_Ru_dropAll_11 (by decide) ?_
  refine ew_iconst (v := nI 0) d_Ru_dropAll_12 (by decide) ?_
  refine ew_iast (j := 1) d_Ru_dropAll_13 rfl (by decide) (rfl) (by decide) (by decide) ?_
  refine ew_aload_n d_Ru_dropAll_14 rfl ?_
  refine ew_iconst (v := nI 0) d_Ru_dropAll_15 (by decide) ?_
  refine ew_puti (ci := 2) (f := 4) (ty := .int) d_Ru_dropAll_16 rfl (by decide) rfl rfl rfl (by decide +kernel) rfl rfl tw_73 ?_
  exact ew_ret d_Ru_dropAll_19 rfl (⟨rfl, rfl, rfl⟩)
set_option maxRecDepth 100000 in
theorem c_Ru_write13 (l : Launch) (g : ew_G) (d L : Nat) (M : ew_M) (i : Nat) (x y z : Int32) (hi : 3 * i + 2 < 18) :
    Ew l g d 0 0 m_Ru_write 0 [.ref 13, .int (nI i), .int x, .int y, .int z] [] (ew_SH L) M (ew_q (none) (ew_SH L) (ew_w (ew_w (ew_w M 13 (3 * i) x) 13 (3 * i + 1) y) 13 (3 * i + 2) z)) := by
  refine ew_aload_n d_Ru_write_0 rfl ?_
  refine ew_iconst (v := nI 3) d_Ru_write_1 (by decide) ?_
  refine ew_iload_n d_Ru_write_2 rfl ?_
  refine en_imul d_Ru_write_3 ?_
  refine ew_iload_n d_Ru_write_4 rfl ?_
  refine ew_iast (j := 3 * i) d_Ru_write_5 rfl (by decide) (rfl) (by omega) (by decide) ?_
  refine ew_aload_n d_Ru_write_6 rfl ?_
  refine ew_iconst (v := nI 3) d_Ru_write_7 (by decide) ?_
  refine ew_iload_n d_Ru_write_8 rfl ?_
  refine en_imul d_Ru_write_9 ?_
  refine ew_iconst (v := nI 1) d_Ru_write_10 (by decide) ?_
  refine en_iadd d_Ru_write_11 ?_
  refine ew_iload_n d_Ru_write_12 rfl ?_
  refine ew_iast (j := (3 * i) + 1) d_Ru_write_13 rfl (by decide) (rfl) (by omega) (by decide) ?_
  refine ew_aload_n d_Ru_write_14 rfl ?_
  refine ew_iconst (v := nI 3) d_Ru_write_15 (by decide) ?_
  refine ew_iload_n d_Ru_write_16 rfl ?_
  refine en_imul d_Ru_write_17 ?_
  refine ew_iconst (v := nI 2) d_Ru_write_18 (by decide) ?_
  refine en_iadd d_Ru_write_19 ?_
  refine ew_iload d_Ru_write_20 rfl ?_
  refine ew_iast (j := (3 * i) + 2) d_Ru_write_22 rfl (by decide) (rfl) (by omega) (by decide) ?_
  exact ew_ret d_Ru_write_23 rfl (⟨rfl, rfl, rfl⟩)
set_option maxRecDepth 100000 in
theorem c_Ru_write14 (l : Launch) (g : ew_G) (d L : Nat) (M : ew_M) (i : Nat) (x y z : Int32) (hi : 3 * i + 2 < 18) :
    Ew l g d 0 0 m_Ru_write 0 [.ref 14, .int (nI i), .int x, .int y, .int z] [] (ew_SH L) M (ew_q (none) (ew_SH L) (ew_w (ew_w (ew_w M 14 (3 * i) x) 14 (3 * i + 1) y) 14 (3 * i + 2) z)) := by
  refine ew_aload_n d_Ru_write_0 rfl ?_
  refine ew_iconst (v := nI 3) d_Ru_write_1 (by decide) ?_
  refine ew_iload_n d_Ru_write_2 rfl ?_
  refine en_imul d_Ru_write_3 ?_
  refine ew_iload_n d_Ru_write_4 rfl ?_
  refine ew_iast (j := 3 * i) d_Ru_write_5 rfl (by decide) (rfl) (by omega) (by decide) ?_
  refine ew_aload_n d_Ru_write_6 rfl ?_
  refine ew_iconst (v := nI 3) d_Ru_write_7 (by decide) ?_
  refine ew_iload_n d_Ru_write_8 rfl ?_
  refine en_imul d_Ru_write_9 ?_
  refine ew_iconst (v := nI 1) d_Ru_write_10 (by decide) ?_
  refine en_iadd d_Ru_write_11 ?_
  refine ew_iload_n d_Ru_write_12 rfl ?_
  refine ew_iast (j := (3 * i) + 1) d_Ru_write_13 rfl (by decide) (rfl) (by omega) (by decide) ?_
  refine ew_aload_n d_Ru_write_14 rfl ?_
  refine ew_iconst (v := nI 3) d_Ru_write_15 (by decide) ?_
  refine ew_iload_n d_Ru_write_16 rfl ?_
  refine en_imul d_Ru_write_17 ?_
  refine ew_iconst (v := nI 2) d_Ru_write_18 (by decide) ?_
  refine en_iadd d_Ru_write_19 ?_
  refine ew_iload d_Ru_write_20 rfl ?_
  refine ew_iast (j := (3 * i) + 2) d_Ru_write_22 rfl (by decide) (rfl) (by omega) (by decide) ?_
  exact ew_ret d_Ru_write_23 rfl (⟨rfl, rfl, rfl⟩)
set_option maxRecDepth 100000 in
theorem c_Ru_write15 (l : Launch) (g : ew_G) (d L : Nat) (M : ew_M) (i : Nat) (x y z : Int32) (hi : 3 * i + 2 < 12) :
    Ew l g d 0 0 m_Ru_write 0 [.ref 15, .int (nI i), .int x, .int y, .int z] [] (ew_SH L) M (ew_q (none) (ew_SH L) (ew_w (ew_w (ew_w M 15 (3 * i) x) 15 (3 * i + 1) y) 15 (3 * i + 2) z)) := by
  refine ew_aload_n d_Ru_write_0 rfl ?_
  refine ew_iconst (v := nI 3) d_Ru_write_1 (by decide) ?_
  refine ew_iload_n d_Ru_write_2 rfl ?_
  refine en_imul d_Ru_write_3 ?_
  refine ew_iload_n d_Ru_write_4 rfl ?_
  refine ew_iast (j := 3 * i) d_Ru_write_5 rfl (by decide) (rfl) (by omega) (by decide) ?_
  refine ew_aload_n d_Ru_write_6 rfl ?_
  refine ew_iconst (v := nI 3) d_Ru_write_7 (by decide) ?_
  refine ew_iload_n d_Ru_write_8 rfl ?_
  refine en_imul d_Ru_write_9 ?_
  refine ew_iconst (v := nI 1) d_Ru_write_10 (by decide) ?_
  refine en_iadd d_Ru_write_11 ?_
  refine ew_iload_n d_Ru_write_12 rfl ?_
  refine ew_iast (j := (3 * i) + 1) d_Ru_write_13 rfl (by decide) (rfl) (by omega) (by decide) ?_
  refine ew_aload_n d_Ru_write_14 rfl ?_
  refine ew_iconst (v := nI 3) d_Ru_write_15 (by decide) ?_
  refine ew_iload_n d_Ru_write_16 rfl ?_
  refine en_imul d_Ru_write_17 ?_
  refine ew_iconst (v := nI 2) d_Ru_write_18 (by decide) ?_
  refine en_iadd d_Ru_write_19 ?_
  refine ew_iload d_Ru_write_20 rfl ?_
  refine ew_iast (j := (3 * i) + 2) d_Ru_write_22 rfl (by decide) (rfl) (by omega) (by decide) ?_
  exact ew_ret d_Ru_write_23 rfl (⟨rfl, rfl, rfl⟩)
set_option maxRecDepth 100000 in
theorem lp_Ru_termSum0 (l : Launch) (g : ew_G) (d L : Nat) (M : ew_M) (ρ : sp_R) (hr : sp_ru ρ M) (le : Nat → Nat) (hl : sp_hle le (M 16)) : ∀ (n t : Nat), r_cn ρ 0 - t < n → t ≤ r_cn ρ 0 → Ew l g (d + 1) 0 0 m_Ru_termSum 12 [.ref 10, .int (nI 0), .ref 13, .int (nI (sp_ts ρ 0 le t)), .int (nI t), .retAddr 0, .retAddr 0] [] (ew_SH L) M (ew_q (some (.int (nI (sp_ts ρ 0 le (r_cn ρ 0))))) (ew_SH L) M) := by
  intro n
  induction n with
  | zero =>
    intro t  hn
    exact absurd hn (Nat.not_lt_zero _)
  | succ n ih =>
    intro t  hn hle
    refine ew_iload d_Ru_termSum_12 rfl ?_
    refine ew_aload_n d_Ru_termSum_14 rfl ?_
    refine ew_getr (ci := 2) (f := 1) d_Ru_termSum_15 rfl rfl rfl tw_70 ?_
    refine ew_iload_n d_Ru_termSum_18 rfl ?_
    refine ew_iald (j := 0) d_Ru_termSum_19 rfl (rfl) (by decide) (by decide) ?_
    refine en_eq (st' := [.int (nI (r_cn ρ 0)), .int (nI t)]) rfl (by rw [show (M 11 0) = (nI (r_cn ρ 0)) from hr.2.1 0 (by decide)]) rfl ?_
    refine en_icmp_ge (tgt := 80) d_Ru_termSum_20 (by decide) (by have := hr.1.1 0 (by decide); omega) (by have := hr.1.1 0 (by decide); omega) (fun h20 => ?_) (fun h20 => ?_)
    · have et : t = r_cn ρ 0 := by omega
      refine ew_iload_n d_Ru_termSum_80 rfl ?_
      exact ew_iret d_Ru_termSum_81 rfl (⟨by rw [et], rfl, rfl⟩)
    · refine ew_aload_n d_Ru_termSum_23 rfl ?_
      refine ew_getr (ci := 2) (f := 5) d_Ru_termSum_24 rfl rfl rfl tw_74 ?_
      refine ew_aload_n d_Ru_termSum_27 rfl ?_
      refine ew_iconst (v := nI 3) d_Ru_termSum_28 (by decide) ?_
      refine ew_iload d_Ru_termSum_29 rfl ?_
      refine en_imul d_Ru_termSum_31 ?_
      refine ew_iconst (v := nI 1) d_Ru_termSum_32 (by decide) ?_
      refine en_iadd d_Ru_termSum_33 ?_
      refine ew_iald (j := (3 * t) + 1) d_Ru_termSum_34 rfl (rfl) (by have := hr.1.1 0 (by decide); omega) (by decide) ?_
      refine en_eq (st' := [.int (nI (r_tu ρ 0 t)), .ref 16]) rfl (by rw [show (M 13 ((3 * t) + 1)) = (nI (r_tu ρ 0 t)) from (hr.2.2.1 t h20).2.1]) rfl ?_
      refine ew_iald (j := r_tu ρ 0 t) d_Ru_termSum_35 rfl (rfl) ((hr.1.2.1 0 t (by decide) h20).2.1) (by decide) ?_
      refine en_eq (st' := [.int (nI (le (r_tu ρ 0 t)))]) rfl (by rw [show (M 16 (r_tu ρ 0 t)) = (nI (le (r_tu ρ 0 t))) from (hl _ (hr.1.2.1 0 t (by decide) h20).2.1).1]) rfl ?_
      refine en_istore (ls' := [.ref 10, .int (nI 0), .ref 13, .int (nI (sp_ts ρ 0 le t)), .int (nI t), .int (nI (le (r_tu ρ 0 t))), .retAddr 0]) d_Ru_termSum_36 (Nat.le_of_ble_eq_true rfl) rfl ?_
      refine ew_aload_n d_Ru_termSum_38 rfl ?_
      refine ew_getr (ci := 2) (f := 5) d_Ru_termSum_39 rfl rfl rfl tw_74 ?_
      refine ew_aload_n d_Ru_termSum_42 rfl ?_
      refine ew_iconst (v := nI 3) d_Ru_termSum_43 (by decide) ?_
      refine ew_iload d_Ru_termSum_44 rfl ?_
      refine en_imul d_Ru_termSum_46 ?_
      refine ew_iconst (v := nI 2) d_Ru_termSum_47 (by decide) ?_
      refine en_iadd d_Ru_termSum_48 ?_
      refine ew_iald (j := (3 * t) + 2) d_Ru_termSum_49 rfl (rfl) (by have := hr.1.1 0 (by decide); omega) (by decide) ?_
      refine en_eq (st' := [.int (nI (r_tv ρ 0 t)), .ref 16]) rfl (by rw [show (M 13 ((3 * t) + 2)) = (nI (r_tv ρ 0 t)) from (hr.2.2.1 t h20).2.2]) rfl ?_
      refine ew_iald (j := r_tv ρ 0 t) d_Ru_termSum_50 rfl (rfl) ((hr.1.2.1 0 t (by decide) h20).2.2) (by decide) ?_
      refine en_eq (st' := [.int (nI (le (r_tv ρ 0 t)))]) rfl (by rw [show (M 16 (r_tv ρ 0 t)) = (nI (le (r_tv ρ 0 t))) from (hl _ (hr.1.2.1 0 t (by decide) h20).2.2).1]) rfl ?_
      refine en_istore (ls' := [.ref 10, .int (nI 0), .ref 13, .int (nI (sp_ts ρ 0 le t)), .int (nI t), .int (nI (le (r_tu ρ 0 t))), .int (nI (le (r_tv ρ 0 t)))]) d_Ru_termSum_51 (Nat.le_of_ble_eq_true rfl) rfl ?_
      refine ew_iload_n d_Ru_termSum_53 rfl ?_
      refine ew_aload_n d_Ru_termSum_54 rfl ?_
      refine ew_iconst (v := nI 3) d_Ru_termSum_55 (by decide) ?_
      refine ew_iload d_Ru_termSum_56 rfl ?_
      refine en_imul d_Ru_termSum_58 ?_
      refine ew_iald (j := 3 * t) d_Ru_termSum_59 rfl (rfl) (by have := hr.1.1 0 (by decide); omega) (by decide) ?_
      refine en_eq (st' := [.int (nI (r_tk ρ 0 t)), .int (nI (sp_ts ρ 0 le t))]) rfl (by rw [show (M 13 (3 * t)) = (nI (r_tk ρ 0 t)) from (hr.2.2.1 t h20).1]) rfl ?_
      refine ew_iload d_Ru_termSum_60 rfl ?_
      refine ew_iload d_Ru_termSum_62 rfl ?_
      refine en_callS (As := [.int (nI (le (r_tu ρ 0 t))), .int (nI (le (r_tv ρ 0 t)))]) (st := [.int (nI (r_tk ρ 0 t)), .int (nI (sp_ts ρ 0 le t))]) (st1 := [.int (nI ((le (r_tu ρ 0 t)) * (le (r_tv ρ 0 t)) % 12289)), .int (nI (r_tk ρ 0 t)), .int (nI (sp_ts ρ 0 le t))]) d_Ru_termSum_64 k_Fi_times tw_332 tw_30 rfl (Nat.le_of_ble_eq_true rfl) rfl (Nat.le_of_ble_eq_true rfl) rfl rfl (c_Fi_times l g _ (ew_SH L) M (le (r_tu ρ 0 t)) (le (r_tv ρ 0 t)) (by first | exact (hl _ (hr.1.2.1 0 t (by decide) h20).2.1).2 | exact (hl _ (hr.1.2.1 0 t (by decide) h20).2.2).2) (by first | exact (hl _ (hr.1.2.1 0 t (by decide) h20).2.1).2 | exact (hl _ (hr.1.2.1 0 t (by decide) h20).2.2).2)) rfl ?_
      refine en_callS (As := [.int (nI (r_tk ρ 0 t)), .int (nI ((le (r_tu ρ 0 t)) * (le (r_tv ρ 0 t)) % 12289))]) (st := [.int (nI (sp_ts ρ 0 le t))]) (st1 := [.int (nI ((r_tk ρ 0 t) * ((le (r_tu ρ 0 t)) * (le (r_tv ρ 0 t)) % 12289) % 12289)), .int (nI (sp_ts ρ 0 le t))]) d_Ru_termSum_67 k_Fi_times tw_332 tw_30 rfl (Nat.le_of_ble_eq_true rfl) rfl (Nat.le_of_ble_eq_true rfl) rfl rfl (c_Fi_times l g _ (ew_SH L) M (r_tk ρ 0 t) ((le (r_tu ρ 0 t)) * (le (r_tv ρ 0 t)) % 12289) (by first | with_reducible exact ep_lt _ | exact (hr.1.2.1 0 t (by decide) h20).1) (by first | with_reducible exact ep_lt _ | exact (hr.1.2.1 0 t (by decide) h20).1)) rfl ?_
      refine en_callS (As := [.int (nI (sp_ts ρ 0 le t)), .int (nI ((r_tk ρ 0 t) * ((le (r_tu ρ 0 t)) * (le (r_tv ρ 0 t)) % 12289) % 12289))]) (st := []) (st1 := [.int (nI (((sp_ts ρ 0 le t) + ((r_tk ρ 0 t) * ((le (r_tu ρ 0 t)) * (le (r_tv ρ 0 t)) % 12289) % 12289)) % 12289))]) d_Ru_termSum_70 k_Fi_plus tw_333 tw_309 rfl (Nat.le_of_ble_eq_true rfl) rfl (Nat.le_of_ble_eq_true rfl) rfl rfl (c_Fi_plus l g _ (ew_SH L) M (sp_ts ρ 0 le t) ((r_tk ρ 0 t) * ((le (r_tu ρ 0 t)) * (le (r_tv ρ 0 t)) % 12289) % 12289) (by first | with_reducible assumption | with_reducible exact ep_lt _ | with_reducible exact sp_its_lt _ _ _ | with_reducible exact tb_l_rt _ | with_reducible exact tb_l_x _ | with_reducible exact tb_l_o0 _ | with_reducible exact tb_l_o1 _ | with_reducible exact tb_l_va _ | with_reducible exact tb_l_ll _ | with_reducible exact tb_l_cf _ | with_reducible exact tb_l_kf _ | with_reducible exact sp_ts_lt _ _ _ _ | with_reducible exact sp_w_lt _ _ | with_reducible exact sp_cs_lt _ _ _ _ _ | with_reducible exact sp_cb_lt _ _ _ _ _ | with_reducible exact sp_ch_lt _ | with_reducible exact sp_bf_lt _ _ | omega) (by first | with_reducible assumption | with_reducible exact ep_lt _ | with_reducible exact sp_its_lt _ _ _ | with_reducible exact tb_l_rt _ | with_reducible exact tb_l_x _ | with_reducible exact tb_l_o0 _ | with_reducible exact tb_l_o1 _ | with_reducible exact tb_l_va _ | with_reducible exact tb_l_ll _ | with_reducible exact tb_l_cf _ | with_reducible exact tb_l_kf _ | with_reducible exact sp_ts_lt _ _ _ _ | with_reducible exact sp_w_lt _ _ | with_reducible exact sp_cs_lt _ _ _ _ _ | with_reducible exact sp_cb_lt _ _ _ _ _ | with_reducible exact sp_ch_lt _ | with_reducible exact sp_bf_lt _ _ | omega)) rfl ?_
      refine en_istore_n (ls' := [.ref 10, .int (nI 0), .ref 13, .int (nI (((sp_ts ρ 0 le t) + ((r_tk ρ 0 t) * ((le (r_tu ρ 0 t)) * (le (r_tv ρ 0 t)) % 12289) % 12289)) % 12289)), .int (nI t), .int (nI (le (r_tu ρ 0 t))), .int (nI (le (r_tv ρ 0 t)))]) d_Ru_termSum_73 (Nat.le_of_ble_eq_true rfl) rfl ?_
      refine en_inc (ls' := [.ref 10, .int (nI 0), .ref 13, .int (nI (((sp_ts ρ 0 le t) + ((r_tk ρ 0 t) * ((le (r_tu ρ 0 t)) * (le (r_tv ρ 0 t)) % 12289) % 12289)) % 12289)), .int (nI (t + 1)), .int (nI (le (r_tu ρ 0 t))), .int (nI (le (r_tv ρ 0 t)))]) d_Ru_termSum_74 rfl rfl ?_
      refine ew_goto (tgt := 12) d_Ru_termSum_77 (by decide) ?_
      refine en_drop (ls' := [.ref 10, .int (nI 0), .ref 13, .int (nI (((sp_ts ρ 0 le t) + ((r_tk ρ 0 t) * ((le (r_tu ρ 0 t)) * (le (r_tv ρ 0 t)) % 12289) % 12289)) % 12289)), .int (nI (t + 1)), .retAddr 0, .retAddr 0]) ⟨Or.inl rfl, Or.inl rfl, Or.inl rfl, Or.inl rfl, Or.inl rfl, Or.inr rfl, Or.inr rfl, trivial⟩ ?_
      exact ih (t + 1) (by omega) (by omega)
set_option maxRecDepth 100000 in
theorem lp_Ru_termSum1 (l : Launch) (g : ew_G) (d L : Nat) (M : ew_M) (ρ : sp_R) (hr : sp_ru ρ M) (le : Nat → Nat) (hl : sp_hle le (M 16)) : ∀ (n t : Nat), r_cn ρ 1 - t < n → t ≤ r_cn ρ 1 → Ew l g (d + 1) 0 0 m_Ru_termSum 12 [.ref 10, .int (nI 1), .ref 14, .int (nI (sp_ts ρ 1 le t)), .int (nI t), .retAddr 0, .retAddr 0] [] (ew_SH L) M (ew_q (some (.int (nI (sp_ts ρ 1 le (r_cn ρ 1))))) (ew_SH L) M) := by
  intro n
  induction n with
  | zero =>
    intro t  hn
    exact absurd hn (Nat.not_lt_zero _)
  | succ n ih =>
    intro t  hn hle
    refine ew_iload d_Ru_termSum_12 rfl ?_
    refine ew_aload_n d_Ru_termSum_14 rfl ?_
    refine ew_getr (ci := 2) (f := 1) d_Ru_termSum_15 rfl rfl rfl tw_70 ?_
    refine ew_iload_n d_Ru_termSum_18 rfl ?_
    refine ew_iald (j := 1) d_Ru_termSum_19 rfl (rfl) (by decide) (by decide) ?_
    refine en_eq (st' := [.int (nI (r_cn ρ 1)), .int (nI t)]) rfl (by rw [show (M 11 1) = (nI (r_cn ρ 1)) from hr.2.1 1 (by decide)]) rfl ?_
    refine en_icmp_ge (tgt := 80) d_Ru_termSum_20 (by decide) (by have := hr.1.1 1 (by decide); omega) (by have := hr.1.1 1 (by decide); omega) (fun h20 => ?_) (fun h20 => ?_)
    · have et : t = r_cn ρ 1 := by omega
      refine ew_iload_n d_Ru_termSum_80 rfl ?_
      exact ew_iret d_Ru_termSum_81 rfl (⟨by rw [et], rfl, rfl⟩)
    · refine ew_aload_n d_Ru_termSum_23 rfl ?_
      refine ew_getr (ci := 2) (f := 5) d_Ru_termSum_24 rfl rfl rfl tw_74 ?_
      refine ew_aload_n d_Ru_termSum_27 rfl ?_
      refine ew_iconst (v := nI 3) d_Ru_termSum_28 (by decide) ?_
      refine ew_iload d_Ru_termSum_29 rfl ?_
      refine en_imul d_Ru_termSum_31 ?_
      refine ew_iconst (v := nI 1) d_Ru_termSum_32 (by decide) ?_
      refine en_iadd d_Ru_termSum_33 ?_
      refine ew_iald (j := (3 * t) + 1) d_Ru_termSum_34 rfl (rfl) (by have := hr.1.1 1 (by decide); omega) (by decide) ?_
      refine en_eq (st' := [.int (nI (r_tu ρ 1 t)), .ref 16]) rfl (by rw [show (M 14 ((3 * t) + 1)) = (nI (r_tu ρ 1 t)) from (hr.2.2.2.1 t h20).2.1]) rfl ?_
      refine ew_iald (j := r_tu ρ 1 t) d_Ru_termSum_35 rfl (rfl) ((hr.1.2.1 1 t (by decide) h20).2.1) (by decide) ?_
      refine en_eq (st' := [.int (nI (le (r_tu ρ 1 t)))]) rfl (by rw [show (M 16 (r_tu ρ 1 t)) = (nI (le (r_tu ρ 1 t))) from (hl _ (hr.1.2.1 1 t (by decide) h20).2.1).1]) rfl ?_
      refine en_istore (ls' := [.ref 10, .int (nI 1), .ref 14, .int (nI (sp_ts ρ 1 le t)), .int (nI t), .int (nI (le (r_tu ρ 1 t))), .retAddr 0]) d_Ru_termSum_36 (Nat.le_of_ble_eq_true rfl) rfl ?_
      refine ew_aload_n d_Ru_termSum_38 rfl ?_
      refine ew_getr (ci := 2) (f := 5) d_Ru_termSum_39 rfl rfl rfl tw_74 ?_
      refine ew_aload_n d_Ru_termSum_42 rfl ?_
      refine ew_iconst (v := nI 3) d_Ru_termSum_43 (by decide) ?_
      refine ew_iload d_Ru_termSum_44 rfl ?_
      refine en_imul d_Ru_termSum_46 ?_
      refine ew_iconst (v := nI 2) d_Ru_termSum_47 (by decide) ?_
      refine en_iadd d_Ru_termSum_48 ?_
      refine ew_iald (j := (3 * t) + 2) d_Ru_termSum_49 rfl (rfl) (by have := hr.1.1 1 (by decide); omega) (by decide) ?_
      refine en_eq (st' := [.int (nI (r_tv ρ 1 t)), .ref 16]) rfl (by rw [show (M 14 ((3 * t) + 2)) = (nI (r_tv ρ 1 t)) from (hr.2.2.2.1 t h20).2.2]) rfl ?_
      refine ew_iald (j := r_tv ρ 1 t) d_Ru_termSum_50 rfl (rfl) ((hr.1.2.1 1 t (by decide) h20).2.2) (by decide) ?_
      refine en_eq (st' := [.int (nI (le (r_tv ρ 1 t)))]) rfl (by rw [show (M 16 (r_tv ρ 1 t)) = (nI (le (r_tv ρ 1 t))) from (hl _ (hr.1.2.1 1 t (by decide) h20).2.2).1]) rfl ?_
      refine en_istore (ls' := [.ref 10, .int (nI 1), .ref 14, .int (nI (sp_ts ρ 1 le t)), .int (nI t), .int (nI (le (r_tu ρ 1 t))), .int (nI (le (r_tv ρ 1 t)))]) d_Ru_termSum_51 (Nat.le_of_ble_eq_true rfl) rfl ?_
      refine ew_iload_n d_Ru_termSum_53 rfl ?_
      refine ew_aload_n d_Ru_termSum_54 rfl ?_
      refine ew_iconst (v := nI 3) d_Ru_termSum_55 (by decide) ?_
      refine ew_iload d_Ru_termSum_56 rfl ?_
      refine en_imul d_Ru_termSum_58 ?_
      refine ew_iald (j := 3 * t) d_Ru_termSum_59 rfl (rfl) (by have := hr.1.1 1 (by decide); omega) (by decide) ?_
      refine en_eq (st' := [.int (nI (r_tk ρ 1 t)), .int (nI (sp_ts ρ 1 le t))]) rfl (by rw [show (M 14 (3 * t)) = (nI (r_tk ρ 1 t)) from (hr.2.2.2.1 t h20).1]) rfl ?_
      refine ew_iload d_Ru_termSum_60 rfl ?_
      refine ew_iload d_Ru_termSum_62 rfl ?_
      refine en_callS (As := [.int (nI (le (r_tu ρ 1 t))), .int (nI (le (r_tv ρ 1 t)))]) (st := [.int (nI (r_tk ρ 1 t)), .int (nI (sp_ts ρ 1 le t))]) (st1 := [.int (nI ((le (r_tu ρ 1 t)) * (le (r_tv ρ 1 t)) % 12289)), .int (nI (r_tk ρ 1 t)), .int (nI (sp_ts ρ 1 le t))]) d_Ru_termSum_64 k_Fi_times tw_332 tw_30 rfl (Nat.le_of_ble_eq_true rfl) rfl (Nat.le_of_ble_eq_true rfl) rfl rfl (c_Fi_times l g _ (ew_SH L) M (le (r_tu ρ 1 t)) (le (r_tv ρ 1 t)) (by first | exact (hl _ (hr.1.2.1 1 t (by decide) h20).2.1).2 | exact (hl _ (hr.1.2.1 1 t (by decide) h20).2.2).2) (by first | exact (hl _ (hr.1.2.1 1 t (by decide) h20).2.1).2 | exact (hl _ (hr.1.2.1 1 t (by decide) h20).2.2).2)) rfl ?_
      refine en_callS (As := [.int (nI (r_tk ρ 1 t)), .int (nI ((le (r_tu ρ 1 t)) * (le (r_tv ρ 1 t)) % 12289))]) (st := [.int (nI (sp_ts ρ 1 le t))]) (st1 := [.int (nI ((r_tk ρ 1 t) * ((le (r_tu ρ 1 t)) * (le (r_tv ρ 1 t)) % 12289) % 12289)), .int (nI (sp_ts ρ 1 le t))]) d_Ru_termSum_67 k_Fi_times tw_332 tw_30 rfl (Nat.le_of_ble_eq_true rfl) rfl (Nat.le_of_ble_eq_true rfl) rfl rfl (c_Fi_times l g _ (ew_SH L) M (r_tk ρ 1 t) ((le (r_tu ρ 1 t)) * (le (r_tv ρ 1 t)) % 12289) (by first | with_reducible exact ep_lt _ | exact (hr.1.2.1 1 t (by decide) h20).1) (by first | with_reducible exact ep_lt _ | exact (hr.1.2.1 1 t (by decide) h20).1)) rfl ?_
      refine en_callS (As := [.int (nI (sp_ts ρ 1 le t)), .int (nI ((r_tk ρ 1 t) * ((le (r_tu ρ 1 t)) * (le (r_tv ρ 1 t)) % 12289) % 12289))]) (st := []) (st1 := [.int (nI (((sp_ts ρ 1 le t) + ((r_tk ρ 1 t) * ((le (r_tu ρ 1 t)) * (le (r_tv ρ 1 t)) % 12289) % 12289)) % 12289))]) d_Ru_termSum_70 k_Fi_plus tw_333 tw_309 rfl (Nat.le_of_ble_eq_true rfl) rfl (Nat.le_of_ble_eq_true rfl) rfl rfl (c_Fi_plus l g _ (ew_SH L) M (sp_ts ρ 1 le t) ((r_tk ρ 1 t) * ((le (r_tu ρ 1 t)) * (le (r_tv ρ 1 t)) % 12289) % 12289) (by first | with_reducible assumption | with_reducible exact ep_lt _ | with_reducible exact sp_its_lt _ _ _ | with_reducible exact tb_l_rt _ | with_reducible exact tb_l_x _ | with_reducible exact tb_l_o0 _ | with_reducible exact tb_l_o1 _ | with_reducible exact tb_l_va _ | with_reducible exact tb_l_ll _ | with_reducible exact tb_l_cf _ | with_reducible exact tb_l_kf _ | with_reducible exact sp_ts_lt _ _ _ _ | with_reducible exact sp_w_lt _ _ | with_reducible exact sp_cs_lt _ _ _ _ _ | with_reducible exact sp_cb_lt _ _ _ _ _ | with_reducible exact sp_ch_lt _ | with_reducible exact sp_bf_lt _ _ | omega) (by first | with_reducible assumption | with_reducible exact ep_lt _ | with_reducible exact sp_its_lt _ _ _ | with_reducible exact tb_l_rt _ | with_reducible exact tb_l_x _ | with_reducible exact tb_l_o0 _ | with_reducible exact tb_l_o1 _ | with_reducible exact tb_l_va _ | with_reducible exact tb_l_ll _ | with_reducible exact tb_l_cf _ | with_reducible exact tb_l_kf _ | with_reducible exact sp_ts_lt _ _ _ _ | with_reducible exact sp_w_lt _ _ | with_reducible exact sp_cs_lt _ _ _ _ _ | with_reducible exact sp_cb_lt _ _ _ _ _ | with_reducible exact sp_ch_lt _ | with_reducible exact sp_bf_lt _ _ | omega)) rfl ?_
      refine en_istore_n (ls' := [.ref 10, .int (nI 1), .ref 14, .int (nI (((sp_ts ρ 1 le t) + ((r_tk ρ 1 t) * ((le (r_tu ρ 1 t)) * (le (r_tv ρ 1 t)) % 12289) % 12289)) % 12289)), .int (nI t), .int (nI (le (r_tu ρ 1 t))), .int (nI (le (r_tv ρ 1 t)))]) d_Ru_termSum_73 (Nat.le_of_ble_eq_true rfl) rfl ?_
      refine en_inc (ls' := [.ref 10, .int (nI 1), .ref 14, .int (nI (((sp_ts ρ 1 le t) + ((r_tk ρ 1 t) * ((le (r_tu ρ 1 t)) * (le (r_tv ρ 1 t)) % 12289) % 12289)) % 12289)), .int (nI (t + 1)), .int (nI (le (r_tu ρ 1 t))), .int (nI (le (r_tv ρ 1 t)))]) d_Ru_termSum_74 rfl rfl ?_
      refine ew_goto (tgt := 12) d_Ru_termSum_77 (by decide) ?_
      refine en_drop (ls' := [.ref 10, .int (nI 1), .ref 14, .int (nI (((sp_ts ρ 1 le t) + ((r_tk ρ 1 t) * ((le (r_tu ρ 1 t)) * (le (r_tv ρ 1 t)) % 12289) % 12289)) % 12289)), .int (nI (t + 1)), .retAddr 0, .retAddr 0]) ⟨Or.inl rfl, Or.inl rfl, Or.inl rfl, Or.inl rfl, Or.inl rfl, Or.inr rfl, Or.inr rfl, trivial⟩ ?_
      exact ih (t + 1) (by omega) (by omega)
end
