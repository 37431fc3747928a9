section
-- ===== PART A: goes FIRST, ahead of the names: the tables' words, and 'selects' of the private methods out of them =====
/-- a private method of a class that the tables say can be made, by its rows of tables_1 -/
def lw_okq (q : MethodName × Nat) : Prop := (q.1.cls ≠ "java/lang/invoke/MethodHandle" ∧ q.1.cls ≠ "java/lang/invoke/VarHandle") ∧ Cond.instantiable q.1.cls q.2 ∈ tables_1 ∧ Cond.privateMethod q.1 ∈ tables_1 ∧ Cond.instanceMethod q.1 ∈ tables_1
theorem lw_p0 : lw_okq (⟨"TraceProver$Points", "rowPoint", "(I)I"⟩, 5) := ⟨⟨by decide +kernel, by decide +kernel⟩, List.mem_of_getElem? (i := 21) (by decide +kernel), List.mem_of_getElem? (i := 41) (by decide +kernel), List.mem_of_getElem? (i := 42) (by decide +kernel)⟩
theorem lw_p1 : lw_okq (⟨"TraceProver$Rules", "isStepBroken", "(LTraceProver$Table;I)Z"⟩, 6) := ⟨⟨by decide +kernel, by decide +kernel⟩, List.mem_of_getElem? (i := 62) (by decide +kernel), List.mem_of_getElem? (i := 320) (by decide +kernel), List.mem_of_getElem? (i := 321) (by decide +kernel)⟩
theorem lw_p2 : lw_okq (⟨"TraceProver$Rules", "termSum", "(I)I"⟩, 6) := ⟨⟨by decide +kernel, by decide +kernel⟩, List.mem_of_getElem? (i := 62) (by decide +kernel), List.mem_of_getElem? (i := 329) (by decide +kernel), List.mem_of_getElem? (i := 330) (by decide +kernel)⟩
theorem lw_p3 : lw_okq (⟨"TraceProver$Rules", "isBoundBroken", "(LTraceProver$Table;I)Z"⟩, 6) := ⟨⟨by decide +kernel, by decide +kernel⟩, List.mem_of_getElem? (i := 62) (by decide +kernel), List.mem_of_getElem? (i := 335) (by decide +kernel), List.mem_of_getElem? (i := 336) (by decide +kernel)⟩
theorem lw_p4 : lw_okq (⟨"TraceProver$Rules", "boundRow", "(I)I"⟩, 6) := ⟨⟨by decide +kernel, by decide +kernel⟩, List.mem_of_getElem? (i := 62) (by decide +kernel), List.mem_of_getElem? (i := 339) (by decide +kernel), List.mem_of_getElem? (i := 340) (by decide +kernel)⟩
theorem lw_p5 : lw_okq (⟨"TraceProver$Rules", "boundColumn", "(I)I"⟩, 6) := ⟨⟨by decide +kernel, by decide +kernel⟩, List.mem_of_getElem? (i := 62) (by decide +kernel), List.mem_of_getElem? (i := 343) (by decide +kernel), List.mem_of_getElem? (i := 344) (by decide +kernel)⟩
theorem lw_p6 : lw_okq (⟨"TraceProver$Rules", "boundValue", "(I)I"⟩, 6) := ⟨⟨by decide +kernel, by decide +kernel⟩, List.mem_of_getElem? (i := 62) (by decide +kernel), List.mem_of_getElem? (i := 347) (by decide +kernel), List.mem_of_getElem? (i := 348) (by decide +kernel)⟩
theorem lw_p7 : lw_okq (⟨"TraceProver$Rules", "constraintCount", "()I"⟩, 6) := ⟨⟨by decide +kernel, by decide +kernel⟩, List.mem_of_getElem? (i := 62) (by decide +kernel), List.mem_of_getElem? (i := 359) (by decide +kernel), List.mem_of_getElem? (i := 360) (by decide +kernel)⟩
theorem lw_p8 : lw_okq (⟨"TraceProver$Prover", "commitColumns", "()I"⟩, 8) := ⟨⟨by decide +kernel, by decide +kernel⟩, List.mem_of_getElem? (i := 116) (by decide +kernel), List.mem_of_getElem? (i := 368) (by decide +kernel), List.mem_of_getElem? (i := 369) (by decide +kernel)⟩
theorem lw_p9 : lw_okq (⟨"TraceProver$Talk", "challenge", "()I"⟩, 4) := ⟨⟨by decide +kernel, by decide +kernel⟩, List.mem_of_getElem? (i := 122) (by decide +kernel), List.mem_of_getElem? (i := 410) (by decide +kernel), List.mem_of_getElem? (i := 411) (by decide +kernel)⟩
theorem lw_p10 : lw_okq (⟨"TraceProver$Talk", "draw", "(II)I"⟩, 4) := ⟨⟨by decide +kernel, by decide +kernel⟩, List.mem_of_getElem? (i := 122) (by decide +kernel), List.mem_of_getElem? (i := 414) (by decide +kernel), List.mem_of_getElem? (i := 415) (by decide +kernel)⟩
theorem lw_p11 : lw_okq (⟨"TraceProver$Prover", "compose", "()V"⟩, 8) := ⟨⟨by decide +kernel, by decide +kernel⟩, List.mem_of_getElem? (i := 116) (by decide +kernel), List.mem_of_getElem? (i := 419) (by decide +kernel), List.mem_of_getElem? (i := 420) (by decide +kernel)⟩
theorem lw_p12 : lw_okq (⟨"TraceProver$Prover", "foldInto", "(I)V"⟩, 8) := ⟨⟨by decide +kernel, by decide +kernel⟩, List.mem_of_getElem? (i := 116) (by decide +kernel), List.mem_of_getElem? (i := 440) (by decide +kernel), List.mem_of_getElem? (i := 441) (by decide +kernel)⟩
theorem lw_p13 : lw_okq (⟨"TraceProver$Prover", "folded", "(II)I"⟩, 8) := ⟨⟨by decide +kernel, by decide +kernel⟩, List.mem_of_getElem? (i := 116) (by decide +kernel), List.mem_of_getElem? (i := 444) (by decide +kernel), List.mem_of_getElem? (i := 445) (by decide +kernel)⟩
theorem lw_p14 : lw_okq (⟨"TraceProver$Prover", "commitLayer", "(I)I"⟩, 8) := ⟨⟨by decide +kernel, by decide +kernel⟩, List.mem_of_getElem? (i := 116) (by decide +kernel), List.mem_of_getElem? (i := 452) (by decide +kernel), List.mem_of_getElem? (i := 453) (by decide +kernel)⟩
theorem lw_p15 : lw_okq (⟨"TraceProver$Prover", "openColumns", "([II)V"⟩, 8) := ⟨⟨by decide +kernel, by decide +kernel⟩, List.mem_of_getElem? (i := 116) (by decide +kernel), List.mem_of_getElem? (i := 467) (by decide +kernel), List.mem_of_getElem? (i := 468) (by decide +kernel)⟩
def lw_privs_1 : List (MethodName × Nat) := [(⟨"TraceProver$Points", "rowPoint", "(I)I"⟩, 5), (⟨"TraceProver$Rules", "isStepBroken", "(LTraceProver$Table;I)Z"⟩, 6), (⟨"TraceProver$Rules", "termSum", "(I)I"⟩, 6), (⟨"TraceProver$Rules", "isBoundBroken", "(LTraceProver$Table;I)Z"⟩, 6), (⟨"TraceProver$Rules", "boundRow", "(I)I"⟩, 6), (⟨"TraceProver$Rules", "boundColumn", "(I)I"⟩, 6), (⟨"TraceProver$Rules", "boundValue", "(I)I"⟩, 6), (⟨"TraceProver$Rules", "constraintCount", "()I"⟩, 6), (⟨"TraceProver$Prover", "commitColumns", "()I"⟩, 8), (⟨"TraceProver$Talk", "challenge", "()I"⟩, 4), (⟨"TraceProver$Talk", "draw", "(II)I"⟩, 4), (⟨"TraceProver$Prover", "compose", "()V"⟩, 8), (⟨"TraceProver$Prover", "foldInto", "(I)V"⟩, 8), (⟨"TraceProver$Prover", "folded", "(II)I"⟩, 8), (⟨"TraceProver$Prover", "commitLayer", "(I)I"⟩, 8), (⟨"TraceProver$Prover", "openColumns", "([II)V"⟩, 8)]
theorem lw_r1 : ∀ q ∈ lw_privs_1, lw_okq q := List.forall_mem_cons.mpr ⟨lw_p0, List.forall_mem_cons.mpr ⟨lw_p1, List.forall_mem_cons.mpr ⟨lw_p2, List.forall_mem_cons.mpr ⟨lw_p3, List.forall_mem_cons.mpr ⟨lw_p4, List.forall_mem_cons.mpr ⟨lw_p5, List.forall_mem_cons.mpr ⟨lw_p6, List.forall_mem_cons.mpr ⟨lw_p7, List.forall_mem_cons.mpr ⟨lw_p8, List.forall_mem_cons.mpr ⟨lw_p9, List.forall_mem_cons.mpr ⟨lw_p10, List.forall_mem_cons.mpr ⟨lw_p11, List.forall_mem_cons.mpr ⟨lw_p12, List.forall_mem_cons.mpr ⟨lw_p13, List.forall_mem_cons.mpr ⟨lw_p14, List.forall_mem_cons.mpr ⟨lw_p15, fun _ h => absurd h List.not_mem_nil⟩⟩⟩⟩⟩⟩⟩⟩⟩⟩⟩⟩⟩⟩⟩⟩
theorem lw_p16 : lw_okq (⟨"TraceProver$Prover", "openLayers", "([II)V"⟩, 8) := ⟨⟨by decide +kernel, by decide +kernel⟩, List.mem_of_getElem? (i := 116) (by decide +kernel), List.mem_of_getElem? (i := 483) (by decide +kernel), List.mem_of_getElem? (i := 484) (by decide +kernel)⟩
theorem lw_p17 : lw_okq (⟨"TraceProver", "isInProof", "(I)Z"⟩, 8) := ⟨⟨by decide +kernel, by decide +kernel⟩, List.mem_of_getElem? (i := 13) (by decide +kernel), List.mem_of_getElem? (i := 500) (by decide +kernel), List.mem_of_getElem? (i := 501) (by decide +kernel)⟩
theorem lw_p18 : lw_okq (⟨"TraceProver$Proof", "areColumnsInField", "(I)Z"⟩, 1) := ⟨⟨by decide +kernel, by decide +kernel⟩, List.mem_of_getElem? (i := 103) (by decide +kernel), List.mem_of_getElem? (i := 521) (by decide +kernel), List.mem_of_getElem? (i := 522) (by decide +kernel)⟩
theorem lw_p19 : lw_okq (⟨"TraceProver$Proof", "areLayersInField", "(I)Z"⟩, 1) := ⟨⟨by decide +kernel, by decide +kernel⟩, List.mem_of_getElem? (i := 103) (by decide +kernel), List.mem_of_getElem? (i := 526) (by decide +kernel), List.mem_of_getElem? (i := 527) (by decide +kernel)⟩
theorem lw_p20 : lw_okq (⟨"TraceProver$Verifier", "listen", "()V"⟩, 5) := ⟨⟨by decide +kernel, by decide +kernel⟩, List.mem_of_getElem? (i := 190) (by decide +kernel), List.mem_of_getElem? (i := 531) (by decide +kernel), List.mem_of_getElem? (i := 532) (by decide +kernel)⟩
theorem lw_p21 : lw_okq (⟨"TraceProver$Verifier", "codeOf", "(I)I"⟩, 5) := ⟨⟨by decide +kernel, by decide +kernel⟩, List.mem_of_getElem? (i := 190) (by decide +kernel), List.mem_of_getElem? (i := 538) (by decide +kernel), List.mem_of_getElem? (i := 539) (by decide +kernel)⟩
theorem lw_p22 : lw_okq (⟨"TraceProver$Verifier", "doColumnPathsLead", "(I)Z"⟩, 5) := ⟨⟨by decide +kernel, by decide +kernel⟩, List.mem_of_getElem? (i := 190) (by decide +kernel), List.mem_of_getElem? (i := 542) (by decide +kernel), List.mem_of_getElem? (i := 543) (by decide +kernel)⟩
theorem lw_p23 : lw_okq (⟨"TraceProver$Verifier", "doLayerPathsLead", "(II)Z"⟩, 5) := ⟨⟨by decide +kernel, by decide +kernel⟩, List.mem_of_getElem? (i := 190) (by decide +kernel), List.mem_of_getElem? (i := 556) (by decide +kernel), List.mem_of_getElem? (i := 557) (by decide +kernel)⟩
theorem lw_p24 : lw_okq (⟨"TraceProver$Verifier", "isComposed", "(II)Z"⟩, 5) := ⟨⟨by decide +kernel, by decide +kernel⟩, List.mem_of_getElem? (i := 190) (by decide +kernel), List.mem_of_getElem? (i := 564) (by decide +kernel), List.mem_of_getElem? (i := 565) (by decide +kernel)⟩
theorem lw_p25 : lw_okq (⟨"TraceProver$Verifier", "folded", "(II)I"⟩, 5) := ⟨⟨by decide +kernel, by decide +kernel⟩, List.mem_of_getElem? (i := 190) (by decide +kernel), List.mem_of_getElem? (i := 570) (by decide +kernel), List.mem_of_getElem? (i := 571) (by decide +kernel)⟩
theorem lw_p26 : lw_okq (⟨"TraceProver$Verifier", "valueBehind", "(II)I"⟩, 5) := ⟨⟨by decide +kernel, by decide +kernel⟩, List.mem_of_getElem? (i := 190) (by decide +kernel), List.mem_of_getElem? (i := 575) (by decide +kernel), List.mem_of_getElem? (i := 576) (by decide +kernel)⟩
theorem lw_p27 : lw_okq (⟨"TraceProverModel", "x", "(I)I"⟩, 24) := ⟨⟨by decide +kernel, by decide +kernel⟩, List.mem_of_getElem? (i := 584) (by decide +kernel), List.mem_of_getElem? (i := 701) (by decide +kernel), List.mem_of_getElem? (i := 702) (by decide +kernel)⟩
theorem lw_p28 : lw_okq (⟨"TraceProverModel", "w", "(I)I"⟩, 24) := ⟨⟨by decide +kernel, by decide +kernel⟩, List.mem_of_getElem? (i := 584) (by decide +kernel), List.mem_of_getElem? (i := 705) (by decide +kernel), List.mem_of_getElem? (i := 706) (by decide +kernel)⟩
theorem lw_p29 : lw_okq (⟨"TraceProverModel", "valueAt", "(II)I"⟩, 24) := ⟨⟨by decide +kernel, by decide +kernel⟩, List.mem_of_getElem? (i := 584) (by decide +kernel), List.mem_of_getElem? (i := 709) (by decide +kernel), List.mem_of_getElem? (i := 710) (by decide +kernel)⟩
theorem lw_p30 : lw_okq (⟨"TraceProverModel", "h", "(I)I"⟩, 24) := ⟨⟨by decide +kernel, by decide +kernel⟩, List.mem_of_getElem? (i := 584) (by decide +kernel), List.mem_of_getElem? (i := 713) (by decide +kernel), List.mem_of_getElem? (i := 714) (by decide +kernel)⟩
theorem lw_p31 : lw_okq (⟨"TraceProverModel", "isWrong", "(I)Z"⟩, 24) := ⟨⟨by decide +kernel, by decide +kernel⟩, List.mem_of_getElem? (i := 584) (by decide +kernel), List.mem_of_getElem? (i := 727) (by decide +kernel), List.mem_of_getElem? (i := 728) (by decide +kernel)⟩
def lw_privs_2 : List (MethodName × Nat) := [(⟨"TraceProver$Prover", "openLayers", "([II)V"⟩, 8), (⟨"TraceProver", "isInProof", "(I)Z"⟩, 8), (⟨"TraceProver$Proof", "areColumnsInField", "(I)Z"⟩, 1), (⟨"TraceProver$Proof", "areLayersInField", "(I)Z"⟩, 1), (⟨"TraceProver$Verifier", "listen", "()V"⟩, 5), (⟨"TraceProver$Verifier", "codeOf", "(I)I"⟩, 5), (⟨"TraceProver$Verifier", "doColumnPathsLead", "(I)Z"⟩, 5), (⟨"TraceProver$Verifier", "doLayerPathsLead", "(II)Z"⟩, 5), (⟨"TraceProver$Verifier", "isComposed", "(II)Z"⟩, 5), (⟨"TraceProver$Verifier", "folded", "(II)I"⟩, 5), (⟨"TraceProver$Verifier", "valueBehind", "(II)I"⟩, 5), (⟨"TraceProverModel", "x", "(I)I"⟩, 24), (⟨"TraceProverModel", "w", "(I)I"⟩, 24), (⟨"TraceProverModel", "valueAt", "(II)I"⟩, 24), (⟨"TraceProverModel", "h", "(I)I"⟩, 24), (⟨"TraceProverModel", "isWrong", "(I)Z"⟩, 24)]
theorem lw_r2 : ∀ q ∈ lw_privs_2, lw_okq q := List.forall_mem_cons.mpr ⟨lw_p16, List.forall_mem_cons.mpr ⟨lw_p17, List.forall_mem_cons.mpr ⟨lw_p18, List.forall_mem_cons.mpr ⟨lw_p19, List.forall_mem_cons.mpr ⟨lw_p20, List.forall_mem_cons.mpr ⟨lw_p21, List.forall_mem_cons.mpr ⟨lw_p22, List.forall_mem_cons.mpr ⟨lw_p23, List.forall_mem_cons.mpr ⟨lw_p24, List.forall_mem_cons.mpr ⟨lw_p25, List.forall_mem_cons.mpr ⟨lw_p26, List.forall_mem_cons.mpr ⟨lw_p27, List.forall_mem_cons.mpr ⟨lw_p28, List.forall_mem_cons.mpr ⟨lw_p29, List.forall_mem_cons.mpr ⟨lw_p30, List.forall_mem_cons.mpr ⟨lw_p31, fun _ h => absurd h List.not_mem_nil⟩⟩⟩⟩⟩⟩⟩⟩⟩⟩⟩⟩⟩⟩⟩⟩
theorem lw_p32 : lw_okq (⟨"TraceProverModel", "letters", "(IIII)V"⟩, 24) := ⟨⟨by decide +kernel, by decide +kernel⟩, List.mem_of_getElem? (i := 584) (by decide +kernel), List.mem_of_getElem? (i := 731) (by decide +kernel), List.mem_of_getElem? (i := 732) (by decide +kernel)⟩
theorem lw_p33 : lw_okq (⟨"TraceProverModel", "summed", "(I)I"⟩, 24) := ⟨⟨by decide +kernel, by decide +kernel⟩, List.mem_of_getElem? (i := 584) (by decide +kernel), List.mem_of_getElem? (i := 735) (by decide +kernel), List.mem_of_getElem? (i := 736) (by decide +kernel)⟩
theorem lw_p34 : lw_okq (⟨"TraceProverModel", "constraints", "()I"⟩, 24) := ⟨⟨by decide +kernel, by decide +kernel⟩, List.mem_of_getElem? (i := 584) (by decide +kernel), List.mem_of_getElem? (i := 743) (by decide +kernel), List.mem_of_getElem? (i := 744) (by decide +kernel)⟩
theorem lw_p35 : lw_okq (⟨"TraceProverModel", "tellRules", "()V"⟩, 24) := ⟨⟨by decide +kernel, by decide +kernel⟩, List.mem_of_getElem? (i := 584) (by decide +kernel), List.mem_of_getElem? (i := 748) (by decide +kernel), List.mem_of_getElem? (i := 749) (by decide +kernel)⟩
theorem lw_p36 : lw_okq (⟨"TraceProverModel", "tell", "(I)V"⟩, 24) := ⟨⟨by decide +kernel, by decide +kernel⟩, List.mem_of_getElem? (i := 584) (by decide +kernel), List.mem_of_getElem? (i := 752) (by decide +kernel), List.mem_of_getElem? (i := 753) (by decide +kernel)⟩
theorem lw_p37 : lw_okq (⟨"TraceProverModel", "grow", "(I)I"⟩, 24) := ⟨⟨by decide +kernel, by decide +kernel⟩, List.mem_of_getElem? (i := 584) (by decide +kernel), List.mem_of_getElem? (i := 761) (by decide +kernel), List.mem_of_getElem? (i := 762) (by decide +kernel)⟩
theorem lw_p38 : lw_okq (⟨"TraceProverModel", "challenge", "()I"⟩, 24) := ⟨⟨by decide +kernel, by decide +kernel⟩, List.mem_of_getElem? (i := 584) (by decide +kernel), List.mem_of_getElem? (i := 774) (by decide +kernel), List.mem_of_getElem? (i := 775) (by decide +kernel)⟩
theorem lw_p39 : lw_okq (⟨"TraceProverModel", "composition", "(I)I"⟩, 24) := ⟨⟨by decide +kernel, by decide +kernel⟩, List.mem_of_getElem? (i := 584) (by decide +kernel), List.mem_of_getElem? (i := 779) (by decide +kernel), List.mem_of_getElem? (i := 780) (by decide +kernel)⟩
theorem lw_p40 : lw_okq (⟨"TraceProverModel", "nextLayer", "(I)V"⟩, 24) := ⟨⟨by decide +kernel, by decide +kernel⟩, List.mem_of_getElem? (i := 584) (by decide +kernel), List.mem_of_getElem? (i := 783) (by decide +kernel), List.mem_of_getElem? (i := 784) (by decide +kernel)⟩
theorem lw_p41 : lw_okq (⟨"TraceProverModel", "folded", "(IIII)I"⟩, 24) := ⟨⟨by decide +kernel, by decide +kernel⟩, List.mem_of_getElem? (i := 584) (by decide +kernel), List.mem_of_getElem? (i := 787) (by decide +kernel), List.mem_of_getElem? (i := 788) (by decide +kernel)⟩
theorem lw_p42 : lw_okq (⟨"TraceProverModel", "tellRest", "(I)V"⟩, 24) := ⟨⟨by decide +kernel, by decide +kernel⟩, List.mem_of_getElem? (i := 584) (by decide +kernel), List.mem_of_getElem? (i := 791) (by decide +kernel), List.mem_of_getElem? (i := 792) (by decide +kernel)⟩
theorem lw_p43 : lw_okq (⟨"TraceProverModel", "writeOpening", "(I)V"⟩, 24) := ⟨⟨by decide +kernel, by decide +kernel⟩, List.mem_of_getElem? (i := 584) (by decide +kernel), List.mem_of_getElem? (i := 795) (by decide +kernel), List.mem_of_getElem? (i := 796) (by decide +kernel)⟩
theorem lw_p44 : lw_okq (⟨"TraceProverModel", "write", "(I)V"⟩, 24) := ⟨⟨by decide +kernel, by decide +kernel⟩, List.mem_of_getElem? (i := 584) (by decide +kernel), List.mem_of_getElem? (i := 799) (by decide +kernel), List.mem_of_getElem? (i := 800) (by decide +kernel)⟩
theorem lw_p45 : lw_okq (⟨"TraceProverModel", "writePath", "(II)V"⟩, 24) := ⟨⟨by decide +kernel, by decide +kernel⟩, List.mem_of_getElem? (i := 584) (by decide +kernel), List.mem_of_getElem? (i := 803) (by decide +kernel), List.mem_of_getElem? (i := 804) (by decide +kernel)⟩
theorem lw_p46 : lw_okq (⟨"TraceProverModel", "allNumbers", "()Z"⟩, 24) := ⟨⟨by decide +kernel, by decide +kernel⟩, List.mem_of_getElem? (i := 584) (by decide +kernel), List.mem_of_getElem? (i := 819) (by decide +kernel), List.mem_of_getElem? (i := 820) (by decide +kernel)⟩
theorem lw_p47 : lw_okq (⟨"TraceProverModel", "code", "(I)I"⟩, 24) := ⟨⟨by decide +kernel, by decide +kernel⟩, List.mem_of_getElem? (i := 584) (by decide +kernel), List.mem_of_getElem? (i := 826) (by decide +kernel), List.mem_of_getElem? (i := 827) (by decide +kernel)⟩
def lw_privs_3 : List (MethodName × Nat) := [(⟨"TraceProverModel", "letters", "(IIII)V"⟩, 24), (⟨"TraceProverModel", "summed", "(I)I"⟩, 24), (⟨"TraceProverModel", "constraints", "()I"⟩, 24), (⟨"TraceProverModel", "tellRules", "()V"⟩, 24), (⟨"TraceProverModel", "tell", "(I)V"⟩, 24), (⟨"TraceProverModel", "grow", "(I)I"⟩, 24), (⟨"TraceProverModel", "challenge", "()I"⟩, 24), (⟨"TraceProverModel", "composition", "(I)I"⟩, 24), (⟨"TraceProverModel", "nextLayer", "(I)V"⟩, 24), (⟨"TraceProverModel", "folded", "(IIII)I"⟩, 24), (⟨"TraceProverModel", "tellRest", "(I)V"⟩, 24), (⟨"TraceProverModel", "writeOpening", "(I)V"⟩, 24), (⟨"TraceProverModel", "write", "(I)V"⟩, 24), (⟨"TraceProverModel", "writePath", "(II)V"⟩, 24), (⟨"TraceProverModel", "allNumbers", "()Z"⟩, 24), (⟨"TraceProverModel", "code", "(I)I"⟩, 24)]
theorem lw_r3 : ∀ q ∈ lw_privs_3, lw_okq q := List.forall_mem_cons.mpr ⟨lw_p32, List.forall_mem_cons.mpr ⟨lw_p33, List.forall_mem_cons.mpr ⟨lw_p34, List.forall_mem_cons.mpr ⟨lw_p35, List.forall_mem_cons.mpr ⟨lw_p36, List.forall_mem_cons.mpr ⟨lw_p37, List.forall_mem_cons.mpr ⟨lw_p38, List.forall_mem_cons.mpr ⟨lw_p39, List.forall_mem_cons.mpr ⟨lw_p40, List.forall_mem_cons.mpr ⟨lw_p41, List.forall_mem_cons.mpr ⟨lw_p42, List.forall_mem_cons.mpr ⟨lw_p43, List.forall_mem_cons.mpr ⟨lw_p44, List.forall_mem_cons.mpr ⟨lw_p45, List.forall_mem_cons.mpr ⟨lw_p46, List.forall_mem_cons.mpr ⟨lw_p47, fun _ h => absurd h List.not_mem_nil⟩⟩⟩⟩⟩⟩⟩⟩⟩⟩⟩⟩⟩⟩⟩⟩
theorem lw_p48 : lw_okq (⟨"TraceProverModel", "opens", "(II)Z"⟩, 24) := ⟨⟨by decide +kernel, by decide +kernel⟩, List.mem_of_getElem? (i := 584) (by decide +kernel), List.mem_of_getElem? (i := 830) (by decide +kernel), List.mem_of_getElem? (i := 831) (by decide +kernel)⟩
theorem lw_p49 : lw_okq (⟨"TraceProverModel", "leads", "(IIII)Z"⟩, 24) := ⟨⟨by decide +kernel, by decide +kernel⟩, List.mem_of_getElem? (i := 584) (by decide +kernel), List.mem_of_getElem? (i := 834) (by decide +kernel), List.mem_of_getElem? (i := 835) (by decide +kernel)⟩
theorem lw_p50 : lw_okq (⟨"TraceProverModel", "opensLayer", "(III)Z"⟩, 24) := ⟨⟨by decide +kernel, by decide +kernel⟩, List.mem_of_getElem? (i := 584) (by decide +kernel), List.mem_of_getElem? (i := 838) (by decide +kernel), List.mem_of_getElem? (i := 839) (by decide +kernel)⟩
theorem lw_p51 : lw_okq (⟨"TraceProverModel", "composes", "(II)Z"⟩, 24) := ⟨⟨by decide +kernel, by decide +kernel⟩, List.mem_of_getElem? (i := 584) (by decide +kernel), List.mem_of_getElem? (i := 842) (by decide +kernel), List.mem_of_getElem? (i := 843) (by decide +kernel)⟩
theorem lw_p52 : lw_okq (⟨"TraceProverModel", "folds", "(III)Z"⟩, 24) := ⟨⟨by decide +kernel, by decide +kernel⟩, List.mem_of_getElem? (i := 584) (by decide +kernel), List.mem_of_getElem? (i := 846) (by decide +kernel), List.mem_of_getElem? (i := 847) (by decide +kernel)⟩
def lw_privs_4 : List (MethodName × Nat) := [(⟨"TraceProverModel", "opens", "(II)Z"⟩, 24), (⟨"TraceProverModel", "leads", "(IIII)Z"⟩, 24), (⟨"TraceProverModel", "opensLayer", "(III)Z"⟩, 24), (⟨"TraceProverModel", "composes", "(II)Z"⟩, 24), (⟨"TraceProverModel", "folds", "(III)Z"⟩, 24)]
theorem lw_r4 : ∀ q ∈ lw_privs_4, lw_okq q := List.forall_mem_cons.mpr ⟨lw_p48, List.forall_mem_cons.mpr ⟨lw_p49, List.forall_mem_cons.mpr ⟨lw_p50, List.forall_mem_cons.mpr ⟨lw_p51, List.forall_mem_cons.mpr ⟨lw_p52, fun _ h => absurd h List.not_mem_nil⟩⟩⟩⟩⟩
def lw_privs : List (MethodName × Nat) := lw_privs_1 ++ (lw_privs_2 ++ (lw_privs_3 ++ (lw_privs_4)))
def lw_tbl : List Cond := k2_sels lw_privs ++ tables_1
theorem lw_privs_ok : ∀ q ∈ lw_privs, lw_okq q := by
  show ∀ q ∈ lw_privs_1 ++ (lw_privs_2 ++ (lw_privs_3 ++ (lw_privs_4))), lw_okq q
  exact List.forall_mem_append.mpr ⟨lw_r1, List.forall_mem_append.mpr ⟨lw_r2, List.forall_mem_append.mpr ⟨lw_r3, lw_r4⟩⟩⟩
end
section
def ew_T0 : u_T := fun k => match k with
  | 0 => ("TraceProver", "points", "LTraceProver$Points;", true)
  | 1 => ("TraceProver", "rules", "LTraceProver$Rules;", true)
  | 2 => ("TraceProver", "table", "LTraceProver$Table;", true)
  | 3 => ("TraceProver", "kept", "LTraceProver$Proof;", true)
  | 4 => ("TraceProver", "prover", "LTraceProver$Prover;", true)
  | 5 => ("TraceProver", "verifier", "LTraceProver$Verifier;", true)
  | 6 => ("TraceProver", "proved", "Z", false)
  | _ => ("TraceProver", "positionsKnown", "Z", false)
def ew_Y0 : Nat → FieldType := fun k => match k with
  | 0 => (.object "TraceProver$Points")
  | 1 => (.object "TraceProver$Rules")
  | 2 => (.object "TraceProver$Table")
  | 3 => (.object "TraceProver$Proof")
  | 4 => (.object "TraceProver$Prover")
  | 5 => (.object "TraceProver$Verifier")
  | 6 => .boolean
  | _ => .boolean
def ew_T1 : u_T := fun k => match k with
  | 0 => ("TraceProver$Points", "rootPowers", "[I", true)
  | 1 => ("TraceProver$Points", "overPoint", "[I", true)
  | 2 => ("TraceProver$Points", "overPointLessOne", "[I", true)
  | 3 => ("TraceProver$Points", "constraintFactors", "[I", true)
  | _ => ("TraceProver$Points", "columnFactors", "[I", true)
def ew_Y1 : Nat → FieldType := fun k => match k with
  | 0 => (.array .int)
  | 1 => (.array .int)
  | 2 => (.array .int)
  | 3 => (.array .int)
  | _ => (.array .int)
def ew_T2 : u_T := fun k => match k with
  | 0 => ("TraceProver$Rules", "points", "LTraceProver$Points;", true)
  | 1 => ("TraceProver$Rules", "termCounts", "[I", true)
  | 2 => ("TraceProver$Rules", "terms", "[[I", true)
  | 3 => ("TraceProver$Rules", "bounds", "[I", true)
  | 4 => ("TraceProver$Rules", "boundCount", "I", false)
  | _ => ("TraceProver$Rules", "letters", "[I", true)
def ew_Y2 : Nat → FieldType := fun k => match k with
  | 0 => (.object "TraceProver$Points")
  | 1 => (.array .int)
  | 2 => (.array (.array .int))
  | 3 => (.array .int)
  | 4 => .int
  | _ => (.array .int)
def ew_T3 : u_T := fun k => match k with
  | 0 => ("TraceProver$Table", "points", "LTraceProver$Points;", true)
  | _ => ("TraceProver$Table", "cells", "[[I", true)
def ew_Y3 : Nat → FieldType := fun k => match k with
  | 0 => (.object "TraceProver$Points")
  | _ => (.array (.array .int))
def ew_T4 : u_T := fun k => match k with
  | _ => ("TraceProver$Proof", "ints", "[I", true)
def ew_Y4 : Nat → FieldType := fun k => match k with
  | _ => (.array .int)
def ew_T5 : u_T := fun k => match k with
  | 0 => ("TraceProver$Prover", "points", "LTraceProver$Points;", true)
  | 1 => ("TraceProver$Prover", "rules", "LTraceProver$Rules;", true)
  | 2 => ("TraceProver$Prover", "table", "LTraceProver$Table;", true)
  | 3 => ("TraceProver$Prover", "talk", "LTraceProver$Talk;", true)
  | 4 => ("TraceProver$Prover", "columns", "[[I", true)
  | 5 => ("TraceProver$Prover", "layers", "[[I", true)
  | 6 => ("TraceProver$Prover", "columnTree", "LTraceProver$Tree;", true)
  | _ => ("TraceProver$Prover", "layerTrees", "[LTraceProver$Tree;", true)
def ew_Y5 : Nat → FieldType := fun k => match k with
  | 0 => (.object "TraceProver$Points")
  | 1 => (.object "TraceProver$Rules")
  | 2 => (.object "TraceProver$Table")
  | 3 => (.object "TraceProver$Talk")
  | 4 => (.array (.array .int))
  | 5 => (.array (.array .int))
  | 6 => (.object "TraceProver$Tree")
  | _ => (.array (.object "TraceProver$Tree"))
def ew_T6 : u_T := fun k => match k with
  | 0 => ("TraceProver$Verifier", "points", "LTraceProver$Points;", true)
  | 1 => ("TraceProver$Verifier", "rules", "LTraceProver$Rules;", true)
  | 2 => ("TraceProver$Verifier", "subject", "LTraceProver$Proof;", true)
  | 3 => ("TraceProver$Verifier", "ints", "[I", true)
  | _ => ("TraceProver$Verifier", "talk", "LTraceProver$Talk;", true)
def ew_Y6 : Nat → FieldType := fun k => match k with
  | 0 => (.object "TraceProver$Points")
  | 1 => (.object "TraceProver$Rules")
  | 2 => (.object "TraceProver$Proof")
  | 3 => (.array .int)
  | _ => (.object "TraceProver$Talk")
def ew_T7 : u_T := fun k => match k with
  | 0 => ("TraceProver$Talk", "transcript", "I", false)
  | 1 => ("TraceProver$Talk", "composing", "I", false)
  | 2 => ("TraceProver$Talk", "folding", "[I", true)
  | _ => ("TraceProver$Talk", "places", "[I", true)
def ew_Y7 : Nat → FieldType := fun k => match k with
  | 0 => .int
  | 1 => .int
  | 2 => (.array .int)
  | _ => (.array .int)
def ew_T8 : u_T := fun k => match k with
  | 0 => ("TraceProver$Tree", "leafCount", "I", true)
  | _ => ("TraceProver$Tree", "nodes", "[I", true)
def ew_Y8 : Nat → FieldType := fun k => match k with
  | 0 => .int
  | _ => (.array .int)
def ew_T9 : u_T := fun k => match k with
  | 0 => ("TraceProverModel", "cells", "[I", true)
  | 1 => ("TraceProverModel", "many", "[I", true)
  | 2 => ("TraceProverModel", "ks", "[I", true)
  | 3 => ("TraceProverModel", "us", "[I", true)
  | 4 => ("TraceProverModel", "vs", "[I", true)
  | 5 => ("TraceProverModel", "bounds", "I", false)
  | 6 => ("TraceProverModel", "boundC", "[I", true)
  | 7 => ("TraceProverModel", "boundR", "[I", true)
  | 8 => ("TraceProverModel", "boundV", "[I", true)
  | 9 => ("TraceProverModel", "made", "Z", false)
  | 10 => ("TraceProverModel", "row", "[I", true)
  | 11 => ("TraceProverModel", "written", "I", false)
  | 12 => ("TraceProverModel", "transcript", "I", false)
  | 13 => ("TraceProverModel", "rules", "I", false)
  | 14 => ("TraceProverModel", "mixing", "I", false)
  | 15 => ("TraceProverModel", "folding", "[I", true)
  | 16 => ("TraceProverModel", "positions", "[I", true)
  | 17 => ("TraceProverModel", "latest", "[I", true)
  | 18 => ("TraceProverModel", "seen", "Z", false)
  | 19 => ("TraceProverModel", "roots", "[I", true)
  | 20 => ("TraceProverModel", "poly", "[I", true)
  | 21 => ("TraceProverModel", "layer", "[I", true)
  | 22 => ("TraceProverModel", "node", "[I", true)
  | _ => ("TraceProverModel", "letter", "[I", true)
def ew_Y9 : Nat → FieldType := fun k => match k with
  | 0 => (.array .int)
  | 1 => (.array .int)
  | 2 => (.array .int)
  | 3 => (.array .int)
  | 4 => (.array .int)
  | 5 => .int
  | 6 => (.array .int)
  | 7 => (.array .int)
  | 8 => (.array .int)
  | 9 => .boolean
  | 10 => (.array .int)
  | 11 => .int
  | 12 => .int
  | 13 => .int
  | 14 => .int
  | 15 => (.array .int)
  | 16 => (.array .int)
  | 17 => (.array .int)
  | 18 => .boolean
  | 19 => (.array .int)
  | 20 => (.array .int)
  | 21 => (.array .int)
  | 22 => (.array .int)
  | _ => (.array .int)
def ew_cl : List vw_C := [("TraceProver", ew_T0, 8), ("TraceProver$Points", ew_T1, 5), ("TraceProver$Rules", ew_T2, 6), ("TraceProver$Table", ew_T3, 2), ("TraceProver$Proof", ew_T4, 1), ("TraceProver$Prover", ew_T5, 8), ("TraceProver$Verifier", ew_T6, 5), ("TraceProver$Talk", ew_T7, 4), ("TraceProver$Tree", ew_T8, 2), ("TraceProverModel", ew_T9, 24)]
def ew_ys : List (Nat → FieldType) := [ew_Y0, ew_Y1, ew_Y2, ew_Y3, ew_Y4, ew_Y5, ew_Y6, ew_Y7, ew_Y8, ew_Y9]
theorem ew_in0 : ∀ w ∈ u_ws "TraceProver" ew_T0 8, w ∈ lw_tbl := by decide +kernel
theorem ew_nm0 : ∀ a, a < 8 → ∀ b, b < 8 → a ≠ b → (ew_T0 a).2.1 ≠ (ew_T0 b).2.1 := by decide +kernel
theorem ew_ty0 : ∀ k, k < 8 → parseFieldDescriptor (ew_T0 k).2.2.1 = some (ew_Y0 k) := by decide +kernel
theorem ew_in1 : ∀ w ∈ u_ws "TraceProver$Points" ew_T1 5, w ∈ lw_tbl := by decide +kernel
theorem ew_nm1 : ∀ a, a < 5 → ∀ b, b < 5 → a ≠ b → (ew_T1 a).2.1 ≠ (ew_T1 b).2.1 := by decide +kernel
theorem ew_ty1 : ∀ k, k < 5 → parseFieldDescriptor (ew_T1 k).2.2.1 = some (ew_Y1 k) := by decide +kernel
theorem ew_in2 : ∀ w ∈ u_ws "TraceProver$Rules" ew_T2 6, w ∈ lw_tbl := by decide +kernel
theorem ew_nm2 : ∀ a, a < 6 → ∀ b, b < 6 → a ≠ b → (ew_T2 a).2.1 ≠ (ew_T2 b).2.1 := by decide +kernel
theorem ew_ty2 : ∀ k, k < 6 → parseFieldDescriptor (ew_T2 k).2.2.1 = some (ew_Y2 k) := by decide +kernel
theorem ew_in3 : ∀ w ∈ u_ws "TraceProver$Table" ew_T3 2, w ∈ lw_tbl := by decide +kernel
theorem ew_nm3 : ∀ a, a < 2 → ∀ b, b < 2 → a ≠ b → (ew_T3 a).2.1 ≠ (ew_T3 b).2.1 := by decide +kernel
theorem ew_ty3 : ∀ k, k < 2 → parseFieldDescriptor (ew_T3 k).2.2.1 = some (ew_Y3 k) := by decide +kernel
theorem ew_in4 : ∀ w ∈ u_ws "TraceProver$Proof" ew_T4 1, w ∈ lw_tbl := by decide +kernel
theorem ew_nm4 : ∀ a, a < 1 → ∀ b, b < 1 → a ≠ b → (ew_T4 a).2.1 ≠ (ew_T4 b).2.1 := by decide +kernel
theorem ew_ty4 : ∀ k, k < 1 → parseFieldDescriptor (ew_T4 k).2.2.1 = some (ew_Y4 k) := by decide +kernel
theorem ew_in5 : ∀ w ∈ u_ws "TraceProver$Prover" ew_T5 8, w ∈ lw_tbl := by decide +kernel
theorem ew_nm5 : ∀ a, a < 8 → ∀ b, b < 8 → a ≠ b → (ew_T5 a).2.1 ≠ (ew_T5 b).2.1 := by decide +kernel
theorem ew_ty5 : ∀ k, k < 8 → parseFieldDescriptor (ew_T5 k).2.2.1 = some (ew_Y5 k) := by decide +kernel
theorem ew_in6 : ∀ w ∈ u_ws "TraceProver$Verifier" ew_T6 5, w ∈ lw_tbl := by decide +kernel
theorem ew_nm6 : ∀ a, a < 5 → ∀ b, b < 5 → a ≠ b → (ew_T6 a).2.1 ≠ (ew_T6 b).2.1 := by decide +kernel
theorem ew_ty6 : ∀ k, k < 5 → parseFieldDescriptor (ew_T6 k).2.2.1 = some (ew_Y6 k) := by decide +kernel
theorem ew_in7 : ∀ w ∈ u_ws "TraceProver$Talk" ew_T7 4, w ∈ lw_tbl := by decide +kernel
theorem ew_nm7 : ∀ a, a < 4 → ∀ b, b < 4 → a ≠ b → (ew_T7 a).2.1 ≠ (ew_T7 b).2.1 := by decide +kernel
theorem ew_ty7 : ∀ k, k < 4 → parseFieldDescriptor (ew_T7 k).2.2.1 = some (ew_Y7 k) := by decide +kernel
theorem ew_in8 : ∀ w ∈ u_ws "TraceProver$Tree" ew_T8 2, w ∈ lw_tbl := by decide +kernel
theorem ew_nm8 : ∀ a, a < 2 → ∀ b, b < 2 → a ≠ b → (ew_T8 a).2.1 ≠ (ew_T8 b).2.1 := by decide +kernel
theorem ew_ty8 : ∀ k, k < 2 → parseFieldDescriptor (ew_T8 k).2.2.1 = some (ew_Y8 k) := by decide +kernel
theorem ew_in9 : ∀ w ∈ u_ws "TraceProverModel" ew_T9 24, w ∈ lw_tbl := by decide +kernel
theorem ew_nm9 : ∀ a, a < 24 → ∀ b, b < 24 → a ≠ b → (ew_T9 a).2.1 ≠ (ew_T9 b).2.1 := by decide +kernel
theorem ew_ty9 : ∀ k, k < 24 → parseFieldDescriptor (ew_T9 k).2.2.1 = some (ew_Y9 k) := by decide +kernel
theorem ew_in : ∀ (c : Nat) (q : vw_C), ew_cl[c]? = some q → ∀ w ∈ u_ws q.1 q.2.1 q.2.2, w ∈ lw_tbl := by
  intro c q h
  match c, h with
  | 0, h => cases h; exact ew_in0
  | 1, h => cases h; exact ew_in1
  | 2, h => cases h; exact ew_in2
  | 3, h => cases h; exact ew_in3
  | 4, h => cases h; exact ew_in4
  | 5, h => cases h; exact ew_in5
  | 6, h => cases h; exact ew_in6
  | 7, h => cases h; exact ew_in7
  | 8, h => cases h; exact ew_in8
  | 9, h => cases h; exact ew_in9
  | c + 10, h => simp [ew_cl] at h
theorem ew_ty : ∀ (c : Nat) (q : vw_C), ew_cl[c]? = some q → ∃ y, ew_ys[c]? = some y ∧ (∀ k, k < q.2.2 → parseFieldDescriptor (q.2.1 k).2.2.1 = some (y k)) ∧ ∀ a, a < q.2.2 → ∀ b, b < q.2.2 → a ≠ b → (q.2.1 a).2.1 ≠ (q.2.1 b).2.1 := by
  intro c q h
  match c, h with
  | 0, h => cases h; exact ⟨ew_Y0, rfl, ew_ty0, ew_nm0⟩
  | 1, h => cases h; exact ⟨ew_Y1, rfl, ew_ty1, ew_nm1⟩
  | 2, h => cases h; exact ⟨ew_Y2, rfl, ew_ty2, ew_nm2⟩
  | 3, h => cases h; exact ⟨ew_Y3, rfl, ew_ty3, ew_nm3⟩
  | 4, h => cases h; exact ⟨ew_Y4, rfl, ew_ty4, ew_nm4⟩
  | 5, h => cases h; exact ⟨ew_Y5, rfl, ew_ty5, ew_nm5⟩
  | 6, h => cases h; exact ⟨ew_Y6, rfl, ew_ty6, ew_nm6⟩
  | 7, h => cases h; exact ⟨ew_Y7, rfl, ew_ty7, ew_nm7⟩
  | 8, h => cases h; exact ⟨ew_Y8, rfl, ew_ty8, ew_nm8⟩
  | 9, h => cases h; exact ⟨ew_Y9, rfl, ew_ty9, ew_nm9⟩
  | c + 10, h => simp [ew_cl] at h
end
section
/-! THE SMALL MACHINE: shapes of cells, a memory of ints, a judgement over them that stands for the kit's W -/
abbrev ew_S : Type := Nat ⊕ ((Nat × List (Option Nat)) ⊕ (Nat × List (Option (Option Nat))))
abbrev ew_M : Type := Nat → Nat → Int32
abbrev ew_G : Type := Nat × (Nat → Nat) × Heap × (Nat → ClassId) × (Nat → ClassId) × (Nat → Nat → Nat)
abbrev ew_D : Type := String × MethodName × ByteArray × Nat × Option FieldType
def ew_isN : Cond → Bool
  | .fieldLinkNest .. => true
  | .methodLinkNest .. => true
  | _ => false
def ew_tb : List Cond := lw_tbl.filter goodWord
def ew_nt : List Cond := lw_tbl.filter ew_isN
theorem ew_mt {w : Cond} (h : w ∈ lw_tbl) (hg : goodWord w = true) : w ∈ ew_tb := List.mem_filter.mpr ⟨h, hg⟩
theorem ew_mn {w : Cond} (h : w ∈ lw_tbl) (hg : ew_isN w = true) : w ∈ ew_nt := List.mem_filter.mpr ⟨h, hg⟩
theorem ew_gd : ∀ w ∈ ew_tb, (w.onTables && w.keeps) = true ∨ ∃ ty, w = .arrayClass ty := fun w h => good_of_word (List.mem_filter.mp h).2
theorem ew_goodIn {c : Cond} (h : c ∈ ew_tb) (big : List Cond) (hb : ∀ w ∈ ew_tb, w ∈ big) : GoodIn big (c :: ew_tb) := fun w hw => (List.mem_cons.mp hw).elim (fun e => e ▸ ⟨hb _ h, ew_gd _ h⟩) (fun h => ⟨hb _ h, ew_gd _ h⟩)
def ew_ad (g : ew_G) (i : Nat) : Nat := if i < 3 then g.2.1 i else g.1 + (i - 3)
def ew_v (g : ew_G) : Value → Value
  | .ref i => .ref (ew_ad g i)
  | v => v
def ew_o (g : ew_G) : Option Nat → Value
  | none => .null
  | some i => .ref (ew_ad g i)
def ew_f (g : ew_G) (M : ew_M) (i : Nat) (fs : List (Option (Option Nat))) (k : Nat) : Value := match fs[k]? with
  | some none => .int (M i k)
  | some (some r) => ew_o g r
  | none => .null
def ew_at (g : ew_G) (s : State) (H : Heap) (M : ew_M) (i : Nat) : ew_S → Prop
  | .inl n => ∃ cell : Cell, H[ew_ad g i]? = some cell ∧ s.isArrayOf cell .int ∧ cell.vm ≠ .unknown ∧ cell.slots.size = n ∧ ∀ j : Nat, j < n → cell.slots[j]? = some (.int (M i j))
  | .inr (.inl (k, rs)) => H[ew_ad g i]? = some (arrV (g.2.2.2.1 k) rs.length (fun j => ew_o g (rs.getD j none)))
  | .inr (.inr (ci, fs)) => ∃ r : vw_C, ew_cl[ci]? = some r ∧ fs.length = r.2.2 ∧ t_OB (ew_ad g i) (g.2.2.2.2.1 ci) r.2.2 (g.2.2.2.2.2 ci) H (ew_f g M i fs)
def ew_h (g : ew_G) (s : State) (sh : List ew_S) (M : ew_M) (H : Heap) : Prop := 3 ≤ sh.length ∧ H.size = g.1 + (sh.length - 3) ∧ (∀ (i : Nat) (c : ew_S), sh[i]? = some c → ew_at g s H M i c) ∧ ∀ q : Nat, q < g.1 → H[q]? = g.2.2.1[q]?
def ew_k (g : ew_G) (s : State) : Prop :=
  (∀ (c : Nat) (q : vw_C), ew_cl[c]? = some q → u_Kn s q.1 q.2.1 q.2.2 (g.2.2.2.2.1 c) (g.2.2.2.2.2 c)) ∧ (∀ w ∈ ew_nt, va_Nw w s) ∧
  (∃ (kA kC : Class) (comp cc : ClassId), s.vm.classes[g.2.2.2.1 0]? = some kA ∧ kA.kind = .array comp (.array .int) ∧ s.vm.findClass ("[" ++ (FieldType.array .int).toString) = some (g.2.2.2.1 0) ∧ s.vm.classes[comp]? = some kC ∧ kC.kind = .array cc .int ∧ s.vm.findClass (FieldType.array .int).toString = some comp) ∧
  va_AO "TraceProver$Tree" s ∧ va_RA s (g.2.2.2.1 1) (.object "TraceProver$Tree") ∧
  va_Z "TraceProver$Proof" "COLUMN_STEPS" "[I" (.ref (g.2.1 1)) (fun q => g.1 ≤ q) s g.2.2.1 ∧ va_Z "TraceProver$Proof" "LAYER_STARTS" "[I" (.ref (g.2.1 2)) (fun q => g.1 ≤ q) s g.2.2.1 ∧
  ∀ i : Nat, i < 3 → g.2.1 i < g.1
theorem ew_k.moved {g : ew_G} {s U : State} (hW : s.WarmedH U.vm) (h : ew_k g s) : ew_k g U := by
  obtain ⟨h1, h2, ⟨kA, kC, comp, cc, a1, a2, a3, a4, a5, a6⟩, h4, h5, h6, h7, h8⟩ := h
  have hvm := hW.alike
  obtain ⟨kA', hkA', heA⟩ := hvm.2.2 _ _ a1
  obtain ⟨kC', hkC', heC⟩ := hvm.2.2 _ _ a4
  refine ⟨fun c q hq => u_Kn_moved hvm (h1 c q hq), fun w hw => ?_, ⟨kA', kC', comp, cc, hkA', by rw [heA]; exact a2, by rw [hvm.findClass]; exact a3, hkC', by rw [heC]; exact a5, by rw [hvm.findClass]; exact a6⟩, va_AO.moved hvm h4, h5.moved hvm, h6.moved hvm, h7.moved hvm, h8⟩
  have hn := (List.mem_filter.mp hw).2
  have hz := h2 w hw
  cases w <;> first | exact va_Nw.warmF hW hz | exact va_Nw.warmM hW hz | (simp [ew_isN] at hn; done)
theorem ew_at.moved {g : ew_G} {s U : State} {H : Heap} {M : ew_M} {i : Nat} {c : ew_S} (hvm : s.vm.Alike U.vm) (h : ew_at g s H M i c) : ew_at g U H M i c := by
  match c, h with
  | .inl n, ⟨ce, h1, h2, h3⟩ => exact ⟨ce, h1, State.isArrayOf_alike hvm h2, h3⟩
  | .inr (.inl _), h => exact h
  | .inr (.inr _), h => exact h
theorem ew_h.moved {g : ew_G} {s U : State} {sh : List ew_S} {M : ew_M} {H : Heap} (hvm : s.vm.Alike U.vm) (h : ew_h g s sh M H) : ew_h g U sh M H := ⟨h.1, h.2.1, fun i c hc => (h.2.2.1 i c hc).moved hvm, h.2.2.2⟩
def ew_x (g : ew_G) (m : ew_D) (p : Program) (s : State) (mid : MethodId) (args : Array Value) (meth : Method) (c : Code) : Prop :=
  p.tables.exec = Jvm.exec ∧ c.code = m.2.2.1 ∧ c.maxLocals = m.2.2.2.1 ∧ meth.sig.returnType = m.2.2.2.2 ∧ s.vm.findClass m.1 = some mid.cls ∧ (∀ w ∈ ew_tb, w.before args s = true) ∧ meth.locks = false ∧ meth.name = m.2.1.name ∧ ew_k g s
def ew_ir : Value → Bool
  | .int _ => true
  | .ref _ => true
  | _ => false
def ew_l (g : ew_G) (lr : Array Slot) (n : Nat) (ls : List Value) : Prop := lr.size = n ∧ ls.length = n ∧ lv_wf lr ∧ ∀ (i : Nat) (v : Value), ls[i]? = some v → ew_ir v = true → lr[i]? = some (.val (ew_v g v))
def ew_r (m : ew_D) (pc : Nat) : Option Value → Prop
  | none => m.2.2.2.2 = none ∧ decode m.2.2.1 pc = .ok (.return_, 1)
  | some (.int x) => decode m.2.2.1 pc = .ok (.ireturn, 1) ∧ (m.2.2.2.2 = some .int ∨ (m.2.2.2.2 = some .boolean ∧ (x = 0 ∨ x = 1)))
  | _ => False
/-- THE JUDGEMENT: from here the method comes to its end, with Q of its answer, the shapes and the memory; d calls deep at most, at most a cells of b slots new -/
def Ew (l : Launch) (g : ew_G) (d a b : Nat) (m : ew_D) (pc : Nat) (ls st : List Value) (sh : List ew_S) (M : ew_M) (Q : Option Value → List ew_S → ew_M → Prop) : Prop :=
  ∀ (p : Program) (e : Env) (R : Room) (s : State) (mid : MethodId) (args : Array Value) (below : List Frame) (meth : Method) (c : Code) (H : Heap) (locs : List Loc) (cells slots : Nat) (Z : State → Prop) (lr : Array Slot),
    ew_x g m p s mid args meth c → d ≤ R.frames → 28 * d ≤ R.locals → cells + a ≤ R.cells → slots + b ≤ R.slots → ew_h g s sh M H → (∀ q ∈ locs, g.1 ≤ q.base) → ew_l g lr m.2.2.2.1 ls →
    (∀ (v : Option Value) (sh' : List ew_S) (M' : ew_M) (H' : Heap) (locs' : List Loc) (pc' : Nat) (lr' : Array Slot), Q v sh' M' → ew_h g s sh' M' H' → (∀ q ∈ locs', g.1 ≤ q.base) → ew_r m pc' v →
      W p l e R s mid args below meth c H' locs' (cells + a) (slots + b) Z (F0 mid pc' lr' (v.toList.map (ew_v g)))) →
    W p l e R s mid args below meth c H locs cells slots Z (F0 mid pc lr (st.map (ew_v g)))
def ew_ls (g : ew_G) (ls : List Value) : List (Nat × Value) := (List.range ls.length).filterMap (fun i => match ls[i]? with
  | some v => if ew_ir v = true then some (i, ew_v g v) else none
  | none => none)
theorem ew_ls_mem {g : ew_G} {ls : List Value} {q : Nat × Value} : q ∈ ew_ls g ls ↔ ∃ v, ls[q.1]? = some v ∧ ew_ir v = true ∧ q.2 = ew_v g v := by
  unfold ew_ls
  rw [List.mem_filterMap]
  constructor
  · rintro ⟨i, hi, h⟩
    cases hv : ls[i]? with
    | none => rw [hv] at h; cases h
    | some v =>
      rw [hv] at h
      dsimp only at h
      by_cases hr : ew_ir v = true
      · rw [if_pos hr] at h
        cases h
        exact ⟨v, hv, hr, rfl⟩
      · rw [if_neg hr] at h
        cases h
  · rintro ⟨v, hv, hr, e⟩
    refine ⟨q.1, List.mem_range.mpr (List.getElem?_eq_some_iff.mp hv).1, ?_⟩
    rw [hv]
    dsimp only
    rw [if_pos hr, ← e]
theorem ew_l.has {g : ew_G} {lr : Array Slot} {n : Nat} {ls : List Value} (h : ew_l g lr n ls) : lv_has lr n (ew_ls g ls) := ⟨h.1, h.2.2.1, fun q hq => by
  obtain ⟨v, h1, h2, h3⟩ := ew_ls_mem.mp hq
  rw [h3]
  exact h.2.2.2 q.1 v h1 h2⟩
theorem ew_cat {g : ew_G} {v : Value} (h : ew_ir v = true) : (ew_v g v).category = 1 := by
  cases v <;> first | rfl | (simp [ew_ir] at h; done)
theorem ew_l.put {g : ew_G} {lr lr' : Array Slot} {n i : Nat} {ls : List Value} {w : Value} (h : ew_l g lr n ls) (h' : lv_has lr' n ((i, ew_v g w) :: (ew_ls g ls).filter (fun q => !(q.1 == i) && !(q.1 + 1 == i && q.2.category == 2)))) : ew_l g lr' n (ls.set i w) := by
  refine ⟨h'.1, by rw [List.length_set]; exact h.2.1, h'.2.1, fun j v hv hr => ?_⟩
  by_cases e : j = i
  · subst e
    have hj : j < ls.length := by
      have := (List.getElem?_eq_some_iff.mp hv).1
      rw [List.length_set] at this
      exact this
    rw [List.getElem?_set_self hj] at hv
    cases hv
    exact h'.2.2 (j, ew_v g w) List.mem_cons_self
  · rw [List.getElem?_set_ne (fun q => e q.symm)] at hv
    refine h'.2.2 (j, ew_v g v) (List.mem_cons_of_mem _ (List.mem_filter.mpr ⟨ew_ls_mem.mpr ⟨v, hv, hr, rfl⟩, ?_⟩))
    have hc : (ew_v g v).category = 1 := ew_cat hr
    simp [e, hc]
theorem ew_l.at {g : ew_G} {lr : Array Slot} {n i : Nat} {ls : List Value} {v : Value} (h : ew_l g lr n ls) (hv : ls[i]? = some v) (hr : ew_ir v = true) : lr[i]? = some (.val (ew_v g v)) := h.2.2.2 i v hv hr
end
section
section EWR
variable {l : Launch} {g : ew_G} {d a b : Nat} {m : ew_D} {pc : Nat} {ls st : List Value} {sh : List ew_S} {M : ew_M} {Q : Option Value → List ew_S → ew_M → Prop}
theorem ew_iconst {n : Int} {v : Int32} (hd : decode m.2.2.1 pc = .ok (.iconst n, 1)) (hv : Int32.ofInt n = v) (k : Ew l g d a b m (pc + 1) ls (.int v :: st) sh M Q) : Ew l g d a b m pc ls (st) sh M Q := by
  intro p e R s mid args below meth c H locs cells slots Z lr X h1 h2 h3 h4 hH hlo hL hr
  exact lv_iconst X.1 X.2.1 hd hv (k p e R s mid args below meth c H locs cells slots Z lr X h1 h2 h3 h4 hH hlo hL hr)
theorem ew_bipush {n : Int} {v : Int32} (hd : decode m.2.2.1 pc = .ok (.bipush n, 2)) (hv : (Int8.ofInt n).toInt32 = v) (k : Ew l g d a b m (pc + 2) ls (.int v :: st) sh M Q) : Ew l g d a b m pc ls (st) sh M Q := by
  intro p e R s mid args below meth c H locs cells slots Z lr X h1 h2 h3 h4 hH hlo hL hr
  exact lv_bipush X.1 X.2.1 hd hv (k p e R s mid args below meth c H locs cells slots Z lr X h1 h2 h3 h4 hH hlo hL hr)
theorem ew_sipush {n : Int} {v : Int32} (hd : decode m.2.2.1 pc = .ok (.sipush n, 3)) (hv : (Int16.ofInt n).toInt32 = v) (k : Ew l g d a b m (pc + 3) ls (.int v :: st) sh M Q) : Ew l g d a b m pc ls (st) sh M Q := by
  intro p e R s mid args below meth c H locs cells slots Z lr X h1 h2 h3 h4 hH hlo hL hr
  exact lv_sipush X.1 X.2.1 hd hv (k p e R s mid args below meth c H locs cells slots Z lr X h1 h2 h3 h4 hH hlo hL hr)
theorem ew_ldc {i : Nat} {v : Int32} (hd : decode m.2.2.1 pc = .ok (.ldc i, 2)) (hc : Jvm.Cond.constant m.1 i v ∈ ew_tb) (k : Ew l g d a b m (pc + 2) ls (.int v :: st) sh M Q) : Ew l g d a b m pc ls (st) sh M Q := by
  intro p e R s mid args below meth c H locs cells slots Z lr X h1 h2 h3 h4 hH hlo hL hr
  exact lv_ldc X.1 X.2.1 X.2.2.2.2.1 (X.2.2.2.2.2.1 _ hc) hd (k p e R s mid args below meth c H locs cells slots Z lr X h1 h2 h3 h4 hH hlo hL hr)
theorem ew_iload_n {i : Fin 4} {x : Int32} (hd : decode m.2.2.1 pc = .ok (.iload_n i, 1)) (hl : ls[i.val]? = some (.int x)) (k : Ew l g d a b m (pc + 1) ls (.int x :: st) sh M Q) : Ew l g d a b m pc ls (st) sh M Q := by
  intro p e R s mid args below meth c H locs cells slots Z lr X h1 h2 h3 h4 hH hlo hL hr
  exact lv_iload_n X.1 X.2.1 hd rfl (hL.at hl rfl) (k p e R s mid args below meth c H locs cells slots Z lr X h1 h2 h3 h4 hH hlo hL hr)
theorem ew_iload {i : Nat} {x : Int32} (hd : decode m.2.2.1 pc = .ok (.iload i, 2)) (hl : ls[i]? = some (.int x)) (k : Ew l g d a b m (pc + 2) ls (.int x :: st) sh M Q) : Ew l g d a b m pc ls (st) sh M Q := by
  intro p e R s mid args below meth c H locs cells slots Z lr X h1 h2 h3 h4 hH hlo hL hr
  exact lv_iload X.1 X.2.1 hd (hL.at hl rfl) (k p e R s mid args below meth c H locs cells slots Z lr X h1 h2 h3 h4 hH hlo hL hr)
theorem ew_aload_n {i : Fin 4} {x : Nat} (hd : decode m.2.2.1 pc = .ok (.aload_n i, 1)) (hl : ls[i.val]? = some (.ref x)) (k : Ew l g d a b m (pc + 1) ls (.ref x :: st) sh M Q) : Ew l g d a b m pc ls (st) sh M Q := by
  intro p e R s mid args below meth c H locs cells slots Z lr X h1 h2 h3 h4 hH hlo hL hr
  exact lv_aload_n X.1 X.2.1 hd rfl (hL.at hl rfl) (k p e R s mid args below meth c H locs cells slots Z lr X h1 h2 h3 h4 hH hlo hL hr)
theorem ew_aload {i : Nat} {x : Nat} (hd : decode m.2.2.1 pc = .ok (.aload i, 2)) (hl : ls[i]? = some (.ref x)) (k : Ew l g d a b m (pc + 2) ls (.ref x :: st) sh M Q) : Ew l g d a b m pc ls (st) sh M Q := by
  intro p e R s mid args below meth c H locs cells slots Z lr X h1 h2 h3 h4 hH hlo hL hr
  exact lv_aload X.1 X.2.1 hd (hL.at hl rfl) (k p e R s mid args below meth c H locs cells slots Z lr X h1 h2 h3 h4 hH hlo hL hr)
theorem ew_iadd {x y : Int32} (hd : decode m.2.2.1 pc = .ok (.iadd, 1)) (k : Ew l g d a b m (pc + 1) ls (.int (x + y) :: st) sh M Q) : Ew l g d a b m pc ls (.int y :: .int x :: st) sh M Q := by
  intro p e R s mid args below meth c H locs cells slots Z lr X h1 h2 h3 h4 hH hlo hL hr
  exact lv_iadd X.1 X.2.1 hd (k p e R s mid args below meth c H locs cells slots Z lr X h1 h2 h3 h4 hH hlo hL hr)
theorem ew_isub {x y : Int32} (hd : decode m.2.2.1 pc = .ok (.isub, 1)) (k : Ew l g d a b m (pc + 1) ls (.int (x - y) :: st) sh M Q) : Ew l g d a b m pc ls (.int y :: .int x :: st) sh M Q := by
  intro p e R s mid args below meth c H locs cells slots Z lr X h1 h2 h3 h4 hH hlo hL hr
  exact lv_isub X.1 X.2.1 hd (k p e R s mid args below meth c H locs cells slots Z lr X h1 h2 h3 h4 hH hlo hL hr)
theorem ew_imul {x y : Int32} (hd : decode m.2.2.1 pc = .ok (.imul, 1)) (k : Ew l g d a b m (pc + 1) ls (.int (x * y) :: st) sh M Q) : Ew l g d a b m pc ls (.int y :: .int x :: st) sh M Q := by
  intro p e R s mid args below meth c H locs cells slots Z lr X h1 h2 h3 h4 hH hlo hL hr
  exact lv_imul X.1 X.2.1 hd (k p e R s mid args below meth c H locs cells slots Z lr X h1 h2 h3 h4 hH hlo hL hr)
theorem ew_iand {x y : Int32} (hd : decode m.2.2.1 pc = .ok (.iand, 1)) (k : Ew l g d a b m (pc + 1) ls (.int (x &&& y) :: st) sh M Q) : Ew l g d a b m pc ls (.int y :: .int x :: st) sh M Q := by
  intro p e R s mid args below meth c H locs cells slots Z lr X h1 h2 h3 h4 hH hlo hL hr
  exact lv_iand X.1 X.2.1 hd (k p e R s mid args below meth c H locs cells slots Z lr X h1 h2 h3 h4 hH hlo hL hr)
theorem ew_ior {x y : Int32} (hd : decode m.2.2.1 pc = .ok (.ior, 1)) (k : Ew l g d a b m (pc + 1) ls (.int (x ||| y) :: st) sh M Q) : Ew l g d a b m pc ls (.int y :: .int x :: st) sh M Q := by
  intro p e R s mid args below meth c H locs cells slots Z lr X h1 h2 h3 h4 hH hlo hL hr
  exact lv_ior X.1 X.2.1 hd (k p e R s mid args below meth c H locs cells slots Z lr X h1 h2 h3 h4 hH hlo hL hr)
theorem ew_ixor {x y : Int32} (hd : decode m.2.2.1 pc = .ok (.ixor, 1)) (k : Ew l g d a b m (pc + 1) ls (.int (x ^^^ y) :: st) sh M Q) : Ew l g d a b m pc ls (.int y :: .int x :: st) sh M Q := by
  intro p e R s mid args below meth c H locs cells slots Z lr X h1 h2 h3 h4 hH hlo hL hr
  exact lv_ixor X.1 X.2.1 hd (k p e R s mid args below meth c H locs cells slots Z lr X h1 h2 h3 h4 hH hlo hL hr)
theorem ew_ishl {x y : Int32} (hd : decode m.2.2.1 pc = .ok (.ishl, 1)) (k : Ew l g d a b m (pc + 1) ls (.int (x <<< (y &&& 31)) :: st) sh M Q) : Ew l g d a b m pc ls (.int y :: .int x :: st) sh M Q := by
  intro p e R s mid args below meth c H locs cells slots Z lr X h1 h2 h3 h4 hH hlo hL hr
  exact lv_ishl X.1 X.2.1 hd (k p e R s mid args below meth c H locs cells slots Z lr X h1 h2 h3 h4 hH hlo hL hr)
theorem ew_ishr {x y : Int32} (hd : decode m.2.2.1 pc = .ok (.ishr, 1)) (k : Ew l g d a b m (pc + 1) ls (.int (x >>> (y &&& 31)) :: st) sh M Q) : Ew l g d a b m pc ls (.int y :: .int x :: st) sh M Q := by
  intro p e R s mid args below meth c H locs cells slots Z lr X h1 h2 h3 h4 hH hlo hL hr
  exact lv_ishr X.1 X.2.1 hd (k p e R s mid args below meth c H locs cells slots Z lr X h1 h2 h3 h4 hH hlo hL hr)
theorem ew_iushr {x y : Int32} (hd : decode m.2.2.1 pc = .ok (.iushr, 1)) (k : Ew l g d a b m (pc + 1) ls (.int (x.toUInt32 >>> (y.toUInt32 &&& Int32.toUInt32 31)).toInt32 :: st) sh M Q) : Ew l g d a b m pc ls (.int y :: .int x :: st) sh M Q := by
  intro p e R s mid args below meth c H locs cells slots Z lr X h1 h2 h3 h4 hH hlo hL hr
  exact lv_iushr X.1 X.2.1 hd rfl (k p e R s mid args below meth c H locs cells slots Z lr X h1 h2 h3 h4 hH hlo hL hr)
theorem ew_idiv {x y : Int32} (hd : decode m.2.2.1 pc = .ok (.idiv, 1)) (hne : ¬ y = 0) (k : Ew l g d a b m (pc + 1) ls (.int (x / y) :: st) sh M Q) : Ew l g d a b m pc ls (.int y :: .int x :: st) sh M Q := by
  intro p e R s mid args below meth c H locs cells slots Z lr X h1 h2 h3 h4 hH hlo hL hr
  exact lv_idiv X.1 X.2.1 hd hne (k p e R s mid args below meth c H locs cells slots Z lr X h1 h2 h3 h4 hH hlo hL hr)
theorem ew_irem {x y : Int32} (hd : decode m.2.2.1 pc = .ok (.irem, 1)) (hne : ¬ y = 0) (k : Ew l g d a b m (pc + 1) ls (.int (x - x / y * y) :: st) sh M Q) : Ew l g d a b m pc ls (.int y :: .int x :: st) sh M Q := by
  intro p e R s mid args below meth c H locs cells slots Z lr X h1 h2 h3 h4 hH hlo hL hr
  exact lv_irem X.1 X.2.1 hd hne (k p e R s mid args below meth c H locs cells slots Z lr X h1 h2 h3 h4 hH hlo hL hr)
theorem ew_ineg {x : Int32} (hd : decode m.2.2.1 pc = .ok (.ineg, 1)) (k : Ew l g d a b m (pc + 1) ls (.int (-x) :: st) sh M Q) : Ew l g d a b m pc ls (.int x :: st) sh M Q := by
  intro p e R s mid args below meth c H locs cells slots Z lr X h1 h2 h3 h4 hH hlo hL hr
  exact lv_ineg X.1 X.2.1 hd (k p e R s mid args below meth c H locs cells slots Z lr X h1 h2 h3 h4 hH hlo hL hr)
theorem ew_dupi {x : Int32} (hd : decode m.2.2.1 pc = .ok (.dup, 1)) (k : Ew l g d a b m (pc + 1) ls (.int x :: .int x :: st) sh M Q) : Ew l g d a b m pc ls (.int x :: st) sh M Q := by
  intro p e R s mid args below meth c H locs cells slots Z lr X h1 h2 h3 h4 hH hlo hL hr
  exact lv_dup X.1 X.2.1 hd rfl (k p e R s mid args below meth c H locs cells slots Z lr X h1 h2 h3 h4 hH hlo hL hr)
theorem ew_dupr {x : Nat} (hd : decode m.2.2.1 pc = .ok (.dup, 1)) (k : Ew l g d a b m (pc + 1) ls (.ref x :: .ref x :: st) sh M Q) : Ew l g d a b m pc ls (.ref x :: st) sh M Q := by
  intro p e R s mid args below meth c H locs cells slots Z lr X h1 h2 h3 h4 hH hlo hL hr
  exact lv_dup X.1 X.2.1 hd rfl (k p e R s mid args below meth c H locs cells slots Z lr X h1 h2 h3 h4 hH hlo hL hr)
theorem ew_dup2 {x : Int32} {r : Nat} (hd : decode m.2.2.1 pc = .ok (.dup2, 1)) (k : Ew l g d a b m (pc + 1) ls (.int x :: .ref r :: .int x :: .ref r :: st) sh M Q) : Ew l g d a b m pc ls (.int x :: .ref r :: st) sh M Q := by
  intro p e R s mid args below meth c H locs cells slots Z lr X h1 h2 h3 h4 hH hlo hL hr
  exact lv_dup2_11 X.1 X.2.1 hd rfl rfl (k p e R s mid args below meth c H locs cells slots Z lr X h1 h2 h3 h4 hH hlo hL hr)
theorem ew_popi {x : Int32} (hd : decode m.2.2.1 pc = .ok (.pop, 1)) (k : Ew l g d a b m (pc + 1) ls (st) sh M Q) : Ew l g d a b m pc ls (.int x :: st) sh M Q := by
  intro p e R s mid args below meth c H locs cells slots Z lr X h1 h2 h3 h4 hH hlo hL hr
  exact lv_pop X.1 X.2.1 hd rfl (k p e R s mid args below meth c H locs cells slots Z lr X h1 h2 h3 h4 hH hlo hL hr)
theorem ew_goto {off : Int} {tgt : Nat} (hd : decode m.2.2.1 pc = .ok (.goto off, 3)) (ht : (pc : Int) + off = (tgt : Int)) (k : Ew l g d a b m tgt ls st sh M Q) : Ew l g d a b m pc ls st sh M Q := by
  intro p e R s mid args below meth c H locs cells slots Z lr X h1 h2 h3 h4 hH hlo hL hr
  exact lv_goto X.1 X.2.1 hd ht (k p e R s mid args below meth c H locs cells slots Z lr X h1 h2 h3 h4 hH hlo hL hr)
theorem ew_istore_n {i : Fin 4} {x : Int32} (hd : decode m.2.2.1 pc = .ok (.istore_n i, 1)) (hi : i.val < ls.length) (k : Ew l g d a b m (pc + 1) (ls.set i.val (.int x)) st sh M Q) : Ew l g d a b m pc ls (.int x :: st) sh M Q := by
  intro p e R s mid args below meth c H locs cells slots Z lr X h1 h2 h3 h4 hH hlo hL hr
  exact lv_istore_n X.1 X.2.1 hd rfl hL.has (by rw [← hL.2.1]; exact hi) rfl (fun lr' hL' => k p e R s mid args below meth c H locs cells slots Z lr' X h1 h2 h3 h4 hH hlo (hL.put (w := .int x) hL') hr)
theorem ew_istore {i : Nat} {x : Int32} (hd : decode m.2.2.1 pc = .ok (.istore i, 2)) (hi : i < ls.length) (k : Ew l g d a b m (pc + 2) (ls.set i (.int x)) st sh M Q) : Ew l g d a b m pc ls (.int x :: st) sh M Q := by
  intro p e R s mid args below meth c H locs cells slots Z lr X h1 h2 h3 h4 hH hlo hL hr
  exact lv_istore X.1 X.2.1 hd hL.has (by rw [← hL.2.1]; exact hi) rfl (fun lr' hL' => k p e R s mid args below meth c H locs cells slots Z lr' X h1 h2 h3 h4 hH hlo (hL.put (w := .int x) hL') hr)
theorem ew_astore_n {i : Fin 4} {x : Nat} (hd : decode m.2.2.1 pc = .ok (.astore_n i, 1)) (hi : i.val < ls.length) (k : Ew l g d a b m (pc + 1) (ls.set i.val (.ref x)) st sh M Q) : Ew l g d a b m pc ls (.ref x :: st) sh M Q := by
  intro p e R s mid args below meth c H locs cells slots Z lr X h1 h2 h3 h4 hH hlo hL hr
  exact lv_astore_n X.1 X.2.1 hd rfl hL.has (by rw [← hL.2.1]; exact hi) rfl (fun lr' hL' => k p e R s mid args below meth c H locs cells slots Z lr' X h1 h2 h3 h4 hH hlo (hL.put (w := .ref x) hL') hr)
theorem ew_astore {i : Nat} {x : Nat} (hd : decode m.2.2.1 pc = .ok (.astore i, 2)) (hi : i < ls.length) (k : Ew l g d a b m (pc + 2) (ls.set i (.ref x)) st sh M Q) : Ew l g d a b m pc ls (.ref x :: st) sh M Q := by
  intro p e R s mid args below meth c H locs cells slots Z lr X h1 h2 h3 h4 hH hlo hL hr
  exact lv_astore X.1 X.2.1 hd hL.has (by rw [← hL.2.1]; exact hi) rfl (fun lr' hL' => k p e R s mid args below meth c H locs cells slots Z lr' X h1 h2 h3 h4 hH hlo (hL.put (w := .ref x) hL') hr)
theorem ew_iinc {i : Nat} {n : Int} {x v : Int32} (hd : decode m.2.2.1 pc = .ok (.iinc i n, 3)) (hl : ls[i]? = some (.int x)) (hv : x + Int32.ofInt n = v) (k : Ew l g d a b m (pc + 3) (ls.set i (.int v)) st sh M Q) : Ew l g d a b m pc ls st sh M Q := by
  intro p e R s mid args below meth c H locs cells slots Z lr X h1 h2 h3 h4 hH hlo hL hr
  have hi : i < ls.length := (List.getElem?_eq_some_iff.mp hl).1
  obtain ⟨j, hj⟩ := List.getElem?_of_mem (ew_ls_mem.mpr ⟨Value.int x, hl, rfl, rfl⟩ : (i, ew_v g (.int x)) ∈ ew_ls g ls)
  exact lv_iinc X.1 X.2.1 hd hL.has hj hv (by rw [← hL.2.1]; exact hi) rfl (fun lr' hL' => k p e R s mid args below meth c H locs cells slots Z lr' X h1 h2 h3 h4 hH hlo (hL.put (w := .int v) hL') hr)
theorem ew_if_eq {x : Int32} {off : Int} {tgt : Nat} (hd : decode m.2.2.1 pc = .ok (.ifCond .eq off, 3)) (ht : (pc : Int) + off = (tgt : Int)) (kt : x = 0 → Ew l g d a b m tgt ls st sh M Q) (kf : ¬ x = 0 → Ew l g d a b m (pc + 3) ls st sh M Q) : Ew l g d a b m pc ls (.int x :: st) sh M Q := by
  intro p e R s mid args below meth c H locs cells slots Z lr X h1 h2 h3 h4 hH hlo hL hr
  exact lv_if_eq X.1 X.2.1 hd ht (fun q => kt q p e R s mid args below meth c H locs cells slots Z lr X h1 h2 h3 h4 hH hlo hL hr) (fun q => kf q p e R s mid args below meth c H locs cells slots Z lr X h1 h2 h3 h4 hH hlo hL hr)
theorem ew_icmp_eq {x y : Int32} {off : Int} {tgt : Nat} (hd : decode m.2.2.1 pc = .ok (.if_icmp .eq off, 3)) (ht : (pc : Int) + off = (tgt : Int)) (kt : x = y → Ew l g d a b m tgt ls st sh M Q) (kf : ¬ x = y → Ew l g d a b m (pc + 3) ls st sh M Q) : Ew l g d a b m pc ls (.int y :: .int x :: st) sh M Q := by
  intro p e R s mid args below meth c H locs cells slots Z lr X h1 h2 h3 h4 hH hlo hL hr
  exact lv_icmp_eq X.1 X.2.1 hd ht (fun q => kt q p e R s mid args below meth c H locs cells slots Z lr X h1 h2 h3 h4 hH hlo hL hr) (fun q => kf q p e R s mid args below meth c H locs cells slots Z lr X h1 h2 h3 h4 hH hlo hL hr)
theorem ew_if_ne {x : Int32} {off : Int} {tgt : Nat} (hd : decode m.2.2.1 pc = .ok (.ifCond .ne off, 3)) (ht : (pc : Int) + off = (tgt : Int)) (kt : ¬ x = 0 → Ew l g d a b m tgt ls st sh M Q) (kf : x = 0 → Ew l g d a b m (pc + 3) ls st sh M Q) : Ew l g d a b m pc ls (.int x :: st) sh M Q := by
  intro p e R s mid args below meth c H locs cells slots Z lr X h1 h2 h3 h4 hH hlo hL hr
  exact lv_if_ne X.1 X.2.1 hd ht (fun q => kt q p e R s mid args below meth c H locs cells slots Z lr X h1 h2 h3 h4 hH hlo hL hr) (fun q => kf q p e R s mid args below meth c H locs cells slots Z lr X h1 h2 h3 h4 hH hlo hL hr)
theorem ew_icmp_ne {x y : Int32} {off : Int} {tgt : Nat} (hd : decode m.2.2.1 pc = .ok (.if_icmp .ne off, 3)) (ht : (pc : Int) + off = (tgt : Int)) (kt : ¬ x = y → Ew l g d a b m tgt ls st sh M Q) (kf : x = y → Ew l g d a b m (pc + 3) ls st sh M Q) : Ew l g d a b m pc ls (.int y :: .int x :: st) sh M Q := by
  intro p e R s mid args below meth c H locs cells slots Z lr X h1 h2 h3 h4 hH hlo hL hr
  exact lv_icmp_ne X.1 X.2.1 hd ht (fun q => kt q p e R s mid args below meth c H locs cells slots Z lr X h1 h2 h3 h4 hH hlo hL hr) (fun q => kf q p e R s mid args below meth c H locs cells slots Z lr X h1 h2 h3 h4 hH hlo hL hr)
theorem ew_if_lt {x : Int32} {off : Int} {tgt : Nat} (hd : decode m.2.2.1 pc = .ok (.ifCond .lt off, 3)) (ht : (pc : Int) + off = (tgt : Int)) (kt : x < 0 → Ew l g d a b m tgt ls st sh M Q) (kf : ¬ x < 0 → Ew l g d a b m (pc + 3) ls st sh M Q) : Ew l g d a b m pc ls (.int x :: st) sh M Q := by
  intro p e R s mid args below meth c H locs cells slots Z lr X h1 h2 h3 h4 hH hlo hL hr
  exact lv_if_lt X.1 X.2.1 hd ht (fun q => kt q p e R s mid args below meth c H locs cells slots Z lr X h1 h2 h3 h4 hH hlo hL hr) (fun q => kf q p e R s mid args below meth c H locs cells slots Z lr X h1 h2 h3 h4 hH hlo hL hr)
theorem ew_icmp_lt {x y : Int32} {off : Int} {tgt : Nat} (hd : decode m.2.2.1 pc = .ok (.if_icmp .lt off, 3)) (ht : (pc : Int) + off = (tgt : Int)) (kt : x < y → Ew l g d a b m tgt ls st sh M Q) (kf : ¬ x < y → Ew l g d a b m (pc + 3) ls st sh M Q) : Ew l g d a b m pc ls (.int y :: .int x :: st) sh M Q := by
  intro p e R s mid args below meth c H locs cells slots Z lr X h1 h2 h3 h4 hH hlo hL hr
  exact lv_icmp_lt X.1 X.2.1 hd ht (fun q => kt q p e R s mid args below meth c H locs cells slots Z lr X h1 h2 h3 h4 hH hlo hL hr) (fun q => kf q p e R s mid args below meth c H locs cells slots Z lr X h1 h2 h3 h4 hH hlo hL hr)
theorem ew_if_ge {x : Int32} {off : Int} {tgt : Nat} (hd : decode m.2.2.1 pc = .ok (.ifCond .ge off, 3)) (ht : (pc : Int) + off = (tgt : Int)) (kt : 0 ≤ x → Ew l g d a b m tgt ls st sh M Q) (kf : ¬ 0 ≤ x → Ew l g d a b m (pc + 3) ls st sh M Q) : Ew l g d a b m pc ls (.int x :: st) sh M Q := by
  intro p e R s mid args below meth c H locs cells slots Z lr X h1 h2 h3 h4 hH hlo hL hr
  exact lv_if_ge X.1 X.2.1 hd ht (fun q => kt q p e R s mid args below meth c H locs cells slots Z lr X h1 h2 h3 h4 hH hlo hL hr) (fun q => kf q p e R s mid args below meth c H locs cells slots Z lr X h1 h2 h3 h4 hH hlo hL hr)
theorem ew_icmp_ge {x y : Int32} {off : Int} {tgt : Nat} (hd : decode m.2.2.1 pc = .ok (.if_icmp .ge off, 3)) (ht : (pc : Int) + off = (tgt : Int)) (kt : y ≤ x → Ew l g d a b m tgt ls st sh M Q) (kf : ¬ y ≤ x → Ew l g d a b m (pc + 3) ls st sh M Q) : Ew l g d a b m pc ls (.int y :: .int x :: st) sh M Q := by
  intro p e R s mid args below meth c H locs cells slots Z lr X h1 h2 h3 h4 hH hlo hL hr
  exact lv_icmp_ge X.1 X.2.1 hd ht (fun q => kt q p e R s mid args below meth c H locs cells slots Z lr X h1 h2 h3 h4 hH hlo hL hr) (fun q => kf q p e R s mid args below meth c H locs cells slots Z lr X h1 h2 h3 h4 hH hlo hL hr)
theorem ew_if_gt {x : Int32} {off : Int} {tgt : Nat} (hd : decode m.2.2.1 pc = .ok (.ifCond .gt off, 3)) (ht : (pc : Int) + off = (tgt : Int)) (kt : 0 < x → Ew l g d a b m tgt ls st sh M Q) (kf : ¬ 0 < x → Ew l g d a b m (pc + 3) ls st sh M Q) : Ew l g d a b m pc ls (.int x :: st) sh M Q := by
  intro p e R s mid args below meth c H locs cells slots Z lr X h1 h2 h3 h4 hH hlo hL hr
  exact lv_if_gt X.1 X.2.1 hd ht (fun q => kt q p e R s mid args below meth c H locs cells slots Z lr X h1 h2 h3 h4 hH hlo hL hr) (fun q => kf q p e R s mid args below meth c H locs cells slots Z lr X h1 h2 h3 h4 hH hlo hL hr)
theorem ew_icmp_gt {x y : Int32} {off : Int} {tgt : Nat} (hd : decode m.2.2.1 pc = .ok (.if_icmp .gt off, 3)) (ht : (pc : Int) + off = (tgt : Int)) (kt : y < x → Ew l g d a b m tgt ls st sh M Q) (kf : ¬ y < x → Ew l g d a b m (pc + 3) ls st sh M Q) : Ew l g d a b m pc ls (.int y :: .int x :: st) sh M Q := by
  intro p e R s mid args below meth c H locs cells slots Z lr X h1 h2 h3 h4 hH hlo hL hr
  exact lv_icmp_gt X.1 X.2.1 hd ht (fun q => kt q p e R s mid args below meth c H locs cells slots Z lr X h1 h2 h3 h4 hH hlo hL hr) (fun q => kf q p e R s mid args below meth c H locs cells slots Z lr X h1 h2 h3 h4 hH hlo hL hr)
theorem ew_if_le {x : Int32} {off : Int} {tgt : Nat} (hd : decode m.2.2.1 pc = .ok (.ifCond .le off, 3)) (ht : (pc : Int) + off = (tgt : Int)) (kt : x ≤ 0 → Ew l g d a b m tgt ls st sh M Q) (kf : ¬ x ≤ 0 → Ew l g d a b m (pc + 3) ls st sh M Q) : Ew l g d a b m pc ls (.int x :: st) sh M Q := by
  intro p e R s mid args below meth c H locs cells slots Z lr X h1 h2 h3 h4 hH hlo hL hr
  exact lv_if_le X.1 X.2.1 hd ht (fun q => kt q p e R s mid args below meth c H locs cells slots Z lr X h1 h2 h3 h4 hH hlo hL hr) (fun q => kf q p e R s mid args below meth c H locs cells slots Z lr X h1 h2 h3 h4 hH hlo hL hr)
theorem ew_icmp_le {x y : Int32} {off : Int} {tgt : Nat} (hd : decode m.2.2.1 pc = .ok (.if_icmp .le off, 3)) (ht : (pc : Int) + off = (tgt : Int)) (kt : x ≤ y → Ew l g d a b m tgt ls st sh M Q) (kf : ¬ x ≤ y → Ew l g d a b m (pc + 3) ls st sh M Q) : Ew l g d a b m pc ls (.int y :: .int x :: st) sh M Q := by
  intro p e R s mid args below meth c H locs cells slots Z lr X h1 h2 h3 h4 hH hlo hL hr
  exact lv_icmp_le X.1 X.2.1 hd ht (fun q => kt q p e R s mid args below meth c H locs cells slots Z lr X h1 h2 h3 h4 hH hlo hL hr) (fun q => kf q p e R s mid args below meth c H locs cells slots Z lr X h1 h2 h3 h4 hH hlo hL hr)
theorem ew_swOut {x : Int32} {df lo hi : Int} {offs : Array Int} {len tgt : Nat} (hd : decode m.2.2.1 pc = .ok (.tableswitch df lo hi offs, len)) (h : x.toInt < lo ∨ hi < x.toInt) (ht : (pc : Int) + df = (tgt : Int)) (k : Ew l g d a b m tgt ls st sh M Q) : Ew l g d a b m pc ls (.int x :: st) sh M Q := by
  intro p e R s mid args below meth c H locs cells slots Z lr X h1 h2 h3 h4 hH hlo hL hr
  exact lv_tableOut X.1 X.2.1 hd h ht (k p e R s mid args below meth c H locs cells slots Z lr X h1 h2 h3 h4 hH hlo hL hr)
theorem ew_swIn {x : Int32} {df lo hi off : Int} {offs : Array Int} {len tgt : Nat} (hd : decode m.2.2.1 pc = .ok (.tableswitch df lo hi offs, len)) (hA : ¬ x.toInt < lo) (hB : ¬ hi < x.toInt) (ho : offs[(x.toInt - lo).toNat]? = some off) (ht : (pc : Int) + off = (tgt : Int)) (k : Ew l g d a b m tgt ls st sh M Q) : Ew l g d a b m pc ls (.int x :: st) sh M Q := by
  intro p e R s mid args below meth c H locs cells slots Z lr X h1 h2 h3 h4 hH hlo hL hr
  exact lv_tableIn X.1 X.2.1 hd hA hB ho ht (k p e R s mid args below meth c H locs cells slots Z lr X h1 h2 h3 h4 hH hlo hL hr)
theorem ew_ret (hd : decode m.2.2.1 pc = .ok (.return_, 1)) (hm : m.2.2.2.2 = none) (hq : Q none sh M) : Ew l g d a b m pc ls [] sh M Q := by
  intro p e R s mid args below meth c H locs cells slots Z lr X h1 h2 h3 h4 hH hlo hL hr
  refine W.widen (Nat.le_add_right cells a) (Nat.le_add_right slots b) ?_
  exact hr none sh M H locs pc lr hq hH hlo ⟨hm, hd⟩
theorem ew_iret {x : Int32} (hd : decode m.2.2.1 pc = .ok (.ireturn, 1)) (hm : m.2.2.2.2 = some .int) (hq : Q (some (.int x)) sh M) : Ew l g d a b m pc ls [.int x] sh M Q := by
  intro p e R s mid args below meth c H locs cells slots Z lr X h1 h2 h3 h4 hH hlo hL hr
  refine W.widen (Nat.le_add_right cells a) (Nat.le_add_right slots b) ?_
  exact hr (some (.int x)) sh M H locs pc lr hq hH hlo ⟨hd, Or.inl hm⟩
theorem ew_zret {x : Int32} (hd : decode m.2.2.1 pc = .ok (.ireturn, 1)) (hm : m.2.2.2.2 = some .boolean) (hx : x = 0 ∨ x = 1) (hq : Q (some (.int x)) sh M) : Ew l g d a b m pc ls [.int x] sh M Q := by
  intro p e R s mid args below meth c H locs cells slots Z lr X h1 h2 h3 h4 hH hlo hL hr
  refine W.widen (Nat.le_add_right cells a) (Nat.le_add_right slots b) ?_
  exact hr (some (.int x)) sh M H locs pc lr hq hH hlo ⟨hd, Or.inr ⟨hm, hx⟩⟩
theorem ew_mono {Q' : Option Value → List ew_S → ew_M → Prop} (h : Ew l g d a b m pc ls st sh M Q') (hq : ∀ v sh' M', Q' v sh' M' → Q v sh' M') : Ew l g d a b m pc ls st sh M Q := by
  intro p e R s mid args below meth c H locs cells slots Z lr X h1 h2 h3 h4 hH hlo hL hr
  exact h p e R s mid args below meth c H locs cells slots Z lr X h1 h2 h3 h4 hH hlo hL (fun v sh' M' H' locs' pc' lr' q => hr v sh' M' H' locs' pc' lr' (hq v sh' M' q))
theorem ew_room {a' b' : Nat} (ha : a ≤ a') (hb : b ≤ b') (h : Ew l g d a b m pc ls st sh M Q) : Ew l g d a' b' m pc ls st sh M Q := by
  intro p e R s mid args below meth c H locs cells slots Z lr X h1 h2 h3 h4 hH hlo hL hr
  refine h p e R s mid args below meth c H locs cells slots Z lr X h1 h2 (by omega) (by omega) hH hlo hL (fun v sh' M' H' locs' pc' lr' q r w z => ?_)
  exact W.widen (by omega) (by omega) (hr v sh' M' H' locs' pc' lr' q r w z)
theorem ew_depth {d' : Nat} (hd : d ≤ d') (h : Ew l g d a b m pc ls st sh M Q) : Ew l g d' a b m pc ls st sh M Q := by
  intro p e R s mid args below meth c H locs cells slots Z lr X h1 h2 h3 h4 hH hlo hL hr
  exact h p e R s mid args below meth c H locs cells slots Z lr X (by omega) (by omega) h3 h4 hH hlo hL hr
end EWR
end
section
/-! rows that touch the heap -/
theorem ew_ad_ge {g : ew_G} {i : Nat} (h : 3 ≤ i) : g.1 ≤ ew_ad g i := by
  unfold ew_ad
  rw [if_neg (by omega)]
  omega
theorem ew_ad_inj {g : ew_G} {i j : Nat} (hs : ∀ i : Nat, i < 3 → g.2.1 i < g.1) (hi : 3 ≤ i) (h : ew_ad g i = ew_ad g j) : i = j := by
  unfold ew_ad at h
  rw [if_neg (by omega)] at h
  by_cases hj : j < 3
  · rw [if_pos hj] at h
    have := hs j hj
    omega
  · rw [if_neg hj] at h
    omega
def ew_up (M : ew_M) (i : Nat) (f : Nat → Int32) : ew_M := fun q => if q = i then f else M q
theorem ew_up_self {M : ew_M} {i : Nat} {f : Nat → Int32} : ew_up M i f i = f := if_pos rfl
theorem ew_up_ne {M : ew_M} {i q : Nat} {f : Nat → Int32} (h : q ≠ i) : ew_up M i f q = M q := if_neg h
/-- M with one int written -/
def ew_w (M : ew_M) (i j : Nat) (x : Int32) : ew_M := ew_up M i (upd (M i) j x)
theorem ew_w_ne {M : ew_M} {i j q : Nat} {x : Int32} (h : q ≠ i) : ew_w M i j x q = M q := ew_up_ne h
theorem ew_w_self {M : ew_M} {i j : Nat} {x : Int32} : ew_w M i j x i = upd (M i) j x := ew_up_self
theorem ew_at.kept {g : ew_G} {s : State} {H H' : Heap} {M M' : ew_M} {i : Nat} {c : ew_S} (h : ew_at g s H M i c) (hq : H'[ew_ad g i]? = H[ew_ad g i]?) (hm : M' i = M i) : ew_at g s H' M' i c := by
  match c, h with
  | .inl n, ⟨ce, h1, h2, h3, h4, h5⟩ => exact ⟨ce, hq.trans h1, h2, h3, h4, fun j hj => by rw [hm]; exact h5 j hj⟩
  | .inr (.inl _), h => exact hq.trans h
  | .inr (.inr (ci, fs)), ⟨r, h1, h2, h3⟩ =>
    refine ⟨r, h1, h2, (h3.kept hq).to (fun k _ => ?_)⟩
    unfold ew_f
    rw [hm]
/-- one cell has changed -/
theorem ew_h.set {g : ew_G} {s : State} {sh : List ew_S} {M M' : ew_M} {H H' : Heap} {i : Nat} {c : ew_S} (h : ew_h g s sh M H) (hs : ∀ i : Nat, i < 3 → g.2.1 i < g.1) (hi : 3 ≤ i) (hm : ∀ q, q ≠ i → M' q = M q) (hz : H'.size = H.size) (ho : ∀ q, q ≠ ew_ad g i → H'[q]? = H[q]?) (hc : ew_at g s H' M' i c) : ew_h g s (sh.set i c) M' H' := by
  obtain ⟨a1, a2, a3, a4⟩ := h
  refine ⟨by rw [List.length_set]; exact a1, by rw [List.length_set, hz]; exact a2, fun j x hx => ?_, fun q hq => ?_⟩
  · by_cases e : j = i
    · subst e
      have hl : j < sh.length := by
        have := (List.getElem?_eq_some_iff.mp hx).1
        rw [List.length_set] at this
        exact this
      rw [List.getElem?_set_self hl] at hx
      cases hx
      exact hc
    · rw [List.getElem?_set_ne (fun q => e q.symm)] at hx
      exact (a3 j x hx).kept (ho _ (fun q => e (ew_ad_inj hs hi q.symm).symm)) (hm j e)
  · rw [ho q (fun e => by have := ew_ad_ge (g := g) hi; omega)]
    exact a4 q hq
theorem ew_set_same {sh : List ew_S} {i : Nat} {c : ew_S} (h : sh[i]? = some c) : sh.set i c = sh := by
  apply List.ext_getElem?
  intro j
  by_cases e : j = i
  · subst e
    rw [List.getElem?_set_self (List.getElem?_eq_some_iff.mp h).1, h]
  · rw [List.getElem?_set_ne (fun q => e q.symm)]
section EWH
variable {l : Launch} {g : ew_G} {d a b : Nat} {m : ew_D} {pc : Nat} {ls st : List Value} {sh : List ew_S} {M : ew_M} {Q : Option Value → List ew_S → ew_M → Prop}
theorem ew_len {i n : Nat} (hd : decode m.2.2.1 pc = .ok (.arraylength, 1)) (hs : sh[i]? = some (.inl n)) (k : Ew l g d a b m (pc + 1) ls (.int (nI n) :: st) sh M Q) : Ew l g d a b m pc ls (.ref i :: st) sh M Q := by
  intro p e R s mid args below meth c H locs cells slots Z lr X h1 h2 h3 h4 hH hlo hL hr
  obtain ⟨ce, c1, c2, c3, c4, c5⟩ := hH.2.2.1 i _ hs
  exact W.alen X.1 X.2.1 c1 c2 (n := nI n) (by rw [c4]; rfl) rfl rfl hd (k p e R s mid args below meth c H locs cells slots Z lr X h1 h2 h3 h4 hH hlo hL hr)
/-- an int of an array; its place as a Nat -/
theorem ew_iald {i n j : Nat} {x : Int32} (hd : decode m.2.2.1 pc = .ok (.iaload, 1)) (hs : sh[i]? = some (.inl n)) (hx : x = nI j) (hj : j < n) (hn : n < 2 ^ 31) (k : Ew l g d a b m (pc + 1) ls (.int (M i j) :: st) sh M Q) : Ew l g d a b m pc ls (.int x :: .ref i :: st) sh M Q := by
  intro p e R s mid args below meth c H locs cells slots Z lr X h1 h2 h3 h4 hH hlo hL hr
  obtain ⟨ce, c1, c2, c3, c4, c5⟩ := hH.2.2.1 i _ hs
  subst hx
  have hc : (nI j).toNatClampNeg = j := nI_clamp (by omega)
  refine W.iald (v := .int (M i j)) X.1 X.2.1 c1 c2 c3 ?_ (by rw [hc]; exact c5 j hj) rfl rfl hd (k p e R s mid args below meth c H locs cells slots Z lr X h1 h2 h3 h4 hH hlo hL hr)
  rw [c4]
  exact nI_in hj hn
theorem ew_iast {i n j : Nat} {x y : Int32} (hd : decode m.2.2.1 pc = .ok (.iastore, 1)) (hs : sh[i]? = some (.inl n)) (hi : 3 ≤ i) (hx : x = nI j) (hj : j < n) (hn : n < 2 ^ 31) (k : Ew l g d a b m (pc + 1) ls st sh (ew_w M i j y) Q) : Ew l g d a b m pc ls (.int y :: .int x :: .ref i :: st) sh M Q := by
  intro p e R s mid args below meth c H locs cells slots Z lr X h1 h2 h3 h4 hH hlo hL hr
  obtain ⟨ce, c1, c2, c3, c4, c5⟩ := hH.2.2.1 i _ hs
  subst hx
  have hc : (nI j).toNatClampNeg = j := nI_clamp (by omega)
  refine W.iast X.1 X.2.1 c1 c2 c3 (by rw [c4]; exact nI_in hj hn) rfl rfl hd fun H' e1 e2 e3 => ?_
  rw [hc] at e1 ⊢
  have hH' : ew_h g s (sh.set i (.inl n)) (ew_w M i j y) H' := by
    refine hH.set X.2.2.2.2.2.2.2.2.2.2.2.2.2.2.2 hi (fun q hq => ew_w_ne hq) e2 e3 ⟨_, e1, c2, c3, by rw [k2_slotsz]; exact c4, fun q hq => ?_⟩
    rw [ew_w_self]
    show (ce.slots.setIfInBounds j (.int y))[q]? = _
    rw [Array.getElem?_setIfInBounds]
    by_cases e : j = q
    · subst e
      rw [if_pos rfl, if_pos (by rw [c4]; exact hj)]
      simp [upd]
    · rw [if_neg e, c5 q hq]
      simp [upd, Ne.symm e]
  rw [ew_set_same hs] at hH'
  exact k p e R s mid args below meth c H' _ cells slots Z lr X h1 h2 h3 h4 hH' (fun q hq => (List.mem_append.mp hq).elim (hlo q) (fun h => by rw [List.mem_singleton.mp h]; exact ew_ad_ge hi)) hL hr
/-- a row of an array of arrays, an object of an array of objects -/
theorem ew_aald {i j kd r : Nat} {rs : List (Option Nat)} {x : Int32} (hd : decode m.2.2.1 pc = .ok (.aaload, 1)) (hs : sh[i]? = some (.inr (.inl (kd, rs)))) (hkd : kd = 0 ∨ kd = 1) (hx : x = nI j) (hj : rs[j]? = some (some r)) (hn : rs.length < 2 ^ 31) (k : Ew l g d a b m (pc + 1) ls (.ref r :: st) sh M Q) : Ew l g d a b m pc ls (.int x :: .ref i :: st) sh M Q := by
  intro p e R s mid args below meth c H locs cells slots Z lr X h1 h2 h3 h4 hH hlo hL hr
  have c1 := hH.2.2.1 i _ hs
  subst hx
  have hlt : j < rs.length := (List.getElem?_eq_some_iff.mp hj).1
  have hc : (nI j).toNatClampNeg = j := nI_clamp (by omega)
  obtain ⟨-, -, ⟨kA, kC, comp, cc, b1, b2, b3, b4, b5, b6⟩, -, hT, -⟩ := X.2.2.2.2.2.2.2.2
  obtain ⟨ty, hty, hof⟩ : ∃ ty : FieldType, ty.isReference = true ∧ s.isArrayOf (arrV (g.2.2.2.1 kd) rs.length (fun j => ew_o g (rs.getD j none))) ty := by
    rcases hkd with rfl | rfl
    · exact ⟨.array .int, rfl, (fun q h => by cases h), kA, b1, comp, b2⟩
    · obtain ⟨kT, cT, t1, t2, -⟩ := hT
      exact ⟨.object "TraceProver$Tree", rfl, (fun q h => by cases h), kT, t1, cT, t2⟩
  refine W.aald (v := ew_v g (.ref r)) X.1 X.2.1 c1 hof hty (fun q => by cases q) ?_ ?_ rfl rfl hd (k p e R s mid args below meth c H locs cells slots Z lr X h1 h2 h3 h4 hH hlo hL hr)
  · rw [arrV_size]
    exact nI_in hlt hn
  · rw [hc, arrV_read _ _ hlt]
    simp [List.getD, hj, ew_o, ew_v]
/-- an int field -/
theorem ew_geti {i ci f idx : Nat} {fs : List (Option (Option Nat))} {r : vw_C} (hd : decode m.2.2.1 pc = .ok (.getfield idx, 3)) (hs : sh[i]? = some (.inr (.inr (ci, fs)))) (hc : ew_cl[ci]? = some r) (hf : fs[f]? = some none) (hk : Cond.fieldLink m.1 idx (r.2.1 f).1 (r.2.1 f).2.1 (r.2.1 f).2.2.1 ∈ ew_tb) (k : Ew l g d a b m (pc + 3) ls (.int (M i f) :: st) sh M Q) : Ew l g d a b m pc ls (.ref i :: st) sh M Q := by
  intro p e R s mid args below meth c H locs cells slots Z lr X h1 h2 h3 h4 hH hlo hL hr
  obtain ⟨r', hr', hl, ce, q1, q2, q3, q4⟩ := hH.2.2.1 i _ hs
  cases hr'.symm.trans hc
  have hlt : f < r.2.2 := by rw [← hl]; exact (List.getElem?_eq_some_iff.mp hf).1
  obtain ⟨hS, hfc, kC, hkC, hkind⟩ := X.2.2.2.2.2.2.2.2.1 ci _ hc
  obtain ⟨cf, kf, fi, fd, hi, hsl⟩ := hS f hlt
  refine W.getf X.1 X.2.1 X.2.2.2.2.1 (X.2.2.2.2.2.1 _ hk) hi (u_facts hfc hkC (u_lays (X.2.2.2.2.2.1) (fun w hw => ew_mt (ew_in ci _ hc w hw) (by obtain ⟨q, -, rfl⟩ := List.mem_map.mp hw; unfold u_lay; split <;> rfl)) hlt) hi).1 q1 (by rw [q3]; exact fun h => by cases h) (v := .int (M i f)) ?_ rfl rfl hd (k p e R s mid args below meth c H locs cells slots Z lr X h1 h2 h3 h4 hH hlo hL hr)
  rw [hsl, q4 f hlt]
  simp [ew_f, hf]
end EWH
end
section
theorem ew_lay {ci : Nat} {r : vw_C} (hc : ew_cl[ci]? = some r) : ∀ w ∈ u_ws r.1 r.2.1 r.2.2, w ∈ ew_tb := fun w hw => ew_mt (ew_in ci _ hc w hw) (by obtain ⟨q, -, rfl⟩ := List.mem_map.mp hw; unfold u_lay; split <;> rfl)
section EWH2
variable {l : Launch} {g : ew_G} {d a b : Nat} {m : ew_D} {pc : Nat} {ls st : List Value} {sh : List ew_S} {M : ew_M} {Q : Option Value → List ew_S → ew_M → Prop}
theorem ew_getr {i ci f idx q : Nat} {fs : List (Option (Option Nat))} {r : vw_C} (hd : decode m.2.2.1 pc = .ok (.getfield idx, 3)) (hs : sh[i]? = some (.inr (.inr (ci, fs)))) (hc : ew_cl[ci]? = some r) (hf : fs[f]? = some (some (some q))) (hk : Cond.fieldLink m.1 idx (r.2.1 f).1 (r.2.1 f).2.1 (r.2.1 f).2.2.1 ∈ ew_tb) (k : Ew l g d a b m (pc + 3) ls (.ref q :: st) sh M Q) : Ew l g d a b m pc ls (.ref i :: st) sh M Q := by
  intro p e R s mid args below meth c H locs cells slots Z lr X h1 h2 h3 h4 hH hlo hL hr
  obtain ⟨r', hr', hl, ce, q1, q2, q3, q4⟩ := hH.2.2.1 i _ hs
  cases hr'.symm.trans hc
  have hlt : f < r.2.2 := by rw [← hl]; exact (List.getElem?_eq_some_iff.mp hf).1
  obtain ⟨hS, hfc, kC, hkC, hkind⟩ := X.2.2.2.2.2.2.2.2.1 ci _ hc
  obtain ⟨cf, kf, fi, fd, hi, hsl⟩ := hS f hlt
  refine W.getf X.1 X.2.1 X.2.2.2.2.1 (X.2.2.2.2.2.1 _ hk) hi (u_facts hfc hkC (u_lays (X.2.2.2.2.2.1) (ew_lay hc) hlt) hi).1 q1 (by rw [q3]; exact fun h => by cases h) (v := ew_v g (.ref q)) ?_ rfl rfl hd (k p e R s mid args below meth c H locs cells slots Z lr X h1 h2 h3 h4 hH hlo hL hr)
  rw [hsl, q4 f hlt]
  simp [ew_f, hf, ew_o, ew_v]
theorem ew_getiN {i ci f idx : Nat} {host : String} {fs : List (Option (Option Nat))} {r : vw_C} (hd : decode m.2.2.1 pc = .ok (.getfield idx, 3)) (hs : sh[i]? = some (.inr (.inr (ci, fs)))) (hc : ew_cl[ci]? = some r) (hf : fs[f]? = some none) (hk : Cond.fieldLinkNest m.1 idx (r.2.1 f).1 (r.2.1 f).2.1 (r.2.1 f).2.2.1 host ∈ ew_nt) (k : Ew l g d a b m (pc + 3) ls (.int (M i f) :: st) sh M Q) : Ew l g d a b m pc ls (.ref i :: st) sh M Q := by
  intro p e R s mid args below meth c H locs cells slots Z lr X h1 h2 h3 h4 hH hlo hL hr
  obtain ⟨r', hr', hl, ce, q1, q2, q3, q4⟩ := hH.2.2.1 i _ hs
  cases hr'.symm.trans hc
  have hlt : f < r.2.2 := by rw [← hl]; exact (List.getElem?_eq_some_iff.mp hf).1
  obtain ⟨hS, hfc, kC, hkC, hkind⟩ := X.2.2.2.2.2.2.2.2.1 ci _ hc
  obtain ⟨cf, kf, fi, fd, hi, hsl⟩ := hS f hlt
  refine va_Wgetf X.1 X.2.1 X.2.2.2.2.1 (va_Nw.use rfl (X.2.2.2.2.2.2.2.2.2.1 _ hk)) hi (u_facts hfc hkC (u_lays (X.2.2.2.2.2.1) (ew_lay hc) hlt) hi).1 q1 (by rw [q3]; exact fun h => by cases h) (v := .int (M i f)) ?_ rfl rfl hd (k p e R s mid args below meth c H locs cells slots Z lr X h1 h2 h3 h4 hH hlo hL hr)
  rw [hsl, q4 f hlt]
  simp [ew_f, hf]
theorem ew_getrN {i ci f idx q : Nat} {host : String} {fs : List (Option (Option Nat))} {r : vw_C} (hd : decode m.2.2.1 pc = .ok (.getfield idx, 3)) (hs : sh[i]? = some (.inr (.inr (ci, fs)))) (hc : ew_cl[ci]? = some r) (hf : fs[f]? = some (some (some q))) (hk : Cond.fieldLinkNest m.1 idx (r.2.1 f).1 (r.2.1 f).2.1 (r.2.1 f).2.2.1 host ∈ ew_nt) (k : Ew l g d a b m (pc + 3) ls (.ref q :: st) sh M Q) : Ew l g d a b m pc ls (.ref i :: st) sh M Q := by
  intro p e R s mid args below meth c H locs cells slots Z lr X h1 h2 h3 h4 hH hlo hL hr
  obtain ⟨r', hr', hl, ce, q1, q2, q3, q4⟩ := hH.2.2.1 i _ hs
  cases hr'.symm.trans hc
  have hlt : f < r.2.2 := by rw [← hl]; exact (List.getElem?_eq_some_iff.mp hf).1
  obtain ⟨hS, hfc, kC, hkC, hkind⟩ := X.2.2.2.2.2.2.2.2.1 ci _ hc
  obtain ⟨cf, kf, fi, fd, hi, hsl⟩ := hS f hlt
  refine va_Wgetf X.1 X.2.1 X.2.2.2.2.1 (va_Nw.use rfl (X.2.2.2.2.2.2.2.2.2.1 _ hk)) hi (u_facts hfc hkC (u_lays (X.2.2.2.2.2.1) (ew_lay hc) hlt) hi).1 q1 (by rw [q3]; exact fun h => by cases h) (v := ew_v g (.ref q)) ?_ rfl rfl hd (k p e R s mid args below meth c H locs cells slots Z lr X h1 h2 h3 h4 hH hlo hL hr)
  rw [hsl, q4 f hlt]
  simp [ew_f, hf, ew_o, ew_v]
theorem ew_gets {i idx : Nat} {n : String} (hd : decode m.2.2.1 pc = .ok (.getstatic idx, 3)) (hi : (n = "COLUMN_STEPS" ∧ i = 1) ∨ (n = "LAYER_STARTS" ∧ i = 2)) (hk : Cond.fieldLink m.1 idx "TraceProver$Proof" n "[I" ∈ ew_tb) (k : Ew l g d a b m (pc + 3) ls (.ref i :: st) sh M Q) : Ew l g d a b m pc ls st sh M Q := by
  intro p e R s mid args below meth c H locs cells slots Z lr X h1 h2 h3 h4 hH hlo hL hr
  have hz : va_Z "TraceProver$Proof" n "[I" (ew_v g (.ref i)) (fun q => g.1 ≤ q) s g.2.2.1 := by
    rcases hi with ⟨rfl, rfl⟩ | ⟨rfl, rfl⟩
    · exact X.2.2.2.2.2.2.2.2.2.2.2.2.2.1
    · exact X.2.2.2.2.2.2.2.2.2.2.2.2.2.2.1
  obtain ⟨cf, kf, fi, f, q, ce, z1, z2, z3, z4, z5, z6, z7, z8⟩ := hz
  exact W.gets X.1 X.2.1 X.2.2.2.2.1 (X.2.2.2.2.2.1 _ hk) z1 z2 z3 z4 (by rw [hH.2.2.2 q (by omega)]; exact z5) (fun e => by rw [e] at z6; cases z6) z7 rfl hd (k p e R s mid args below meth c H locs cells slots Z lr X h1 h2 h3 h4 hH hlo hL hr)
/-- an int, written to a field; v: what the field's type keeps of it -/
theorem ew_puti {i ci f idx : Nat} {x : Int32} {fs : List (Option (Option Nat))} {r : vw_C} {ty : FieldType} (hd : decode m.2.2.1 pc = .ok (.putfield idx, 3)) (hs : sh[i]? = some (.inr (.inr (ci, fs)))) (hi3 : 3 ≤ i) (hc : ew_cl[ci]? = some r) (hf : fs[f]? = some none) (hfin : (r.2.1 f).2.2.2 = false) (hty : parseFieldDescriptor (r.2.1 f).2.2.1 = some ty) (hn : narrow ty (.int x) = .int x) (hfit : fits ty (.int x) = true) (hk : Cond.fieldLink m.1 idx (r.2.1 f).1 (r.2.1 f).2.1 (r.2.1 f).2.2.1 ∈ ew_tb) (k : Ew l g d a b m (pc + 3) ls st sh (ew_w M i f x) Q) : Ew l g d a b m pc ls (.int x :: .ref i :: st) sh M Q := by
  intro p e R s mid args below meth c H locs cells slots Z lr X h1 h2 h3 h4 hH hlo hL hr
  obtain ⟨r', hr', hl, ce, q1, q2, q3, q4⟩ := hH.2.2.1 i _ hs
  cases hr'.symm.trans hc
  have hlt : f < r.2.2 := by rw [← hl]; exact (List.getElem?_eq_some_iff.mp hf).1
  obtain ⟨y, -, hy1, hy2⟩ := ew_ty ci r hc
  have hap : ∀ x y, x < r.2.2 → y < r.2.2 → x ≠ y → (g.2.2.2.2.2 ci) x ≠ (g.2.2.2.2.2 ci) y := by
    intro x y hx hy hne
    obtain ⟨hS, -⟩ := X.2.2.2.2.2.2.2.2.1 ci _ hc
    obtain ⟨_, _, _, fa, hia, ea⟩ := hS x hx
    obtain ⟨_, _, _, fb, hib, eb⟩ := hS y hy
    rw [← ea, ← eb]
    refine u_apart (u_lays X.2.2.2.2.2.1 (ew_lay hc) hx) (u_lays X.2.2.2.2.2.1 (ew_lay hc) hy) hia hib ?_
    rw [(State.fieldFound?_type hia (hy1 x hx)).1, (State.fieldFound?_type hib (hy1 y hy)).1]
    exact hy2 x hx y hy hne
  obtain ⟨hS, hfc, kC, hkC, hkind⟩ := X.2.2.2.2.2.2.2.2.1 ci _ hc
  obtain ⟨cf, kf, fi, fd, hi, hsl⟩ := hS f hlt
  have hlay := X.2.2.2.2.2.1 _ (ew_lay hc _ (u_in_lay hlt))
  unfold u_lay at hlay
  rw [if_neg (by rw [hfin]; decide)] at hlay
  have hst := (u_facts hfc hkC (u_lays X.2.2.2.2.2.1 (ew_lay hc) hlt) hi).1
  have h6 := u_store hfc hkC hkind hlay hi hty hn hfit
  refine W.putK X.1 X.2.1 (f := fd) ⟨X.2.2.2.2.1, X.2.2.2.2.2.1 _ hk, ⟨_, _, _, hi⟩, hst⟩ (by rw [q2]; exact h6) q1 q3 (by rw [hsl]; exact k2_hasslot (q4 f hlt)) rfl rfl hd fun H' e1 e2 e3 => ?_
  rw [hsl] at e1 ⊢
  have hH' : ew_h g s (sh.set i (.inr (.inr (ci, fs)))) (ew_w M i f x) H' := by
    refine hH.set X.2.2.2.2.2.2.2.2.2.2.2.2.2.2.2 hi3 (fun q hq => ew_w_ne hq) e2 e3 ⟨r, hc, hl, t_OB.to (V := updV (ew_f g M i fs) f (.int x)) ⟨_, e1, q2, q3, t_set q4 hap hlt (.int x)⟩ (fun j hj => ?_)⟩
    unfold updV ew_f
    rw [ew_w_self]
    by_cases e : j = f
    · subst e
      simp [hf, upd]
    · simp [upd, e]
  rw [ew_set_same hs] at hH'
  exact k p e R s mid args below meth c H' _ cells slots Z lr X h1 h2 h3 h4 hH' (fun q hq => (List.mem_append.mp hq).elim (hlo q) (fun h => by rw [List.mem_singleton.mp h]; exact ew_ad_ge hi3)) hL hr
/-- a final field in a constructor: a reference -/
theorem ew_putr {i ci f idx q : Nat} {o : Option Nat} {fs : List (Option (Option Nat))} {r : vw_C} {ty : FieldType} (hd : decode m.2.2.1 pc = .ok (.putfield idx, 3)) (hs : sh[i]? = some (.inr (.inr (ci, fs)))) (hi3 : 3 ≤ i) (hc : ew_cl[ci]? = some r) (hf : fs[f]? = some (some o)) (hfin : (r.2.1 f).2.2.2 = true) (hin : m.2.1.name = "<init>") (hdecl : (r.2.1 f).1 = m.1) (hty : parseFieldDescriptor (r.2.1 f).2.2.1 = some ty) (hn : ∀ w : Nat, narrow ty (.ref w) = .ref w ∧ fits ty (.ref w) = true) (hk : Cond.fieldLink m.1 idx (r.2.1 f).1 (r.2.1 f).2.1 (r.2.1 f).2.2.1 ∈ ew_tb) (k : Ew l g d a b m (pc + 3) ls st (sh.set i (.inr (.inr (ci, fs.set f (some (some q)))))) M Q) : Ew l g d a b m pc ls (.ref q :: .ref i :: st) sh M Q := by
  intro p e R s mid args below meth c H locs cells slots Z lr X h1 h2 h3 h4 hH hlo hL hr
  obtain ⟨r', hr', hl, ce, q1, q2, q3, q4⟩ := hH.2.2.1 i _ hs
  cases hr'.symm.trans hc
  have hlt : f < r.2.2 := by rw [← hl]; exact (List.getElem?_eq_some_iff.mp hf).1
  obtain ⟨y, -, hy1, hy2⟩ := ew_ty ci r hc
  have hap : ∀ x y, x < r.2.2 → y < r.2.2 → x ≠ y → (g.2.2.2.2.2 ci) x ≠ (g.2.2.2.2.2 ci) y := by
    intro x y hx hy hne
    obtain ⟨hS, -⟩ := X.2.2.2.2.2.2.2.2.1 ci _ hc
    obtain ⟨_, _, _, fa, hia, ea⟩ := hS x hx
    obtain ⟨_, _, _, fb, hib, eb⟩ := hS y hy
    rw [← ea, ← eb]
    refine u_apart (u_lays X.2.2.2.2.2.1 (ew_lay hc) hx) (u_lays X.2.2.2.2.2.1 (ew_lay hc) hy) hia hib ?_
    rw [(State.fieldFound?_type hia (hy1 x hx)).1, (State.fieldFound?_type hib (hy1 y hy)).1]
    exact hy2 x hx y hy hne
  obtain ⟨hS, hfc, kC, hkC, hkind⟩ := X.2.2.2.2.2.2.2.2.1 ci _ hc
  obtain ⟨cf, kf, fi, fd, hi, hsl⟩ := hS f hlt
  have hlay := X.2.2.2.2.2.1 _ (ew_lay hc _ (u_in_lay hlt))
  unfold u_lay at hlay
  rw [if_pos hfin] at hlay
  have hst := (u_facts hfc hkC (u_lays X.2.2.2.2.2.1 (ew_lay hc) hlt) hi).1
  have hcf : mid.cls = cf := by
    obtain ⟨_, _, c', _, _, _, -, -, hf', -, -, -, hown2, -⟩ := Cond.laysFinal_spec hlay
    have e1 : c' = cf := by have := hi.symm.trans hf'; simp at this; exact this.1.symm
    rw [hdecl] at hown2
    rw [← e1]; exact Option.some.inj (X.2.2.2.2.1.symm.trans hown2)
  have h6 := u_fits hfc hkC hkind (Or.inr hlay) hi hty (hn (ew_ad g q)).1 (hn (ew_ad g q)).2
  refine W.putFinK X.1 X.2.1 X.2.2.2.2.1 (X.2.2.2.2.2.1 _ hk) hi hst hcf (X.2.2.2.2.2.2.2.1.trans hin) (v := ew_v g (.ref q)) (by rw [q2]; exact h6) q1 q3 (by rw [hsl]; exact k2_hasslot (q4 f hlt)) rfl rfl hd fun H' e1 e2 e3 => ?_
  rw [hsl] at e1 ⊢
  have hH' : ew_h g s (sh.set i (.inr (.inr (ci, fs.set f (some (some q)))))) M H' := by
    refine hH.set X.2.2.2.2.2.2.2.2.2.2.2.2.2.2.2 hi3 (fun q hq => rfl) e2 e3 ⟨r, hc, by rw [List.length_set]; exact hl, t_OB.to (V := updV (ew_f g M i fs) f (ew_v g (.ref q))) ⟨_, e1, q2, q3, t_set q4 hap hlt _⟩ (fun j hj => ?_)⟩
    unfold updV ew_f
    by_cases e : j = f
    · subst e
      rw [if_pos rfl, List.getElem?_set_self (by rw [hl]; exact hj)]
      rfl
    · rw [if_neg e, List.getElem?_set_ne (fun q => e q.symm)]
  exact k p e R s mid args below meth c H' _ cells slots Z lr X h1 h2 h3 h4 hH' (fun q hq => (List.mem_append.mp hq).elim (hlo q) (fun h => by rw [List.mem_singleton.mp h]; exact ew_ad_ge hi3)) hL hr
/-- a final field in a constructor: an int -/
theorem ew_putiF {i ci f idx : Nat} {x : Int32} {fs : List (Option (Option Nat))} {r : vw_C} (hd : decode m.2.2.1 pc = .ok (.putfield idx, 3)) (hs : sh[i]? = some (.inr (.inr (ci, fs)))) (hi3 : 3 ≤ i) (hc : ew_cl[ci]? = some r) (hf : fs[f]? = some none) (hfin : (r.2.1 f).2.2.2 = true) (hin : m.2.1.name = "<init>") (hdecl : (r.2.1 f).1 = m.1) (hty : parseFieldDescriptor (r.2.1 f).2.2.1 = some .int) (hk : Cond.fieldLink m.1 idx (r.2.1 f).1 (r.2.1 f).2.1 (r.2.1 f).2.2.1 ∈ ew_tb) (k : Ew l g d a b m (pc + 3) ls st sh (ew_w M i f x) Q) : Ew l g d a b m pc ls (.int x :: .ref i :: st) sh M Q := by
  intro p e R s mid args below meth c H locs cells slots Z lr X h1 h2 h3 h4 hH hlo hL hr
  obtain ⟨r', hr', hl, ce, q1, q2, q3, q4⟩ := hH.2.2.1 i _ hs
  cases hr'.symm.trans hc
  have hlt : f < r.2.2 := by rw [← hl]; exact (List.getElem?_eq_some_iff.mp hf).1
  obtain ⟨y, -, hy1, hy2⟩ := ew_ty ci r hc
  have hap : ∀ x y, x < r.2.2 → y < r.2.2 → x ≠ y → (g.2.2.2.2.2 ci) x ≠ (g.2.2.2.2.2 ci) y := by
    intro x y hx hy hne
    obtain ⟨hS, -⟩ := X.2.2.2.2.2.2.2.2.1 ci _ hc
    obtain ⟨_, _, _, fa, hia, ea⟩ := hS x hx
    obtain ⟨_, _, _, fb, hib, eb⟩ := hS y hy
    rw [← ea, ← eb]
    refine u_apart (u_lays X.2.2.2.2.2.1 (ew_lay hc) hx) (u_lays X.2.2.2.2.2.1 (ew_lay hc) hy) hia hib ?_
    rw [(State.fieldFound?_type hia (hy1 x hx)).1, (State.fieldFound?_type hib (hy1 y hy)).1]
    exact hy2 x hx y hy hne
  obtain ⟨hS, hfc, kC, hkC, hkind⟩ := X.2.2.2.2.2.2.2.2.1 ci _ hc
  obtain ⟨cf, kf, fi, fd, hi, hsl⟩ := hS f hlt
  have hlay := X.2.2.2.2.2.1 _ (ew_lay hc _ (u_in_lay hlt))
  unfold u_lay at hlay
  rw [if_pos hfin] at hlay
  have hst := (u_facts hfc hkC (u_lays X.2.2.2.2.2.1 (ew_lay hc) hlt) hi).1
  have hcf : mid.cls = cf := by
    obtain ⟨_, _, c', _, _, _, -, -, hf', -, -, -, hown2, -⟩ := Cond.laysFinal_spec hlay
    have e1 : c' = cf := by have := hi.symm.trans hf'; simp at this; exact this.1.symm
    rw [hdecl] at hown2
    rw [← e1]; exact Option.some.inj (X.2.2.2.2.1.symm.trans hown2)
  have h6 := u_fits (v := .int x) hfc hkC hkind (Or.inr hlay) hi hty rfl rfl
  refine W.putFinK X.1 X.2.1 X.2.2.2.2.1 (X.2.2.2.2.2.1 _ hk) hi hst hcf (X.2.2.2.2.2.2.2.1.trans hin) (v := .int x) (by rw [q2]; exact h6) q1 q3 (by rw [hsl]; exact k2_hasslot (q4 f hlt)) rfl rfl hd fun H' e1 e2 e3 => ?_
  rw [hsl] at e1 ⊢
  have hH' : ew_h g s (sh.set i (.inr (.inr (ci, fs)))) (ew_w M i f x) H' := by
    refine hH.set X.2.2.2.2.2.2.2.2.2.2.2.2.2.2.2 hi3 (fun q hq => ew_w_ne hq) e2 e3 ⟨r, hc, hl, t_OB.to (V := updV (ew_f g M i fs) f (.int x)) ⟨_, e1, q2, q3, t_set q4 hap hlt (.int x)⟩ (fun j hj => ?_)⟩
    unfold updV ew_f
    rw [ew_w_self]
    by_cases e : j = f
    · subst e
      simp [hf, upd]
    · simp [upd, e]
  rw [ew_set_same hs] at hH'
  exact k p e R s mid args below meth c H' _ cells slots Z lr X h1 h2 h3 h4 hH' (fun q hq => (List.mem_append.mp hq).elim (hlo q) (fun h => by rw [List.mem_singleton.mp h]; exact ew_ad_ge hi3)) hL hr
end EWH2
end
section
theorem ew_ad_lt {g : ew_G} {s : State} {sh : List ew_S} {M : ew_M} {H : Heap} (h : ew_h g s sh M H) (hs : ∀ i : Nat, i < 3 → g.2.1 i < g.1) {i : Nat} (hi : i < sh.length) : ew_ad g i < H.size := by
  have h1 := h.1
  have h2 := h.2.1
  unfold ew_ad
  by_cases e : i < 3
  · rw [if_pos e]
    have := hs i e
    omega
  · rw [if_neg e]
    omega
theorem ew_ad_top {g : ew_G} {s : State} {sh : List ew_S} {M : ew_M} {H : Heap} (h : ew_h g s sh M H) : ew_ad g sh.length = H.size := by
  have h1 := h.1
  have h2 := h.2.1
  unfold ew_ad
  rw [if_neg (by omega)]
  omega
theorem ew_h.push {g : ew_G} {s : State} {sh : List ew_S} {M : ew_M} {H H' : Heap} {c : ew_S} {f : Nat → Int32} (h : ew_h g s sh M H) (hs : ∀ i : Nat, i < 3 → g.2.1 i < g.1) (hz : H'.size = H.size + 1) (ho : ∀ q : Nat, q < H.size → H'[q]? = H[q]?) (hc : ew_at g s H' (ew_up M sh.length f) sh.length c) : ew_h g s (sh ++ [c]) (ew_up M sh.length f) H' := by
  have h1 := h.1
  have h2 := h.2.1
  refine ⟨by rw [List.length_append]; omega, by rw [hz, h2, List.length_append, List.length_singleton]; omega, fun i x hx => ?_, fun q hq => ?_⟩
  · by_cases hl : i < sh.length
    · rw [List.getElem?_append_left hl] at hx
      exact (h.2.2.1 i x hx).kept (ho _ (ew_ad_lt h hs hl)) (ew_up_ne (by omega))
    · rw [List.getElem?_append_right (by omega)] at hx
      have hl2 : i - sh.length < 1 := (List.getElem?_eq_some_iff.mp hx).1
      have e : i = sh.length := by omega
      subst e
      rw [Nat.sub_self] at hx
      cases hx
      exact hc
  · rw [ho q (by omega)]
    exact h.2.2.2 q hq
def ew_z : Nat → Int32 := fun _ => 0
section EWN
variable {l : Launch} {g : ew_G} {d a b : Nat} {m : ew_D} {pc : Nat} {ls st : List Value} {sh : List ew_S} {M : ew_M} {Q : Option Value → List ew_S → ew_M → Prop}
theorem ew_new {ci idx : Nat} {fs : List (Option (Option Nat))} {r : vw_C} {y : Nat → FieldType} (hd : decode m.2.2.1 pc = .ok (.new idx, 3)) (hc : ew_cl[ci]? = some r) (hy : ew_ys[ci]? = some y) (hl : fs.length = r.2.2) (hf : ∀ k, k < r.2.2 → (fs[k]? = some none ∧ defaultValue (y k) = .int 0) ∨ (fs[k]? = some (some none) ∧ defaultValue (y k) = .null)) (hk : Cond.classLink m.1 idx r.1 ∈ ew_tb) (hk2 : Cond.instantiable r.1 r.2.2 ∈ ew_tb) (hk3 : Cond.initialized r.1 ∈ ew_tb) (k : Ew l g d a b m (pc + 3) ls (.ref sh.length :: st) (sh ++ [.inr (.inr (ci, fs))]) (ew_up M sh.length ew_z) Q) : Ew l g d (a + 1) (b + r.2.2) m pc ls st sh M Q := by
  intro p e R s mid args below meth c H locs cells slots Z lr X h1 h2 h3 h4 hH hlo hL hr
  have hs := X.2.2.2.2.2.2.2.2.2.2.2.2.2.2.2
  obtain ⟨hS, hfc, kC, hkC, hkind⟩ := X.2.2.2.2.2.2.2.2.1 ci _ hc
  have htop := ew_ad_top hH
  refine W.newcK X.1 X.2.1 X.2.2.2.2.1 (X.2.2.2.2.2.1 _ hk) (X.2.2.2.2.2.1 _ hk2) (X.2.2.2.2.2.1 _ hk3) rfl hd (by omega) (by omega) hfc htop.symm fun H' kC' e1 e2 e3 e4 => ?_
  cases hkC.symm.trans e1
  obtain ⟨y', hy', hy1, -⟩ := ew_ty ci r hc
  cases hy'.symm.trans hy
  have hH' : ew_h g s (sh ++ [.inr (.inr (ci, fs))]) (ew_up M sh.length ew_z) H' := by
    refine hH.push hs (by rw [e3, htop]) (fun q hq => e4 q (by rw [htop]; exact hq)) ⟨r, hc, hl, t_OB.to (u_born y X.2.2.2.2.2.1 (ew_lay hc) (X.2.2.2.2.2.2.2.2.1 ci _ hc) hkC e2 hy1) (fun j hj => ?_)⟩
    unfold ew_f
    rw [ew_up_self]
    rcases hf j hj with ⟨q1, q2⟩ | ⟨q1, q2⟩
    · rw [q1, q2]
      rfl
    · rw [q1, q2]
      rfl
  have hk9 := k p e R s mid args below meth c H' locs (cells + 1) (slots + r.2.2) Z lr X h1 h2 (by omega) (by omega) hH' hlo hL (fun v sh' M' H2 locs' pc' lr' q w z t => by
    have := hr v sh' M' H2 locs' pc' lr' q w z t
    rw [show cells + (a + 1) = cells + 1 + a by omega, show slots + (b + r.2.2) = slots + r.2.2 + b by omega] at this
    exact this)
  exact hk9
theorem ew_newa {N : Nat} {x : Int32} (hd : decode m.2.2.1 pc = .ok (.newarray .int, 2)) (hx : x = nI N) (hN : N ≤ 1000) (hk : Cond.arrayClass .int ∈ ew_tb) (k : Ew l g d a b m (pc + 2) ls (.ref sh.length :: st) (sh ++ [.inl N]) (ew_up M sh.length ew_z) Q) : Ew l g d (a + 1) (b + N) m pc ls (.int x :: st) sh M Q := by
  intro p e R s mid args below meth c H locs cells slots Z lr X h1 h2 h3 h4 hH hlo hL hr
  have hs := X.2.2.2.2.2.2.2.2.2.2.2.2.2.2.2
  have htop := ew_ad_top hH
  subst hx
  refine W.newaK (N := N) X.1 X.2.1 (atype := .int) (X.2.2.2.2.2.1 _ hk) rfl hd rfl (nI_pos (by omega)) (nI_clamp (by omega)) (by show N * 4 ≤ 536870912; omega) (by omega) (by omega) htop.symm fun H' cA e1 e2 e3 e4 => ?_
  have hH' : ew_h g s (sh ++ [.inl N]) (ew_up M sh.length ew_z) H' := by
    refine hH.push hs (by rw [e2, htop]) (fun q hq => e3 q (by rw [htop]; exact hq)) ⟨_, e1, e4 _ _, (fun q => by cases q), arrV_size _ _ _, fun j hj => ?_⟩
    rw [arrV_read _ _ hj, ew_up_self]
    rfl
  have hk9 := k p e R s mid args below meth c H' locs (cells + 1) (slots + N) Z lr X h1 h2 (by omega) (by omega) hH' hlo hL (fun v sh' M' H2 locs' pc' lr' q w z t => by
    have := hr v sh' M' H2 locs' pc' lr' q w z t
    rw [show cells + (a + 1) = cells + 1 + a by omega, show slots + (b + N) = slots + N + b by omega] at this
    exact this)
  exact hk9
theorem ew_anew {N idx : Nat} {x : Int32} (hd : decode m.2.2.1 pc = .ok (.anewarray idx, 3)) (hx : x = nI N) (hN : N ≤ 1000) (hk : Cond.classLink m.1 idx "TraceProver$Tree" ∈ ew_tb) (k : Ew l g d a b m (pc + 3) ls (.ref sh.length :: st) (sh ++ [.inr (.inl (1, List.replicate N none))]) (ew_up M sh.length ew_z) Q) : Ew l g d (a + 1) (b + N) m pc ls (.int x :: st) sh M Q := by
  intro p e R s mid args below meth c H locs cells slots Z lr X h1 h2 h3 h4 hH hlo hL hr
  have hs := X.2.2.2.2.2.2.2.2.2.2.2.2.2.2.2
  have htop := ew_ad_top hH
  obtain ⟨-, -, -, hAO, ⟨kT, cT, t1, t2, t3, t4⟩, -⟩ := X.2.2.2.2.2.2.2.2
  subst hx
  have hcl : (nI N).toNatClampNeg = N := nI_clamp (by omega)
  refine W.anew X.1 X.2.1 X.2.2.2.2.1 (X.2.2.2.2.2.1 _ hk) (va_AO.use hAO) rfl hd rfl (nI_pos (by omega)) (by rw [hcl]; omega) (by omega) (by rw [hcl]; omega) fun cA kA comp f1 f2 f3 f4 => ?_
  cases t4.symm.trans f1
  rw [hcl, ← htop]
  generalize hH1 : H.push ({ cls := g.2.2.2.1 1, slots := Array.replicate N .null, vm := .none } : Cell) = H1
  have z1 : H1.size = H.size + 1 := by rw [← hH1, Array.size_push]
  have e1 : H1[H.size]? = some (arrV (g.2.2.2.1 1) N (fun _ => .null)) := by rw [← hH1, Array.getElem?_push_size, ← arrV_new]
  have o1 : ∀ q : Nat, q < H.size → H1[q]? = H[q]? := fun q hq => by rw [← hH1, Array.getElem?_push, if_neg (Nat.ne_of_lt hq)]
  have hH' : ew_h g s (sh ++ [.inr (.inl (1, List.replicate N none))]) (ew_up M sh.length ew_z) H1 := by
    refine hH.push hs z1 o1 ?_
    show H1[ew_ad g sh.length]? = some (arrV (g.2.2.2.1 1) (List.replicate N (none : Option Nat)).length (fun j => ew_o g ((List.replicate N none).getD j none)))
    rw [htop, e1, List.length_replicate]
    refine congrArg some (congrArg (arrV _ N) (funext fun j => ?_))
    by_cases hj : j < N
    · simp [List.getD, List.getElem?_replicate, hj, ew_o]
    · simp [List.getD, List.getElem?_replicate, hj, ew_o]
  have hk9 := k p e R s mid args below meth c H1 locs (cells + 1) (slots + N) Z lr X h1 h2 (by omega) (by omega) hH' hlo hL (fun v sh' M' H2 locs' pc' lr' q w z t => by
    have := hr v sh' M' H2 locs' pc' lr' q w z t
    rw [show cells + (a + 1) = cells + 1 + a by omega, show slots + (b + N) = slots + N + b by omega] at this
    exact this)
  exact hk9
theorem ew_aast {i j v : Nat} {rs : List (Option Nat)} {fs : List (Option (Option Nat))} {r : vw_C} {x : Int32} (hd : decode m.2.2.1 pc = .ok (.aastore, 1)) (hs : sh[i]? = some (.inr (.inl (1, rs)))) (hi3 : 3 ≤ i) (hv : sh[v]? = some (.inr (.inr (8, fs)))) (hc : ew_cl[8]? = some r) (hr1 : r.1 = "TraceProver$Tree") (hx : x = nI j) (hj : j < rs.length) (hn : rs.length < 2 ^ 31) (k : Ew l g d a b m (pc + 1) ls st (sh.set i (.inr (.inl (1, rs.set j (some v))))) M Q) : Ew l g d a b m pc ls (.ref v :: .int x :: .ref i :: st) sh M Q := by
  intro p e R s mid args below meth c H locs cells slots Z lr X h1 h2 h3 h4 hH hlo hL hr
  have c1 := hH.2.2.1 i _ hs
  obtain ⟨r', hr', hl, ce, q1, q2, q3, q4⟩ := hH.2.2.1 v _ hv
  cases hr'.symm.trans hc
  subst hx
  have hcl : (nI j).toNatClampNeg = j := nI_clamp (by omega)
  obtain ⟨-, -, -, hAO, ⟨kT, cT, t1, t2, t3, t4⟩, -⟩ := X.2.2.2.2.2.2.2.2
  have hcls := (X.2.2.2.2.2.2.2.2.1 8 r hc).2
  have hcomp : cT = g.2.2.2.2.1 8 := Option.some.inj (t3.symm.trans (hr1 ▸ hcls.1))
  subst hcomp
  obtain ⟨kC, hkC, -⟩ := hcls.2
  refine W.aast X.1 X.2.1 c1 (fun q h => by cases h) (fun h => by cases h) t1 t2 rfl hkC ⟨nI_pos (by omega), by rw [arrV_size, hcl]; exact hj⟩ q1 (fun q h => by rw [q3] at h; cases h) (by rw [q2]; exact hkC) (by rw [q2]; exact va_assign hcls) rfl rfl hd fun H1 e1 e2 e3 => ?_
  rw [hcl] at e1 ⊢
  have hH' : ew_h g s (sh.set i (.inr (.inl (1, rs.set j (some v))))) M H1 := by
    refine hH.set X.2.2.2.2.2.2.2.2.2.2.2.2.2.2.2 hi3 (fun q hq => rfl) e2 e3 ?_
    show H1[ew_ad g i]? = some (arrV (g.2.2.2.1 1) (rs.set j (some v)).length (fun q => ew_o g ((rs.set j (some v)).getD q none)))
    rw [e1, arrV_store, List.length_set]
    refine congrArg some (congrArg (arrV _ _) (funext fun q => ?_))
    unfold updV
    by_cases eq : q = j
    · subst eq
      simp [List.getD, List.getElem?_set_self hj, ew_o]
    · simp [List.getD, List.getElem?_set_ne (fun h => eq h.symm), eq]
  exact k p e R s mid args below meth c H1 _ cells slots Z lr X h1 h2 h3 h4 hH' (fun q hq => (List.mem_append.mp hq).elim (hlo q) (fun h => by rw [List.mem_singleton.mp h]; exact ew_ad_ge hi3)) hL hr
theorem ew_objInit {i idx : Nat} (hd : decode m.2.2.1 pc = .ok (.invokespecial idx, 3)) (hk : Cond.methodLink m.1 idx objectInit ∈ ew_tb) (hk2 : Cond.instanceMethod objectInit ∈ ew_tb) (hk3 : Cond.code objectInit ⟨#[0xb1]⟩ 1 none ∈ ew_tb) (hst : (st.map fun v => v.category).sum ≤ 8) (k : Ew l g (d + 1) a b m (pc + 3) ls st sh M Q) : Ew l g (d + 1) a b m pc ls (.ref i :: st) sh M Q := by
  intro p e R s mid args below meth c H locs cells slots Z lr X h1 h2 h3 h4 hH hlo hL hr
  refine W.objInit X.1 X.2.1 X.2.2.2.2.1 (X.2.2.2.2.2.1 _ hk) (X.2.2.2.2.2.1 _ hk2) (X.2.2.2.2.2.1 _ hk3) rfl (by rw [X.2.2.1]; exact hL.1) rfl hd (by omega) ?_ (k p e R s mid args below meth c H locs cells slots Z lr X h1 h2 h3 h4 hH hlo hL hr)
  have hc : ((st.map (ew_v g)).map fun v => v.category) = st.map fun v => v.category := by
    rw [List.map_map]
    apply List.map_congr_left
    intro v _
    cases v <;> rfl
  show 2 * 0 + ((st.map (ew_v g)).map fun v => v.category).sum + 12 ≤ R.locals
  rw [hc]
  omega
end EWN
end
section
def ew_ok (m : ew_D) (n : Nat) : Prop := Cond.code m.2.1 m.2.2.1 m.2.2.2.1 m.2.2.2.2 ∈ ew_tb ∧ Cond.initialized m.2.1.cls ∈ ew_tb ∧ plainName m.2.1.cls = true ∧ (m.2.1.cls ≠ "java/lang/invoke/MethodHandle" ∧ m.2.1.cls ≠ "java/lang/invoke/VarHandle" ∧ (parseMethodDescriptor m.2.1.desc).map (fun d => d.parameters.length) = some n) ∧ m.2.2.2.1 ≤ 9 ∧ m.1 = m.2.1.cls
def ew_en (n : Nat) (As : List Value) : List Value := As ++ List.replicate (n - As.length) (.retAddr 0)
theorem ew_sl {g : ew_G} : ∀ {As : List Value}, As.all ew_ir = true → (lg_sl (As.map (ew_v g))).length = As.length
  | [], _ => rfl
  | v :: vs, h => by
    have h1 : ew_ir v = true ∧ vs.all ew_ir = true := by simpa using h
    have ih := ew_sl (g := g) h1.2
    have hc : (ew_v g v).category = 1 := ew_cat h1.1
    unfold lg_sl at ih ⊢
    simp only [List.map_cons, List.flatMap_cons, hc]
    simp [ih]
theorem ew_la {g : ew_G} : ∀ {As : List Value} (k i : Nat) {v : Value}, As.all ew_ir = true → As[i]? = some v → (k + i, ew_v g v) ∈ lv_args k (As.map (ew_v g))
  | [], k, i, v, _, hv => by simp at hv
  | w :: vs, k, i, v, h, hv => by
    have h1 : ew_ir w = true ∧ vs.all ew_ir = true := by simpa using h
    have hc : (ew_v g w).category = 1 := ew_cat h1.1
    simp only [List.map_cons, lv_args, hc]
    cases i with
    | zero =>
      simp at hv
      subst hv
      exact List.mem_cons_self
    | succ i =>
      have hv' : vs[i]? = some v := by simpa using hv
      have := ew_la (g := g) (k + 1) i h1.2 hv'
      rw [show k + (i + 1) = k + 1 + i by omega]
      exact List.mem_cons_of_mem _ (by simpa using this)
theorem ew_entry {g : ew_G} {As : List Value} {n : Nat} (h : As.all ew_ir = true) (hn : As.length ≤ n) : ew_l g ((lg_sl (As.map (ew_v g)) ++ List.replicate (n - (lg_sl (As.map (ew_v g))).length) Slot.unset).toArray) n (ew_en n As) := by
  have hl := lv_entry (As.map (ew_v g)) (n := n) (by rw [ew_sl h]; exact hn)
  refine ⟨hl.1, by unfold ew_en; rw [List.length_append, List.length_replicate]; omega, hl.2.1, fun i v hv hr => ?_⟩
  unfold ew_en at hv
  by_cases hi : i < As.length
  · rw [List.getElem?_append_left hi] at hv
    have := hl.2.2 (0 + i, ew_v g v) (ew_la (g := g) 0 i h hv)
    simpa using this
  · rw [List.getElem?_append_right (by omega), List.getElem?_replicate] at hv
    split at hv
    · cases hv
      simp [ew_ir] at hr
    · cases hv
def ew_pc (g : ew_G) (As : List Value) (sh : List ew_S) (M : ew_M) : Array Value → State → Prop := fun v U => v = (As.map (ew_v g)).toArray ∧ ew_h g U sh M U.heap ∧ ew_k g U
def ew_qc (g : ew_G) (Q : Option Value → List ew_S → ew_M → Prop) : Array Value → State → Outcome → State → Prop := fun _ _ o t => ∃ (v : Option Value) (sh' : List ew_S) (M' : ew_M), o = .returned (v.map (ew_v g)) ∧ Q v sh' M' ∧ ew_h g t sh' M' t.heap
abbrev ew_rm (d a b : Nat) : Room := { frames := d, cells := a, slots := b, locals := 28 * d }
theorem ew_met {l : Launch} {g : ew_G} {d a b n : Nat} {m : ew_D} {As : List Value} {sh : List ew_S} {M : ew_M} {Q : Option Value → List ew_S → ew_M → Prop} (ok : ew_ok m n) (hA : As.length ≤ m.2.2.2.1) (hir : As.all ew_ir = true) (hc : Ew l g d a b m 0 (ew_en m.2.2.2.1 As) [] sh M Q) :
    Met l m.2.1 (Cond.code m.2.1 m.2.2.1 m.2.2.2.1 m.2.2.2.2 :: ew_tb) (ew_rm d a b) (ew_pc g As sh M) (ew_qc g Q) a b (fun q => g.1 ≤ q) := by
  refine Met.ofW (cc := m.2.2.1) (maxL := m.2.2.2.1) (ret := m.2.2.2.2) ok.2.2.1 rfl ?_
  intro p e s mid args below meth c s₁ B hml hv
  obtain ⟨rfl, hH, hK⟩ := hv
  have hts := atoms_spec (ws := Cond.code m.2.1 m.2.2.1 m.2.2.2.1 m.2.2.2.2 :: ew_tb) B.pre
  have hown : s.vm.findClass m.1 = some mid.cls := by rw [ok.2.2.2.2.2]; exact findClass_of_methodNamed B.named
  have hlocks := B.notSynchronized
  have hret := B.returns
  have hx := B.exec
  have hb := B.bytes
  rw [lg_entry_eq]
  have X : ew_x g m p s mid (As.map (ew_v g)).toArray meth c := ⟨hx, hb, hml, hret, hown, fun w hw => hts w (List.mem_cons_of_mem _ hw), hlocks, (name_of_methodNamed B.named B.method).1, hK⟩
  refine hc p e _ s mid _ below meth c s.heap [] 0 0 _ _ X (Nat.le_refl d) (Nat.le_refl _) (by show 0 + a ≤ a; omega) (by show 0 + b ≤ b; omega) hH (fun q h => by cases h) (ew_entry hir hA) (fun v sh' M' H' locs' pc' lr' q hh hl hrr => ?_)
  rw [Nat.zero_add, Nat.zero_add]
  cases v with
  | none =>
    exact W.vret hx hb (hret.trans hrr.1) (fun t ht hW => ⟨none, sh', M', rfl, q, by rw [ht]; exact hh.moved hW.alike⟩) hl hrr.2
  | some v =>
    cases v with
    | int x =>
      rcases hrr.2 with hm | ⟨hm, hx01⟩
      · exact W.iret hx hb (hret.trans hm) (fun t ht hW => ⟨some (.int x), sh', M', rfl, q, by rw [ht]; exact hh.moved hW.alike⟩) hl hrr.1
      · refine W.zret (ty := .boolean) hx hb (hret.trans hm) ?_ (fun t ht hW => ⟨some (.int x), sh', M', rfl, q, by rw [ht]; exact hh.moved hW.alike⟩) hl hrr.1
        rcases hx01 with rfl | rfl
        · decide
        · decide
    | _ => exact hrr.elim
theorem ew_blind {g : ew_G} {As : List Value} {sh : List ew_S} {M : ew_M} : FrameBlind (ew_pc g As sh M) := fun a U f mk h => ⟨h.1, h.2.1.moved (s := U) (U := U.calling f mk a) (Vm.Alike.refl U.vm), ew_k.moved (s := U) (U := U.calling f mk a) (State.WarmedH.refl U) h.2.2⟩
section EWC
variable {l : Launch} {g : ew_G} {d a b a1 b1 n : Nat} {m m' : ew_D} {pc : Nat} {ls st : List Value} {sh : List ew_S} {M : ew_M} {Q Q1 : Option Value → List ew_S → ew_M → Prop}
/-- what is behind every call -/
theorem ew_cont {p : Program} {e : Env} {R : Room} {s : State} {mid : MethodId} {args : Array Value} {below : List Frame} {meth : Method} {c : Code} {H : Heap} {locs : List Loc} {cells slots : Nat} {Z : State → Prop} {lr : Array Slot} {st0 : List Value} {av : Array Value}
    (hR : va_Run p l e R s mid args below meth c H locs cells slots a1 b1 (F0 mid pc lr st0) (st.map (ew_v g)) (ew_qc g Q1 av) (fun q => g.1 ≤ q))
    (X : ew_x g m p s mid args meth c) (h1 : d ≤ R.frames) (h2 : 28 * d ≤ R.locals) (h3 : cells + (a + a1) ≤ R.cells) (h4 : slots + (b + b1) ≤ R.slots) (hlo : ∀ q ∈ locs, g.1 ≤ q.base) (hL : ew_l g lr m.2.2.2.1 ls)
    (hr : ∀ (v : Option Value) (sh' : List ew_S) (M' : ew_M) (H' : Heap) (locs' : List Loc) (pc' : Nat) (lr' : Array Slot), Q v sh' M' → ew_h g s sh' M' H' → (∀ q ∈ locs', g.1 ≤ q.base) → ew_r m pc' v → W p l e R s mid args below meth c H' locs' (cells + (a + a1)) (slots + (b + b1)) Z (F0 mid pc' lr' (v.toList.map (ew_v g))))
    (k : ∀ v sh' M', Q1 v sh' M' → Ew l g d a b m (pc + 3) ls (v.toList ++ st) sh' M' Q) : W p l e R s mid args below meth c H locs cells slots Z (F0 mid pc lr st0) := by
  intro T hT XS
  obtain ⟨v, st₀, t, T', L, g0, X', hL', e1, e2, ⟨v', sh', M', hv, hq, hh⟩, stp⟩ := hR T hT XS
  cases hv
  have hal : s.vm.Alike t.vm := by rw [← e2]; exact X'.warmed.alike
  have hW := k v' sh' M' hq p e R s mid args below meth c T'.heap (locs ++ L) (cells + a1) (slots + b1) Z lr X h1 h2 (by omega) (by omega) (by rw [e1]; exact hh.moved hal.symm) (fun q hq => (List.mem_append.mp hq).elim (hlo q) (hL' q)) hL (fun v sh' M' H' locs' pc' lr' q w z y => by
    have := hr v sh' M' H' locs' pc' lr' q w z y
    rw [show cells + (a + a1) = cells + a1 + a by omega, show slots + (b + b1) = slots + b1 + b by omega] at this
    exact this)
  obtain ⟨t2, a2, b2⟩ := hW T' rfl X'
  refine ⟨t2, stp t2 ?_, b2⟩
  have hst : (v'.toList ++ st).map (ew_v g) = (v'.map (ew_v g)).toList ++ st.map (ew_v g) := by
    rw [List.map_append]
    cases v' <;> rfl
  rw [hst] at a2
  exact a2
theorem ew_cats {st : List Value} (h : (st.map fun v => v.category).sum ≤ 8) : ((st.map (ew_v g)).map fun v => v.category).sum ≤ 8 := by
  have hc : ((st.map (ew_v g)).map fun v => v.category) = st.map fun v => v.category := by
    rw [List.map_map]
    apply List.map_congr_left
    intro v _
    cases v <;> rfl
  rw [hc]
  exact h
theorem ew_callS {As : List Value} {idx : Nat} (hd : decode m.2.2.1 pc = .ok (.invokestatic idx, 3)) (ok : ew_ok m' n) (hk : Cond.methodLink m.1 idx m'.2.1 ∈ ew_tb) (hk2 : Cond.static m'.2.1 ∈ ew_tb) (hn : As.length = n) (hA : As.length ≤ m'.2.2.2.1) (hir : As.all ew_ir = true) (hst : (st.map fun v => v.category).sum ≤ 8) {st0 : List Value} (hs0 : st0 = As.reverse ++ st)
    (hc : Ew l g d a1 b1 m' 0 (ew_en m'.2.2.2.1 As) [] sh M Q1) (k : ∀ v sh' M', Q1 v sh' M' → Ew l g (d + 1) a b m (pc + 3) ls (v.toList ++ st) sh' M' Q) : Ew l g (d + 1) (a + a1) (b + b1) m pc ls st0 sh M Q := by
  intro p e R s mid args below meth c H locs cells slots Z lr X h1 h2 h3 h4 hH hlo hL hr
  subst hs0
  refine ew_cont (va_runS (As := As.map (ew_v g)) (rest := st.map (ew_v g)) (own := m.1) (Ts := ew_tb) ⟨X.1, X.2.1, X.2.2.1, X.2.2.2.2.1, X.2.2.2.2.2.1⟩ (ew_met ok hA hir hc) ⟨callB_of (ws' := ew_tb) n X.2.2.2.2.2.1 (ew_goodIn ok.1 _ (fun _ h => h)) rfl rfl rfl (X.2.2.2.2.2.1 _ ok.2.1) (X.2.2.2.2.2.1 _ hk) ok.2.2.2.1 ⟨by show d + 1 ≤ R.frames; omega, by show 8 + (m'.2.2.2.1 + 11) + 28 * d ≤ R.locals; have := ok.2.2.2.2.1; omega⟩, X.2.2.2.2.2.1 _ hk2⟩ ⟨ew_blind, fun U hU hW => ⟨rfl, by rw [hU]; exact hH.moved hW.alike, X.2.2.2.2.2.2.2.2.moved hW⟩⟩ rfl (by rw [List.length_map]; exact hn) hL.1 (by rw [List.map_append, List.map_reverse]) (lv_room (ew_cats hst)) hd ⟨by omega, by omega⟩) X h1 h2 h3 h4 hlo hL hr k
theorem ew_callSN {As : List Value} {idx : Nat} {host : String} (hd : decode m.2.2.1 pc = .ok (.invokestatic idx, 3)) (ok : ew_ok m' n) (hk : Cond.methodLinkNest m.1 idx m'.2.1 host ∈ ew_nt) (hk2 : Cond.static m'.2.1 ∈ ew_tb) (hn : As.length = n) (hA : As.length ≤ m'.2.2.2.1) (hir : As.all ew_ir = true) (hst : (st.map fun v => v.category).sum ≤ 8) {st0 : List Value} (hs0 : st0 = As.reverse ++ st)
    (hc : Ew l g d a1 b1 m' 0 (ew_en m'.2.2.2.1 As) [] sh M Q1) (k : ∀ v sh' M', Q1 v sh' M' → Ew l g (d + 1) a b m (pc + 3) ls (v.toList ++ st) sh' M' Q) : Ew l g (d + 1) (a + a1) (b + b1) m pc ls st0 sh M Q := by
  intro p e R s mid args below meth c H locs cells slots Z lr X h1 h2 h3 h4 hH hlo hL hr
  subst hs0
  refine ew_cont (va_runSN (As := As.map (ew_v g)) (rest := st.map (ew_v g)) (own := m.1) (Ts := ew_tb) ⟨X.1, X.2.1, X.2.2.1, X.2.2.2.2.1, X.2.2.2.2.2.1⟩ (ew_met ok hA hir hc) ⟨va_cnB (ws' := ew_tb) n X.2.2.2.2.2.1 (ew_goodIn ok.1 _ (fun _ h => h)) rfl rfl rfl (X.2.2.2.2.2.2.2.2.2.1 _ hk) (X.2.2.2.2.2.1 _ ok.2.1) ok.2.2.2.1 ⟨by show d + 1 ≤ R.frames; omega, by show 8 + (m'.2.2.2.1 + 11) + 28 * d ≤ R.locals; have := ok.2.2.2.2.1; omega⟩, X.2.2.2.2.2.1 _ hk2, trivial⟩ ⟨ew_blind, fun U hU hW => ⟨rfl, by rw [hU]; exact hH.moved hW.alike, X.2.2.2.2.2.2.2.2.moved hW⟩⟩ rfl (by rw [List.length_map]; exact hn) hL.1 (by rw [List.map_append, List.map_reverse]) (lv_room (ew_cats hst)) hd ⟨by omega, by omega⟩) X h1 h2 h3 h4 hlo hL hr k
theorem ew_callI {As : List Value} {idx i : Nat} (hd : decode m.2.2.1 pc = .ok (.invokespecial idx, 3)) (ok : ew_ok m' n) (hk : Cond.methodLink m.1 idx m'.2.1 ∈ ew_tb) (hk2 : Cond.instanceMethod m'.2.1 ∈ ew_tb) (hini : m'.2.1.name = "<init>") (hret : m'.2.2.2.2 = none) (hn : As.length = n) (hA : As.length + 1 ≤ m'.2.2.2.1) (hir : As.all ew_ir = true) (hst : (st.map fun v => v.category).sum ≤ 8) {st0 : List Value} (hs0 : st0 = As.reverse ++ .ref i :: st)
    (hc : Ew l g d a1 b1 m' 0 (ew_en m'.2.2.2.1 (.ref i :: As)) [] sh M Q1) (k : ∀ v sh' M', Q1 v sh' M' → Ew l g (d + 1) a b m (pc + 3) ls (v.toList ++ st) sh' M' Q) : Ew l g (d + 1) (a + a1) (b + b1) m pc ls st0 sh M Q := by
  intro p e R s mid args below meth c H locs cells slots Z lr X h1 h2 h3 h4 hH hlo hL hr
  subst hs0
  have hM := ew_met (As := .ref i :: As) ok hA (by simpa [ew_ir] using hir) hc
  have hok := ok.1
  rw [hret] at hM hok
  refine ew_cont (va_runI (As := As.map (ew_v g)) (b := ew_ad g i) (rest := st.map (ew_v g)) (own := m.1) (Ts := ew_tb) ⟨X.1, X.2.1, X.2.2.1, X.2.2.2.2.1, X.2.2.2.2.2.1⟩ hM ⟨callB_of (ws' := ew_tb) n X.2.2.2.2.2.1 (ew_goodIn hok _ (fun _ h => h)) rfl rfl rfl (X.2.2.2.2.2.1 _ ok.2.1) (X.2.2.2.2.2.1 _ hk) ok.2.2.2.1 ⟨by show d + 1 ≤ R.frames; omega, by show 8 + (m'.2.2.2.1 + 11) + 28 * d ≤ R.locals; have := ok.2.2.2.2.1; omega⟩, hini, X.2.2.2.2.2.1 _ hk2⟩ ⟨ew_blind, fun U hU hW => ⟨rfl, by rw [hU]; exact hH.moved hW.alike, X.2.2.2.2.2.2.2.2.moved hW⟩⟩ rfl (by rw [List.length_map]; exact hn) hL.1 (by rw [List.map_append, List.map_reverse]; rfl) (lv_room (ew_cats hst)) hd ⟨by omega, by omega⟩) X h1 h2 h3 h4 hlo hL hr k
theorem ew_callIN {As : List Value} {idx i : Nat} {host : String} (hd : decode m.2.2.1 pc = .ok (.invokespecial idx, 3)) (ok : ew_ok m' n) (hk : Cond.methodLinkNest m.1 idx m'.2.1 host ∈ ew_nt) (hk2 : Cond.instanceMethod m'.2.1 ∈ ew_tb) (hini : m'.2.1.name = "<init>") (hret : m'.2.2.2.2 = none) (hn : As.length = n) (hA : As.length + 1 ≤ m'.2.2.2.1) (hir : As.all ew_ir = true) (hst : (st.map fun v => v.category).sum ≤ 8) {st0 : List Value} (hs0 : st0 = As.reverse ++ .ref i :: st)
    (hc : Ew l g d a1 b1 m' 0 (ew_en m'.2.2.2.1 (.ref i :: As)) [] sh M Q1) (k : ∀ v sh' M', Q1 v sh' M' → Ew l g (d + 1) a b m (pc + 3) ls (v.toList ++ st) sh' M' Q) : Ew l g (d + 1) (a + a1) (b + b1) m pc ls st0 sh M Q := by
  intro p e R s mid args below meth c H locs cells slots Z lr X h1 h2 h3 h4 hH hlo hL hr
  subst hs0
  have hM := ew_met (As := .ref i :: As) ok hA (by simpa [ew_ir] using hir) hc
  have hok := ok.1
  rw [hret] at hM hok
  refine ew_cont (va_runIN (As := As.map (ew_v g)) (b := ew_ad g i) (rest := st.map (ew_v g)) (own := m.1) (Ts := ew_tb) ⟨X.1, X.2.1, X.2.2.1, X.2.2.2.2.1, X.2.2.2.2.2.1⟩ hM ⟨va_cnB (ws' := ew_tb) n X.2.2.2.2.2.1 (ew_goodIn hok _ (fun _ h => h)) rfl rfl rfl (X.2.2.2.2.2.2.2.2.2.1 _ hk) (X.2.2.2.2.2.1 _ ok.2.1) ok.2.2.2.1 ⟨by show d + 1 ≤ R.frames; omega, by show 8 + (m'.2.2.2.1 + 11) + 28 * d ≤ R.locals; have := ok.2.2.2.2.1; omega⟩, hini, X.2.2.2.2.2.1 _ hk2⟩ ⟨ew_blind, fun U hU hW => ⟨rfl, by rw [hU]; exact hH.moved hW.alike, X.2.2.2.2.2.2.2.2.moved hW⟩⟩ rfl (by rw [List.length_map]; exact hn) hL.1 (by rw [List.map_append, List.map_reverse]; rfl) (lv_room (ew_cats hst)) hd ⟨by omega, by omega⟩) X h1 h2 h3 h4 hlo hL hr k
theorem ew_recv {p : Program} {s : State} {mid : MethodId} {args : Array Value} {meth : Method} {c : Code} {H : Heap} {i ci : Nat} {fs : List (Option (Option Nat))} {r : vw_C} (X : ew_x g m p s mid args meth c) (hH : ew_h g s sh M H) (hs : sh[i]? = some (.inr (.inr (ci, fs)))) (hc : ew_cl[ci]? = some r) : ∃ cellB : Cell, H[ew_ad g i]? = some cellB ∧ cellB.vm.isStatics = false ∧ s.vm.findClass r.1 = some cellB.cls := by
  obtain ⟨r', hr', hl, ce, q1, q2, q3, q4⟩ := hH.2.2.1 i _ hs
  cases hr'.symm.trans hc
  exact ⟨ce, q1, by rw [q3]; rfl, by rw [q2]; exact (X.2.2.2.2.2.2.2.2.1 ci _ hc).2.1⟩
theorem ew_callV {As : List Value} {idx i ci : Nat} {fs : List (Option (Option Nat))} {r : vw_C} (hd : decode m.2.2.1 pc = .ok (.invokevirtual idx, 3)) (ok : ew_ok m' n) (hs : sh[i]? = some (.inr (.inr (ci, fs)))) (hcl : ew_cl[ci]? = some r) (hk : Cond.methodLink m.1 idx m'.2.1 ∈ ew_tb) (hk2 : Cond.instanceMethod m'.2.1 ∈ ew_tb) (hk3 : Cond.selects r.1 m'.2.1 m'.2.1 ∈ ew_tb) (hn : As.length = n) (hA : As.length + 1 ≤ m'.2.2.2.1) (hir : As.all ew_ir = true) (hst : (st.map fun v => v.category).sum ≤ 8) {st0 : List Value} (hs0 : st0 = As.reverse ++ .ref i :: st)
    (hc : Ew l g d a1 b1 m' 0 (ew_en m'.2.2.2.1 (.ref i :: As)) [] sh M Q1) (k : ∀ v sh' M', Q1 v sh' M' → Ew l g (d + 1) a b m (pc + 3) ls (v.toList ++ st) sh' M' Q) : Ew l g (d + 1) (a + a1) (b + b1) m pc ls st0 sh M Q := by
  intro p e R s mid args below meth c H locs cells slots Z lr X h1 h2 h3 h4 hH hlo hL hr
  subst hs0
  refine ew_cont (va_runV (As := As.map (ew_v g)) (b := ew_ad g i) (C := r.1) (rest := st.map (ew_v g)) (own := m.1) (Ts := ew_tb) ⟨X.1, X.2.1, X.2.2.1, X.2.2.2.2.1, X.2.2.2.2.2.1⟩ (ew_met (As := .ref i :: As) ok hA (by simpa [ew_ir] using hir) hc) ⟨callB_of (ws' := ew_tb) n X.2.2.2.2.2.1 (ew_goodIn ok.1 _ (fun _ h => h)) rfl rfl rfl (X.2.2.2.2.2.1 _ ok.2.1) (X.2.2.2.2.2.1 _ hk) ok.2.2.2.1 ⟨by show d + 1 ≤ R.frames; omega, by show 8 + (m'.2.2.2.1 + 11) + 28 * d ≤ R.locals; have := ok.2.2.2.2.1; omega⟩, X.2.2.2.2.2.1 _ hk2, X.2.2.2.2.2.1 _ hk3⟩ ⟨ew_blind, ew_recv X hH hs hcl, fun U hU hW => ⟨rfl, by rw [hU]; exact hH.moved hW.alike, X.2.2.2.2.2.2.2.2.moved hW⟩⟩ rfl (by rw [List.length_map]; exact hn) hL.1 (by rw [List.map_append, List.map_reverse]; rfl) (lv_room (ew_cats hst)) hd ⟨by omega, by omega⟩) X h1 h2 h3 h4 hlo hL hr k
theorem ew_callVN {As : List Value} {idx i ci : Nat} {host : String} {fs : List (Option (Option Nat))} {r : vw_C} (hd : decode m.2.2.1 pc = .ok (.invokevirtual idx, 3)) (ok : ew_ok m' n) (hs : sh[i]? = some (.inr (.inr (ci, fs)))) (hcl : ew_cl[ci]? = some r) (hk : Cond.methodLinkNest m.1 idx m'.2.1 host ∈ ew_nt) (hk2 : Cond.instanceMethod m'.2.1 ∈ ew_tb) (hk3 : Cond.selects r.1 m'.2.1 m'.2.1 ∈ ew_tb) (hn : As.length = n) (hA : As.length + 1 ≤ m'.2.2.2.1) (hir : As.all ew_ir = true) (hst : (st.map fun v => v.category).sum ≤ 8) {st0 : List Value} (hs0 : st0 = As.reverse ++ .ref i :: st)
    (hc : Ew l g d a1 b1 m' 0 (ew_en m'.2.2.2.1 (.ref i :: As)) [] sh M Q1) (k : ∀ v sh' M', Q1 v sh' M' → Ew l g (d + 1) a b m (pc + 3) ls (v.toList ++ st) sh' M' Q) : Ew l g (d + 1) (a + a1) (b + b1) m pc ls st0 sh M Q := by
  intro p e R s mid args below meth c H locs cells slots Z lr X h1 h2 h3 h4 hH hlo hL hr
  subst hs0
  refine ew_cont (va_runVN (As := As.map (ew_v g)) (b := ew_ad g i) (C := r.1) (rest := st.map (ew_v g)) (own := m.1) (Ts := ew_tb) ⟨X.1, X.2.1, X.2.2.1, X.2.2.2.2.1, X.2.2.2.2.2.1⟩ (ew_met (As := .ref i :: As) ok hA (by simpa [ew_ir] using hir) hc) ⟨va_cnB (ws' := ew_tb) n X.2.2.2.2.2.1 (ew_goodIn ok.1 _ (fun _ h => h)) rfl rfl rfl (X.2.2.2.2.2.2.2.2.2.1 _ hk) (X.2.2.2.2.2.1 _ ok.2.1) ok.2.2.2.1 ⟨by show d + 1 ≤ R.frames; omega, by show 8 + (m'.2.2.2.1 + 11) + 28 * d ≤ R.locals; have := ok.2.2.2.2.1; omega⟩, X.2.2.2.2.2.1 _ hk2, X.2.2.2.2.2.1 _ hk3⟩ ⟨ew_blind, ew_recv X hH hs hcl, fun U hU hW => ⟨rfl, by rw [hU]; exact hH.moved hW.alike, X.2.2.2.2.2.2.2.2.moved hW⟩⟩ rfl (by rw [List.length_map]; exact hn) hL.1 (by rw [List.map_append, List.map_reverse]; rfl) (lv_room (ew_cats hst)) hd ⟨by omega, by omega⟩) X h1 h2 h3 h4 hlo hL hr k
end EWC
end
section
/-! new int[N][K] -/
def mn_oc (c : ClassId) (N h i : Nat) : Cell := arrV c N (fun j => if j < i then .ref (h + 1 + j) else .null)
def mn_ic (c : ClassId) (K : Nat) : Cell := arrV c K (fun _ => .int 0)
def mn_st (s : State) (c comp : ClassId) (N K : Nat) : Nat → State
  | 0 => s.pushCell (mn_oc c N s.heap.size 0)
  | i + 1 => ((mn_st s c comp N K i).pushCell (mn_ic comp K)).setCell s.heap.size (mn_oc c N s.heap.size (i + 1))
theorem mn_oc_set (c : ClassId) (N h i : Nat) : (mn_oc c N h i).setSlot i (.ref (h + 1 + i)) = mn_oc c N h (i + 1) := by
  unfold mn_oc
  rw [arrV_store]
  refine congrArg (arrV c N) (funext fun j => ?_)
  unfold updV
  by_cases e : j = i
  · subst e
    rw [if_pos rfl, if_pos (by omega)]
  · rw [if_neg e]
    dsimp only
    by_cases hj : j < i
    · rw [if_pos hj, if_pos (by omega)]
    · rw [if_neg hj, if_neg (by omega)]
theorem mn_facts (s : State) (c comp : ClassId) (N K : Nat) : ∀ i : Nat, (mn_st s c comp N K i).heap.size = s.heap.size + 1 + i ∧ (mn_st s c comp N K i).heap[s.heap.size]? = some (mn_oc c N s.heap.size i) ∧ (mn_st s c comp N K i).vm = s.vm ∧ (mn_st s c comp N K i).slotsUsed = s.slotsUsed + N + i * K ∧ (∀ q : Nat, q < s.heap.size → (mn_st s c comp N K i).heap[q]? = s.heap[q]?) ∧ ∀ j : Nat, j < i → (mn_st s c comp N K i).heap[s.heap.size + 1 + j]? = some (mn_ic comp K)
  | 0 => by
    refine ⟨by simp [mn_st], by simp [mn_st], rfl, ?_, fun q hq => State.heap_pushCell_of_lt _ _ hq, fun j h => absurd h (Nat.not_lt_zero _)⟩
    have h : (mn_oc c N s.heap.size 0).slots.size = N := arrV_size _ _ _
    simp [mn_st, h]
  | i + 1 => by
    obtain ⟨h1, h2, h3, h4, h5, h6⟩ := mn_facts s c comp N K i
    have hK : (mn_ic comp K).slots.size = K := arrV_size _ _ _
    have hlt : s.heap.size < (mn_st s c comp N K i).heap.size := by omega
    have hb : ((mn_st s c comp N K i).pushCell (mn_ic comp K)).heap[s.heap.size]? = some (mn_oc c N s.heap.size i) := by
      rw [State.heap_pushCell_of_lt (h := hlt)]
      exact h2
    refine ⟨?_, State.heap_setCell_self hb, by simp [mn_st, h3], ?_, fun q hq => ?_, fun j hj => ?_⟩
    · simp [mn_st, State.setCell, h1]
      omega
    · simp [mn_st, h4, hK, Nat.succ_mul]
      omega
    · show (((mn_st s c comp N K i).pushCell (mn_ic comp K)).setCell s.heap.size _).heap[q]? = _
      have hq2 : q < (mn_st s c comp N K i).heap.size := by omega
      rw [State.heap_setCell_other (Nat.ne_of_gt hq), State.heap_pushCell_of_lt (h := hq2)]
      exact h5 q hq
    · show (((mn_st s c comp N K i).pushCell (mn_ic comp K)).setCell s.heap.size _).heap[s.heap.size + 1 + j]? = _
      rw [State.heap_setCell_other (show s.heap.size ≠ s.heap.size + 1 + j by omega)]
      rcases Nat.lt_or_ge j i with hj' | hj'
      · have hq2 : s.heap.size + 1 + j < (mn_st s c comp N K i).heap.size := by omega
        rw [State.heap_pushCell_of_lt (h := hq2)]
        exact h6 j hj'
      · have e : j = i := by omega
        subst e
        rw [← h1]
        exact State.heap_pushCell_size _ _
theorem mn_top (s : State) (f : JFrame) (c comp : ClassId) (N K : Nat) : ∀ i : Nat, mn_st (s.setTop f) c comp N K i = (mn_st s c comp N K i).setTop f
  | 0 => rfl
  | i + 1 => by simp only [mn_st, mn_top s f c comp N K i, State.heap_setTop, State.pushCell_setTop, State.setCell_setTop]
theorem mn_stand {p : Program} {l : Launch} {e : Env} {R : Room} {s : State} {m : MethodId} {args : Array Value} {below : List Frame} {meth : Method} {c : Code} {T : State} {locs : List Loc} {cells slots : Nat} (X : Stand p l e R s m args below meth c T locs cells slots) (cA comp : ClassId) (N K : Nat) :
    ∀ i : Nat, Stand p l e R s m args below meth c (mn_st T cA comp N K i) (locs ++ (List.range i).map fun j => ⟨T.heap.size, j⟩) (cells + 1 + i) (slots + N + i * K)
  | 0 => by
    have h := X.pushed (mn_oc cA N T.heap.size 0)
    rw [show (mn_oc cA N T.heap.size 0).slots.size = N from arrV_size _ _ _] at h
    simpa [mn_st] using h
  | i + 1 => by
    have Xi := mn_stand X cA comp N K i
    obtain ⟨h1, h2, h3, h4, h5, h6⟩ := mn_facts T cA comp N K i
    have hlt : T.heap.size < (mn_st T cA comp N K i).heap.size := by omega
    have hb : ((mn_st T cA comp N K i).pushCell (mn_ic comp K)).heap[T.heap.size]? = some (mn_oc cA N T.heap.size i) := by
      rw [State.heap_pushCell_of_lt (h := hlt)]
      exact h2
    have h := (Xi.pushed (mn_ic comp K)).stored hb i (.ref (T.heap.size + 1 + i))
    rw [show (mn_ic comp K).slots.size = K from arrV_size _ _ _, mn_oc_set] at h
    have e2 : (locs ++ (List.range (i + 1)).map fun j => (⟨T.heap.size, j⟩ : Loc)) = (locs ++ (List.range i).map fun j => (⟨T.heap.size, j⟩ : Loc)) ++ [⟨T.heap.size, i⟩] := by simp [List.range_succ, List.append_assoc]
    have e3 : slots + N + (i + 1) * K = slots + N + i * K + K := by rw [Nat.succ_mul]; omega
    rw [e2, e3]
    exact h
section MNW
variable {E : CtlPost} {e : Env} {d : Bool} {acts : List Action} {s : State}
theorem mn_wp1 {comp cc : ClassId} {kc : Class} {k : Int32} {K : Nat} (hkc : s.vm.classes[comp]? = some kc) (hkindc : kc.kind = .array cc .int) (hk : ¬ k < 0) (hK : k.toNatClampNeg = K)
    (hl2 : ¬ K > e.platform.arrayLengthLimit) (hh2 : ¬ K * 4 > e.platform.maxHeapBytes) (h1 : s.heap.size < e.platform.maxCells) (h2 : s.slotsUsed + K ≤ e.platform.maxSlots)
    {Q : Addr → Pre} (hq : ∀ acts', Q s.heap.size d acts' (s.pushCell (mn_ic comp K))) : wp (multianewarray.make comp [k]) Q E e d acts s := by
  subst hK
  rw [multianewarray.make]
  simp only [wp_bind', W.ite, hk, if_false, wp_pure', W.theClass, hkc, hkindc, Option.some.injEq, exists_eq_left']
  refine W.newArray_of hkc hkindc hl2 hh2 h1 h2 rfl (fun acts' => ?_)
  have := hq acts'
  unfold mn_ic at this
  rw [← arrV_new] at this
  exact this
theorem mn_wp2 {c comp cc : ClassId} {kA kc : Class} {n k : Int32} {N K : Nat} (hkA : s.vm.classes[c]? = some kA) (hkind : kA.kind = .array comp (.array .int))
    (hkc : s.vm.classes[comp]? = some kc) (hkindc : kc.kind = .array cc .int) (hn : ¬ n < 0) (hk : ¬ k < 0) (hN : n.toNatClampNeg = N) (hK : k.toNatClampNeg = K)
    (hl1 : ¬ N > e.platform.arrayLengthLimit) (hh1 : ¬ N * 4 > e.platform.maxHeapBytes) (hl2 : ¬ K > e.platform.arrayLengthLimit) (hh2 : ¬ K * 4 > e.platform.maxHeapBytes)
    (hc : s.heap.size + 1 + N ≤ e.platform.maxCells) (hs : s.slotsUsed + N + N * K ≤ e.platform.maxSlots)
    {Q : Addr → Pre} (hq : ∀ d' acts', Q s.heap.size d' acts' (mn_st s c comp N K N)) : wp (multianewarray.make c [n, k]) Q E e d acts s := by
  subst hN
  have hfind : ([k].find? (· < 0)) = none := by simp [hk]
  rw [multianewarray.make]
  simp only [wp_bind', W.ite, hn, if_false, wp_pure', W.theClass, hkA, hkind, Option.some.injEq, exists_eq_left']
  refine W.newArray_of hkA hkind hl1 hh1 (by omega) (by have := Nat.zero_le (n.toNatClampNeg * K); omega) rfl (fun acts' => ?_)
  simp only [hfind]
  rw [ite_self, wp_bind', Std.Legacy.Range.forIn_eq_forIn_range']
  have hsz : ([:n.toNatClampNeg] : Std.Legacy.Range).size = n.toNatClampNeg := by simp [Std.Legacy.Range.size]
  rw [hsz]
  show wp (forIn (List.range' 0 n.toNatClampNeg 1) PUnit.unit _) _ E e d acts' _
  have h00 : s.pushCell { cls := c, slots := Array.replicate n.toNatClampNeg .null } = mn_st s c comp n.toNatClampNeg K 0 := by
    show _ = s.pushCell (mn_oc c n.toNatClampNeg s.heap.size 0)
    refine congrArg s.pushCell ?_
    rw [arrV_new]
    rfl
  rw [h00]
  refine wp_forIn_inv (fun rest s' => ∃ i : Nat, i ≤ n.toNatClampNeg ∧ rest = List.range' i (n.toNatClampNeg - i) ∧ s' = mn_st s c comp n.toNatClampNeg K i) _ _ ⟨0, Nat.zero_le _, rfl, rfl⟩ ?_ ?_
  · rintro x rest s' d' acts2 Q' ⟨i, hi, hl, rfl⟩ hnext
    have hlt : i < n.toNatClampNeg := by
      rcases Nat.lt_or_ge i n.toNatClampNeg with h | h
      · exact h
      · rw [show n.toNatClampNeg - i = 0 from by omega] at hl
        simp at hl
    rw [show n.toNatClampNeg - i = (n.toNatClampNeg - (i + 1)) + 1 from by omega, List.range'_succ] at hl
    obtain ⟨rfl, hrest⟩ : x = i ∧ rest = List.range' (i + 1) (n.toNatClampNeg - (i + 1)) := ⟨(List.cons.inj hl).1, (List.cons.inj hl).2⟩
    obtain ⟨f1, f2, f3, f4, -, -⟩ := mn_facts s c comp n.toNatClampNeg K x
    have hmul : x * K + K ≤ n.toNatClampNeg * K := by
      have := Nat.mul_le_mul_right K (show x + 1 ≤ n.toNatClampNeg from hlt)
      rw [Nat.succ_mul] at this
      exact this
    simp only [wp_bind']
    refine mn_wp1 (by rw [f3]; exact hkc) hkindc hk hK hl2 hh2 (by rw [f1]; omega) (by rw [f4]; omega) (fun acts3 => ?_)
    have hlt0 : s.heap.size < (mn_st s c comp n.toNatClampNeg K x).heap.size := by omega
    simp only [wp_bind', W.writeLoc, wp_pure']
    refine ⟨mn_oc c n.toNatClampNeg s.heap.size x, by rw [State.heap_pushCell_of_lt (h := hlt0)]; exact f2, (fun h => by cases h), by show x < (arrV _ _ _).slots.size; rw [arrV_size]; exact hlt, ?_, hnext _ _ _ ⟨x + 1, hlt, hrest, ?_⟩⟩
    · show State.fitsSlot _ c .none x _ = true
      simp [State.fitsSlot, State.slotType?, f3, hkA, hkind, fits]
    · rw [f1, mn_oc_set]
      rfl
  · rintro s' d' acts2 ⟨i, hi, hl, rfl⟩
    have hiN : i = n.toNatClampNeg := by
      rcases Nat.lt_or_ge i n.toNatClampNeg with h | h
      · rw [show n.toNatClampNeg - i = (n.toNatClampNeg - (i + 1)) + 1 from by omega, List.range'_succ] at hl
        cases hl
      · omega
    subst hiN
    simp only [wp_pure']
    exact hq _ _
end MNW

theorem ew_mna {l : Launch} {g : ew_G} {d a b : Nat} {m : ew_D} {pc : Nat} {ls st : List Value} {sh : List ew_S} {M : ew_M} {Q : Option Value → List ew_S → ew_M → Prop} {N K idx : Nat} {x y : Int32} (hd : decode m.2.2.1 pc = .ok (.multianewarray idx 2, 4)) (hx : x = nI N) (hy : y = nI K) (hN : N ≤ 1000) (hK : K ≤ 1000) (hk : Cond.classLink m.1 idx ("[" ++ (FieldType.array .int).toString) ∈ ew_tb)
    (k : Ew l g d a b m (pc + 4) ls (.ref sh.length :: st) (sh ++ (.inr (.inl (0, (List.range N).map fun j => some (sh.length + 1 + j))) :: List.replicate N (.inl K))) (fun q => if sh.length ≤ q then ew_z else M q) Q) : Ew l g d (a + (1 + N)) (b + (N + N * K)) m pc ls (.int y :: .int x :: st) sh M Q := by
  intro p e R s mid args below meth c H locs cells slots Z lr X h1 h2 h3 h4 hH hlo hL hr
  have hs := X.2.2.2.2.2.2.2.2.2.2.2.2.2.2.2
  have htop := ew_ad_top hH
  obtain ⟨-, -, ⟨kA, kC, comp, cc, b1, b2, b3, b4, b5, b6⟩, -⟩ := X.2.2.2.2.2.2.2.2
  subst hx
  subst hy
  have hcN : (nI N).toNatClampNeg = N := nI_clamp (by omega)
  have hcK : (nI K).toNatClampNeg = K := nI_clamp (by omega)
  intro T hT XS
  have hpl : e.platform.magicAccessors = ({} : Platform).magicAccessors := by rw [XS.admits.platform]
  obtain ⟨c0, hfc0, hcl⟩ := Cond.classLink_spec X.2.2.2.2.1 (X.2.2.2.2.2.1 _ hk) e.platform hpl
  cases b3.symm.trans hfc0
  obtain ⟨hg₁, hwarm₁, hready₁⟩ := State.classEntry (e := e) XS.warmed hcl
  generalize T.vm.noted mid.cls idx (.cls (g.2.2.2.1 0)) = vm₁ at hg₁ hwarm₁ hready₁
  have hal : s.vm.Alike vm₁ := hwarm₁.alike
  obtain ⟨kA₁, hkA₁, heA⟩ := hal.2.2 _ _ b1
  obtain ⟨kC₁, hkC₁, heC⟩ := hal.2.2 _ _ b4
  have hkindA₁ : kA₁.kind = .array comp (.array .int) := by rw [heA]; exact b2
  have hkindC₁ : kC₁.kind = .array cc .int := by rw [heC]; exact b5
  have X₁ := XS.noted hwarm₁
  obtain ⟨hr1, hr2⟩ := XS.roomAbove (a := 1 + N) (b := N + N * K) (by omega) (by omega)
  have XF := mn_stand X₁ (g.2.2.2.1 0) comp N K N
  have XF2 : Stand p l e R s mid args below meth c (mn_st (T.setVm vm₁) (g.2.2.2.1 0) comp N K N) (locs ++ (List.range N).map fun j => ⟨T.heap.size, j⟩) (cells + 1 + N) (slots + N + N * K) := XF
  obtain ⟨f1, f2, f3, f4, f5, f6⟩ := mn_facts (T.setVm vm₁) (g.2.2.2.1 0) comp N K N
  have hTh : (T.setVm vm₁).heap = H := hT
  rw [hTh] at f1 f2 f5 f6
  generalize hF : mn_st (T.setVm vm₁) (g.2.2.2.1 0) comp N K N = F at XF2 f1 f2 f3 f4 f5 f6
  have l1 := hH.1
  have l2 := hH.2.1
  have hAr : ∀ (n : Nat) (z : Nat → Value), s.isArrayOf (arrV comp n z) .int := fun n z => ⟨(fun q h => by cases h), kC, b4, cc, b5⟩
  have hH' : ew_h g s (sh ++ (.inr (.inl (0, (List.range N).map fun j => some (sh.length + 1 + j))) :: List.replicate N (.inl K))) (fun q => if sh.length ≤ q then ew_z else M q) F.heap := by
    refine ⟨by rw [List.length_append]; omega, by rw [f1, l2, List.length_append, List.length_cons, List.length_replicate]; omega, fun i x hx => ?_, fun q hq => ?_⟩
    · by_cases hl : i < sh.length
      · rw [List.getElem?_append_left hl] at hx
        exact (hH.2.2.1 i x hx).kept (f5 _ (ew_ad_lt hH hs hl)) (if_neg (by omega))
      · rw [List.getElem?_append_right (by omega)] at hx
        by_cases e0 : i = sh.length
        · subst e0
          rw [Nat.sub_self] at hx
          cases hx
          show F.heap[ew_ad g sh.length]? = _
          rw [htop, f2]
          unfold mn_oc
          rw [List.length_map, List.length_range]
          refine congrArg some (congrArg (arrV _ N) (funext fun j => ?_))
          by_cases hj : j < N
          · rw [if_pos hj]
            have hg : ((List.range N).map fun j => some (sh.length + 1 + j)).getD j none = some (sh.length + 1 + j) := by
              simp [List.getD, List.getElem?_map, List.getElem?_range hj]
            rw [hg]
            have ha : ew_ad g (sh.length + 1 + j) = H.size + 1 + j := by
              unfold ew_ad
              rw [if_neg (by omega)]
              omega
            show Value.ref (H.size + 1 + j) = Value.ref (ew_ad g (sh.length + 1 + j))
            rw [ha]
          · rw [if_neg hj]
            simp [List.getD, List.getElem?_map, List.getElem?_eq_none (show (List.range N).length ≤ j by rw [List.length_range]; omega), ew_o]
        · obtain ⟨t, ht⟩ : ∃ t, i - sh.length = t + 1 := ⟨i - sh.length - 1, by omega⟩
          rw [ht, List.getElem?_cons_succ, List.getElem?_replicate] at hx
          by_cases htN : t < N
          · rw [if_pos htN] at hx
            cases hx
            have had : ew_ad g i = H.size + 1 + t := by
              unfold ew_ad
              rw [if_neg (by omega)]
              omega
            refine ⟨mn_ic comp K, by rw [had]; exact f6 t htN, hAr _ _, (fun q => by cases q), arrV_size _ _ _, fun j hj => ?_⟩
            unfold mn_ic
            have hz : (fun q => if sh.length ≤ q then ew_z else M q) i = ew_z := if_pos (by omega)
            rw [arrV_read _ _ hj, hz]
            rfl
          · rw [if_neg htN] at hx
            cases hx
    · rw [f5 q (by omega)]
      exact hH.2.2.2 q hq
  have hW := k p e R s mid args below meth c F.heap (locs ++ (List.range N).map fun j => ⟨T.heap.size, j⟩) (cells + 1 + N) (slots + N + N * K) Z lr X h1 h2 (by omega) (by omega) hH' (fun q hq => (List.mem_append.mp hq).elim (hlo q) (fun h => by
    obtain ⟨j, -, rfl⟩ := List.mem_map.mp h
    show g.1 ≤ T.heap.size
    rw [hT]
    omega)) hL (fun v sh' M' H2 locs' pc' lr' q w z t => by
    have := hr v sh' M' H2 locs' pc' lr' q w z t
    rw [show cells + (a + (1 + N)) = cells + 1 + N + a by omega, show slots + (b + (N + N * K)) = slots + N + N * K + b by omega] at this
    exact this)
  obtain ⟨t2, a2, b2'⟩ := hW F rfl XF2
  refine ⟨t2, ?_, b2'⟩
  have hl1 : ¬ N > e.platform.arrayLengthLimit := by rw [Launch.admits_arrayLengthLimit XS.admits]; omega
  have hh1 : ¬ N * 4 > e.platform.maxHeapBytes := by rw [Launch.admits_maxHeapBytes XS.admits]; omega
  have hl2 : ¬ K > e.platform.arrayLengthLimit := by rw [Launch.admits_arrayLengthLimit XS.admits]; omega
  have hh2 : ¬ K * 4 > e.platform.maxHeapBytes := by rw [Launch.admits_maxHeapBytes XS.admits]; omega
  have hdg : decode c.code pc = .ok (.multianewarray idx 2, 4) := by rw [X.2.1]; exact hd
  jvm_step XS.here [X.1, hdg]
  simp only [multianewarray.sem, wp_bind']
  refine (W.resolveClassAt_links (State.method?_setTop (F0 mid pc lr ((Value.int (nI K) :: Value.int (nI N) :: st).map (ew_v g))) XS.here.top) hg₁).mpr ?_
  simp only [wp_bind']
  rw [W.popN, if_neg (by decide)]
  refine ⟨_, State.topJava?_setTop' (s := T.setVm vm₁) _ XS.here.top, [.int (nI N), .int (nI K)], st.map (ew_v g), rfl, rfl, ?_⟩
  simp only [List.mapM_cons, List.mapM_nil, wp_bind', wp_pure']
  refine mn_wp2 (kA := kA₁) (kc := kC₁) (comp := comp) (cc := cc) (N := N) (K := K) hkA₁ hkindA₁ hkC₁ hkindC₁ (nI_pos (by omega)) (nI_pos (by omega)) hcN hcK hl1 hh1 hl2 hh2 (by show T.heap.size + 1 + _ ≤ _; omega) (by show T.slotsUsed + _ + _ ≤ _; omega) (fun d' acts' => ?_)
  have eS : ∀ f f' : JFrame, ((T.setTop f).setVm vm₁).setTop f' = (T.setVm vm₁).setTop f' := fun f f' => by
    show ((T.setVm vm₁).setTop f).setTop _ = _
    rw [State.setTop_setTop]
  rw [eS, mn_top, hF]
  simp only [wp_bind', W.mark, W.pushRef, State.topJava?_setTop' _ XF2.here.top, Option.some.injEq, exists_eq_left', State.setTop_setTop, State.heap_setTop]
  intro acts
  simp [jvm, XF2.here.top]
  have e9 : ew_v g (.ref sh.length) = .ref T.heap.size := by
    show Value.ref (ew_ad g sh.length) = _
    rw [htop, hT]
  rw [List.map_cons, e9] at a2
  exact a2
end
