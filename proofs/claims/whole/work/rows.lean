section
-- ===== PART A: goes FIRST, ahead of the names: the tables' words, and 'selects' of the private methods out of them =====
/-- a private method of a class that the tables say can be made, by its rows of tables_1 -/
def lw_okq (q : MethodName × Nat) : Prop := (q.1.cls ≠ "java/lang/invoke/MethodHandle" ∧ q.1.cls ≠ "java/lang/invoke/VarHandle") ∧ Cond.instantiable q.1.cls q.2 ∈ tables_1 ∧ Cond.privateMethod q.1 ∈ tables_1 ∧ Cond.instanceMethod q.1 ∈ tables_1
theorem lw_p0 : lw_okq (⟨"SubstitutionMachine$Outline", "measureEnds", "(LSubstitutionMachine$Term;)V"⟩, 3) := ⟨⟨by decide +kernel, by decide +kernel⟩, List.mem_of_getElem? (i := 39) (by decide +kernel), List.mem_of_getElem? (i := 291) (by decide +kernel), List.mem_of_getElem? (i := 292) (by decide +kernel)⟩
theorem lw_p1 : lw_okq (⟨"SubstitutionMachine$Outline", "measureDepths", "(LSubstitutionMachine$Term;)V"⟩, 3) := ⟨⟨by decide +kernel, by decide +kernel⟩, List.mem_of_getElem? (i := 39) (by decide +kernel), List.mem_of_getElem? (i := 300) (by decide +kernel), List.mem_of_getElem? (i := 301) (by decide +kernel)⟩
theorem lw_p2 : lw_okq (⟨"SubstitutionMachine$Outline", "setDepth", "(II)V"⟩, 3) := ⟨⟨by decide +kernel, by decide +kernel⟩, List.mem_of_getElem? (i := 39) (by decide +kernel), List.mem_of_getElem? (i := 304) (by decide +kernel), List.mem_of_getElem? (i := 305) (by decide +kernel)⟩
theorem lw_p3 : lw_okq (⟨"SubstitutionMachine$Reducer", "addContracted", "(LSubstitutionMachine$Term;III)V"⟩, 3) := ⟨⟨by decide +kernel, by decide +kernel⟩, List.mem_of_getElem? (i := 55) (by decide +kernel), List.mem_of_getElem? (i := 376) (by decide +kernel), List.mem_of_getElem? (i := 377) (by decide +kernel)⟩
theorem lw_p4 : lw_okq (⟨"SubstitutionMachine$Reducer", "addShifted", "(LSubstitutionMachine$Term;LSubstitutionMachine$Outline;III)V"⟩, 3) := ⟨⟨by decide +kernel, by decide +kernel⟩, List.mem_of_getElem? (i := 55) (by decide +kernel), List.mem_of_getElem? (i := 387) (by decide +kernel), List.mem_of_getElem? (i := 388) (by decide +kernel)⟩
theorem lw_p5 : lw_okq (⟨"SubstitutionMachine$Reducer", "takeResult", "(LSubstitutionMachine$Term;)Z"⟩, 3) := ⟨⟨by decide +kernel, by decide +kernel⟩, List.mem_of_getElem? (i := 55) (by decide +kernel), List.mem_of_getElem? (i := 391) (by decide +kernel), List.mem_of_getElem? (i := 392) (by decide +kernel)⟩
theorem lw_p6 : lw_okq (⟨"SubstitutionMachine", "actWithCopy", "()I"⟩, 12) := ⟨⟨by decide +kernel, by decide +kernel⟩, List.mem_of_getElem? (i := 14) (by decide +kernel), List.mem_of_getElem? (i := 396) (by decide +kernel), List.mem_of_getElem? (i := 397) (by decide +kernel)⟩
theorem lw_p7 : lw_okq (⟨"SubstitutionMachine", "slotTerm", "(I)LSubstitutionMachine$Term;"⟩, 12) := ⟨⟨by decide +kernel, by decide +kernel⟩, List.mem_of_getElem? (i := 14) (by decide +kernel), List.mem_of_getElem? (i := 432) (by decide +kernel), List.mem_of_getElem? (i := 433) (by decide +kernel)⟩
theorem lw_p8 : lw_okq (⟨"SubstitutionMachine", "performOnCopy", "(II)I"⟩, 12) := ⟨⟨by decide +kernel, by decide +kernel⟩, List.mem_of_getElem? (i := 14) (by decide +kernel), List.mem_of_getElem? (i := 467) (by decide +kernel), List.mem_of_getElem? (i := 468) (by decide +kernel)⟩
theorem lw_p9 : lw_okq (⟨"SubstitutionMachine", "normaliseInto", "(LSubstitutionMachine$Term;LSubstitutionMachine$Term;)Z"⟩, 12) := ⟨⟨by decide +kernel, by decide +kernel⟩, List.mem_of_getElem? (i := 14) (by decide +kernel), List.mem_of_getElem? (i := 479) (by decide +kernel), List.mem_of_getElem? (i := 480) (by decide +kernel)⟩
theorem lw_p10 : lw_okq (⟨"SubstitutionMachine$Machine", "start", "(LSubstitutionMachine$Term;)V"⟩, 4) := ⟨⟨by decide +kernel, by decide +kernel⟩, List.mem_of_getElem? (i := 75) (by decide +kernel), List.mem_of_getElem? (i := 504) (by decide +kernel), List.mem_of_getElem? (i := 505) (by decide +kernel)⟩
theorem lw_p11 : lw_okq (⟨"SubstitutionMachine$Extended", "put", "(III)V"⟩, 5) := ⟨⟨by decide +kernel, by decide +kernel⟩, List.mem_of_getElem? (i := 81) (by decide +kernel), List.mem_of_getElem? (i := 518) (by decide +kernel), List.mem_of_getElem? (i := 519) (by decide +kernel)⟩
theorem lw_p12 : lw_okq (⟨"SubstitutionMachine$Machine", "firstPlace", "(Z)I"⟩, 4) := ⟨⟨by decide +kernel, by decide +kernel⟩, List.mem_of_getElem? (i := 75) (by decide +kernel), List.mem_of_getElem? (i := 526) (by decide +kernel), List.mem_of_getElem? (i := 527) (by decide +kernel)⟩
theorem lw_p13 : lw_okq (⟨"SubstitutionMachine$Machine", "ruleAt", "(IZ)I"⟩, 4) := ⟨⟨by decide +kernel, by decide +kernel⟩, List.mem_of_getElem? (i := 75) (by decide +kernel), List.mem_of_getElem? (i := 530) (by decide +kernel), List.mem_of_getElem? (i := 531) (by decide +kernel)⟩
theorem lw_p14 : lw_okq (⟨"SubstitutionMachine$Machine", "rewrite", "(II)V"⟩, 4) := ⟨⟨by decide +kernel, by decide +kernel⟩, List.mem_of_getElem? (i := 75) (by decide +kernel), List.mem_of_getElem? (i := 538) (by decide +kernel), List.mem_of_getElem? (i := 539) (by decide +kernel)⟩
theorem lw_p15 : lw_okq (⟨"SubstitutionMachine$Machine", "writeBeta", "(I)V"⟩, 4) := ⟨⟨by decide +kernel, by decide +kernel⟩, List.mem_of_getElem? (i := 75) (by decide +kernel), List.mem_of_getElem? (i := 547) (by decide +kernel), List.mem_of_getElem? (i := 548) (by decide +kernel)⟩
def lw_privs_1 : List (MethodName × Nat) := [(⟨"SubstitutionMachine$Outline", "measureEnds", "(LSubstitutionMachine$Term;)V"⟩, 3), (⟨"SubstitutionMachine$Outline", "measureDepths", "(LSubstitutionMachine$Term;)V"⟩, 3), (⟨"SubstitutionMachine$Outline", "setDepth", "(II)V"⟩, 3), (⟨"SubstitutionMachine$Reducer", "addContracted", "(LSubstitutionMachine$Term;III)V"⟩, 3), (⟨"SubstitutionMachine$Reducer", "addShifted", "(LSubstitutionMachine$Term;LSubstitutionMachine$Outline;III)V"⟩, 3), (⟨"SubstitutionMachine$Reducer", "takeResult", "(LSubstitutionMachine$Term;)Z"⟩, 3), (⟨"SubstitutionMachine", "actWithCopy", "()I"⟩, 12), (⟨"SubstitutionMachine", "slotTerm", "(I)LSubstitutionMachine$Term;"⟩, 12), (⟨"SubstitutionMachine", "performOnCopy", "(II)I"⟩, 12), (⟨"SubstitutionMachine", "normaliseInto", "(LSubstitutionMachine$Term;LSubstitutionMachine$Term;)Z"⟩, 12), (⟨"SubstitutionMachine$Machine", "start", "(LSubstitutionMachine$Term;)V"⟩, 4), (⟨"SubstitutionMachine$Extended", "put", "(III)V"⟩, 5), (⟨"SubstitutionMachine$Machine", "firstPlace", "(Z)I"⟩, 4), (⟨"SubstitutionMachine$Machine", "ruleAt", "(IZ)I"⟩, 4), (⟨"SubstitutionMachine$Machine", "rewrite", "(II)V"⟩, 4), (⟨"SubstitutionMachine$Machine", "writeBeta", "(I)V"⟩, 4)]
theorem lw_r1 : ∀ q ∈ lw_privs_1, lw_okq q := List.forall_mem_cons.mpr ⟨lw_p0, List.forall_mem_cons.mpr ⟨lw_p1, List.forall_mem_cons.mpr ⟨lw_p2, List.forall_mem_cons.mpr ⟨lw_p3, List.forall_mem_cons.mpr ⟨lw_p4, List.forall_mem_cons.mpr ⟨lw_p5, List.forall_mem_cons.mpr ⟨lw_p6, List.forall_mem_cons.mpr ⟨lw_p7, List.forall_mem_cons.mpr ⟨lw_p8, List.forall_mem_cons.mpr ⟨lw_p9, List.forall_mem_cons.mpr ⟨lw_p10, List.forall_mem_cons.mpr ⟨lw_p11, List.forall_mem_cons.mpr ⟨lw_p12, List.forall_mem_cons.mpr ⟨lw_p13, List.forall_mem_cons.mpr ⟨lw_p14, List.forall_mem_cons.mpr ⟨lw_p15, fun _ h => absurd h List.not_mem_nil⟩⟩⟩⟩⟩⟩⟩⟩⟩⟩⟩⟩⟩⟩⟩⟩
theorem lw_p16 : lw_okq (⟨"SubstitutionMachine$Machine", "writeApply", "(I)V"⟩, 4) := ⟨⟨by decide +kernel, by decide +kernel⟩, List.mem_of_getElem? (i := 75) (by decide +kernel), List.mem_of_getElem? (i := 565) (by decide +kernel), List.mem_of_getElem? (i := 566) (by decide +kernel)⟩
theorem lw_p17 : lw_okq (⟨"SubstitutionMachine$Machine", "writeAbstract", "(I)V"⟩, 4) := ⟨⟨by decide +kernel, by decide +kernel⟩, List.mem_of_getElem? (i := 75) (by decide +kernel), List.mem_of_getElem? (i := 574) (by decide +kernel), List.mem_of_getElem? (i := 575) (by decide +kernel)⟩
theorem lw_p18 : lw_okq (⟨"SubstitutionMachine$Machine", "writeLookup", "(I)V"⟩, 4) := ⟨⟨by decide +kernel, by decide +kernel⟩, List.mem_of_getElem? (i := 75) (by decide +kernel), List.mem_of_getElem? (i := 582) (by decide +kernel), List.mem_of_getElem? (i := 583) (by decide +kernel)⟩
theorem lw_p19 : lw_okq (⟨"SubstitutionMachine$Machine", "writeMerge", "(I)V"⟩, 4) := ⟨⟨by decide +kernel, by decide +kernel⟩, List.mem_of_getElem? (i := 75) (by decide +kernel), List.mem_of_getElem? (i := 586) (by decide +kernel), List.mem_of_getElem? (i := 587) (by decide +kernel)⟩
theorem lw_p20 : lw_okq (⟨"SubstitutionMachine", "commandSucceeds", "(I)Z"⟩, 12) := ⟨⟨by decide +kernel, by decide +kernel⟩, List.mem_of_getElem? (i := 14) (by decide +kernel), List.mem_of_getElem? (i := 614) (by decide +kernel), List.mem_of_getElem? (i := 615) (by decide +kernel)⟩
theorem lw_p21 : lw_okq (⟨"SubstitutionMachine$Observations", "dropOldest", "()V"⟩, 3) := ⟨⟨by decide +kernel, by decide +kernel⟩, List.mem_of_getElem? (i := 150) (by decide +kernel), List.mem_of_getElem? (i := 626) (by decide +kernel), List.mem_of_getElem? (i := 627) (by decide +kernel)⟩
theorem lw_p22 : lw_okq (⟨"SubstitutionMachine", "observationsHold", "(I)Z"⟩, 12) := ⟨⟨by decide +kernel, by decide +kernel⟩, List.mem_of_getElem? (i := 14) (by decide +kernel), List.mem_of_getElem? (i := 646) (by decide +kernel), List.mem_of_getElem? (i := 647) (by decide +kernel)⟩
theorem lw_p23 : lw_okq (⟨"SubstitutionMachine", "randomStepOnCopy", "()V"⟩, 12) := ⟨⟨by decide +kernel, by decide +kernel⟩, List.mem_of_getElem? (i := 14) (by decide +kernel), List.mem_of_getElem? (i := 668) (by decide +kernel), List.mem_of_getElem? (i := 669) (by decide +kernel)⟩
theorem lw_p24 : lw_okq (⟨"SubstitutionMachineModel", "layDepths", "([III)V"⟩, 23) := ⟨⟨by decide +kernel, by decide +kernel⟩, List.mem_of_getElem? (i := 685) (by decide +kernel), List.mem_of_getElem? (i := 804) (by decide +kernel), List.mem_of_getElem? (i := 805) (by decide +kernel)⟩
theorem lw_p25 : lw_okq (⟨"SubstitutionMachineModel", "contract", "([II)Z"⟩, 23) := ⟨⟨by decide +kernel, by decide +kernel⟩, List.mem_of_getElem? (i := 685) (by decide +kernel), List.mem_of_getElem? (i := 843) (by decide +kernel), List.mem_of_getElem? (i := 844) (by decide +kernel)⟩
theorem lw_p26 : lw_okq (⟨"SubstitutionMachineModel", "put", "(I)Z"⟩, 23) := ⟨⟨by decide +kernel, by decide +kernel⟩, List.mem_of_getElem? (i := 685) (by decide +kernel), List.mem_of_getElem? (i := 847) (by decide +kernel), List.mem_of_getElem? (i := 848) (by decide +kernel)⟩
theorem lw_p27 : lw_okq (⟨"SubstitutionMachineModel", "putShifted", "([IIII)Z"⟩, 23) := ⟨⟨by decide +kernel, by decide +kernel⟩, List.mem_of_getElem? (i := 685) (by decide +kernel), List.mem_of_getElem? (i := 851) (by decide +kernel), List.mem_of_getElem? (i := 852) (by decide +kernel)⟩
theorem lw_p28 : lw_okq (⟨"SubstitutionMachineModel", "commit", "()I"⟩, 23) := ⟨⟨by decide +kernel, by decide +kernel⟩, List.mem_of_getElem? (i := 685) (by decide +kernel), List.mem_of_getElem? (i := 855) (by decide +kernel), List.mem_of_getElem? (i := 856) (by decide +kernel)⟩
theorem lw_p29 : lw_okq (⟨"SubstitutionMachineModel", "remember", "()V"⟩, 23) := ⟨⟨by decide +kernel, by decide +kernel⟩, List.mem_of_getElem? (i := 685) (by decide +kernel), List.mem_of_getElem? (i := 859) (by decide +kernel), List.mem_of_getElem? (i := 860) (by decide +kernel)⟩
theorem lw_p30 : lw_okq (⟨"SubstitutionMachineModel", "runOn", "([III)I"⟩, 23) := ⟨⟨by decide +kernel, by decide +kernel⟩, List.mem_of_getElem? (i := 685) (by decide +kernel), List.mem_of_getElem? (i := 871) (by decide +kernel), List.mem_of_getElem? (i := 872) (by decide +kernel)⟩
theorem lw_p31 : lw_okq (⟨"SubstitutionMachineModel", "putBehind", "(I[I)Z"⟩, 23) := ⟨⟨by decide +kernel, by decide +kernel⟩, List.mem_of_getElem? (i := 685) (by decide +kernel), List.mem_of_getElem? (i := 879) (by decide +kernel), List.mem_of_getElem? (i := 880) (by decide +kernel)⟩
def lw_privs_2 : List (MethodName × Nat) := [(⟨"SubstitutionMachine$Machine", "writeApply", "(I)V"⟩, 4), (⟨"SubstitutionMachine$Machine", "writeAbstract", "(I)V"⟩, 4), (⟨"SubstitutionMachine$Machine", "writeLookup", "(I)V"⟩, 4), (⟨"SubstitutionMachine$Machine", "writeMerge", "(I)V"⟩, 4), (⟨"SubstitutionMachine", "commandSucceeds", "(I)Z"⟩, 12), (⟨"SubstitutionMachine$Observations", "dropOldest", "()V"⟩, 3), (⟨"SubstitutionMachine", "observationsHold", "(I)Z"⟩, 12), (⟨"SubstitutionMachine", "randomStepOnCopy", "()V"⟩, 12), (⟨"SubstitutionMachineModel", "layDepths", "([III)V"⟩, 23), (⟨"SubstitutionMachineModel", "contract", "([II)Z"⟩, 23), (⟨"SubstitutionMachineModel", "put", "(I)Z"⟩, 23), (⟨"SubstitutionMachineModel", "putShifted", "([IIII)Z"⟩, 23), (⟨"SubstitutionMachineModel", "commit", "()I"⟩, 23), (⟨"SubstitutionMachineModel", "remember", "()V"⟩, 23), (⟨"SubstitutionMachineModel", "runOn", "([III)I"⟩, 23), (⟨"SubstitutionMachineModel", "putBehind", "(I[I)Z"⟩, 23)]
theorem lw_r2 : ∀ q ∈ lw_privs_2, lw_okq q := List.forall_mem_cons.mpr ⟨lw_p16, List.forall_mem_cons.mpr ⟨lw_p17, List.forall_mem_cons.mpr ⟨lw_p18, List.forall_mem_cons.mpr ⟨lw_p19, List.forall_mem_cons.mpr ⟨lw_p20, List.forall_mem_cons.mpr ⟨lw_p21, List.forall_mem_cons.mpr ⟨lw_p22, List.forall_mem_cons.mpr ⟨lw_p23, List.forall_mem_cons.mpr ⟨lw_p24, List.forall_mem_cons.mpr ⟨lw_p25, List.forall_mem_cons.mpr ⟨lw_p26, List.forall_mem_cons.mpr ⟨lw_p27, List.forall_mem_cons.mpr ⟨lw_p28, List.forall_mem_cons.mpr ⟨lw_p29, List.forall_mem_cons.mpr ⟨lw_p30, List.forall_mem_cons.mpr ⟨lw_p31, fun _ h => absurd h List.not_mem_nil⟩⟩⟩⟩⟩⟩⟩⟩⟩⟩⟩⟩⟩⟩⟩⟩
theorem lw_p32 : lw_okq (⟨"SubstitutionMachineModel", "takeSlot", "(I[I)V"⟩, 23) := ⟨⟨by decide +kernel, by decide +kernel⟩, List.mem_of_getElem? (i := 685) (by decide +kernel), List.mem_of_getElem? (i := 887) (by decide +kernel), List.mem_of_getElem? (i := 888) (by decide +kernel)⟩
theorem lw_p33 : lw_okq (⟨"SubstitutionMachineModel", "normalize", "([I)Z"⟩, 23) := ⟨⟨by decide +kernel, by decide +kernel⟩, List.mem_of_getElem? (i := 685) (by decide +kernel), List.mem_of_getElem? (i := 913) (by decide +kernel), List.mem_of_getElem? (i := 914) (by decide +kernel)⟩
theorem lw_p34 : lw_okq (⟨"SubstitutionMachineModel", "machine", "(Z)Z"⟩, 23) := ⟨⟨by decide +kernel, by decide +kernel⟩, List.mem_of_getElem? (i := 685) (by decide +kernel), List.mem_of_getElem? (i := 930) (by decide +kernel), List.mem_of_getElem? (i := 931) (by decide +kernel)⟩
theorem lw_p35 : lw_okq (⟨"SubstitutionMachineModel", "ruleAt", "(IZ)I"⟩, 23) := ⟨⟨by decide +kernel, by decide +kernel⟩, List.mem_of_getElem? (i := 685) (by decide +kernel), List.mem_of_getElem? (i := 934) (by decide +kernel), List.mem_of_getElem? (i := 935) (by decide +kernel)⟩
theorem lw_p36 : lw_okq (⟨"SubstitutionMachineModel", "apply", "(II)V"⟩, 23) := ⟨⟨by decide +kernel, by decide +kernel⟩, List.mem_of_getElem? (i := 685) (by decide +kernel), List.mem_of_getElem? (i := 938) (by decide +kernel), List.mem_of_getElem? (i := 939) (by decide +kernel)⟩
theorem lw_p37 : lw_okq (⟨"SubstitutionMachineModel", "addPart", "(II)V"⟩, 23) := ⟨⟨by decide +kernel, by decide +kernel⟩, List.mem_of_getElem? (i := 685) (by decide +kernel), List.mem_of_getElem? (i := 942) (by decide +kernel), List.mem_of_getElem? (i := 943) (by decide +kernel)⟩
theorem lw_p38 : lw_okq (⟨"SubstitutionMachineModel", "add", "(I)V"⟩, 23) := ⟨⟨by decide +kernel, by decide +kernel⟩, List.mem_of_getElem? (i := 685) (by decide +kernel), List.mem_of_getElem? (i := 946) (by decide +kernel), List.mem_of_getElem? (i := 947) (by decide +kernel)⟩
theorem lw_p39 : lw_okq (⟨"SubstitutionMachineModel", "merge", "(IIII)V"⟩, 23) := ⟨⟨by decide +kernel, by decide +kernel⟩, List.mem_of_getElem? (i := 685) (by decide +kernel), List.mem_of_getElem? (i := 952) (by decide +kernel), List.mem_of_getElem? (i := 953) (by decide +kernel)⟩
theorem lw_p40 : lw_okq (⟨"SubstitutionMachineModel", "command", "(III)Z"⟩, 23) := ⟨⟨by decide +kernel, by decide +kernel⟩, List.mem_of_getElem? (i := 685) (by decide +kernel), List.mem_of_getElem? (i := 968) (by decide +kernel), List.mem_of_getElem? (i := 969) (by decide +kernel)⟩
def lw_privs_3 : List (MethodName × Nat) := [(⟨"SubstitutionMachineModel", "takeSlot", "(I[I)V"⟩, 23), (⟨"SubstitutionMachineModel", "normalize", "([I)Z"⟩, 23), (⟨"SubstitutionMachineModel", "machine", "(Z)Z"⟩, 23), (⟨"SubstitutionMachineModel", "ruleAt", "(IZ)I"⟩, 23), (⟨"SubstitutionMachineModel", "apply", "(II)V"⟩, 23), (⟨"SubstitutionMachineModel", "addPart", "(II)V"⟩, 23), (⟨"SubstitutionMachineModel", "add", "(I)V"⟩, 23), (⟨"SubstitutionMachineModel", "merge", "(IIII)V"⟩, 23), (⟨"SubstitutionMachineModel", "command", "(III)Z"⟩, 23)]
theorem lw_r3 : ∀ q ∈ lw_privs_3, lw_okq q := List.forall_mem_cons.mpr ⟨lw_p32, List.forall_mem_cons.mpr ⟨lw_p33, List.forall_mem_cons.mpr ⟨lw_p34, List.forall_mem_cons.mpr ⟨lw_p35, List.forall_mem_cons.mpr ⟨lw_p36, List.forall_mem_cons.mpr ⟨lw_p37, List.forall_mem_cons.mpr ⟨lw_p38, List.forall_mem_cons.mpr ⟨lw_p39, List.forall_mem_cons.mpr ⟨lw_p40, fun _ h => absurd h List.not_mem_nil⟩⟩⟩⟩⟩⟩⟩⟩⟩
def lw_privs : List (MethodName × Nat) := lw_privs_1 ++ (lw_privs_2 ++ (lw_privs_3))
def lw_tbl : List Cond := k2_sels lw_privs ++ tables_1
theorem lw_privs_ok : ∀ q ∈ lw_privs, lw_okq q := by
  show ∀ q ∈ lw_privs_1 ++ (lw_privs_2 ++ (lw_privs_3)), lw_okq q
  exact List.forall_mem_append.mpr ⟨lw_r1, List.forall_mem_append.mpr ⟨lw_r2, lw_r3⟩⟩
-- ===== end of PART A; then your names; then what follows =====
end
section
/-! ===== BEGIN words of one list among another's, by their places ===== -/
theorem goodIn_r {big : List Cond} (ws : List Cond) (ps : List Nat) (hp : ws = ps.filterMap (fun i => big[i]?)) (h : ws.all goodWord = true) : GoodIn big ws := by
  intro w hw
  have h1 := List.all_eq_true.mp h w hw
  rw [hp] at hw
  obtain ⟨i, -, hi⟩ := List.mem_filterMap.mp hw
  have hm : w ∈ big := by first | exact List.mem_of_getElem? hi | exact List.getElem?_mem hi
  exact ⟨hm, good_of_word h1⟩
theorem goodIn_app {big a b : List Cond} (ha : GoodIn big a) (hb : GoodIn big b) : GoodIn big (a ++ b) := fun w h => (List.mem_append.mp h).elim (ha w) (hb w)
theorem goodIn_ca {big a b : List Cond} {c : Cond} (ha : GoodIn big (c :: a)) (hb : GoodIn big b) : GoodIn big (c :: (a ++ b)) := fun w h => (List.mem_cons.mp h).elim (fun e => ha w (List.mem_cons.mpr (Or.inl e))) (fun h => (List.mem_append.mp h).elim (fun h => ha w (List.mem_cons.mpr (Or.inr h))) (hb w))
theorem goodIn_sub {big ws : List Cond} (hm : ∀ w ∈ ws, w ∈ big) (h : ws.all goodWord = true) : GoodIn big ws := fun w hw => ⟨hm w hw, good_of_word (List.all_eq_true.mp h w hw)⟩
/-! ===== END ===== -/

/-! ===== BEGIN new T[n][m]: the outer array a place, the inner ones among the pooled ===== -/
/-- f, but v at every address of l -/
def vr_up {α : Type} (f : Nat → α) (l : List Nat) (v : α) : Nat → α := fun a => if a ∈ l then v else f a
theorem vr_up_in {α : Type} {f : Nat → α} {l : List Nat} {v : α} {a : Nat} (h : a ∈ l) : vr_up f l v a = v := if_pos h
theorem vr_up_ne {α : Type} {f : Nat → α} {l : List Nat} {v : α} {a : Nat} (h : a ∉ l) : vr_up f l v a = f a := if_neg h
theorem vr_rows {L l : List Nat} {f : Nat → va_E} {e : va_E} (h : ∀ a, a ∈ l → a ∉ L) : va_pl L f ++ l.map (fun a => (a, e)) = va_pl (L ++ l) (vr_up f l e) := by
  unfold va_pl
  rw [List.map_append]
  congr 1
  · apply List.map_congr_left
    intro a ha
    rw [vr_up_ne (fun q => h a q ha)]
  · apply List.map_congr_left
    intro a ha
    rw [vr_up_in ha]
theorem vr_lay {X rows : va_W} {x : Nat × va_E} {pl : va_W} {D : va_G} {cl : List vw_C} {H : Heap} (hP : va_P D cl (((X ++ pl) ++ [x]) ++ rows) H) : va_P D cl ((X ++ [x]) ++ (pl ++ rows)) H := by
  rw [List.append_assoc (X ++ pl)] at hP
  have h := va_P.swap hP
  rw [← List.append_assoc X] at h
  have h2 := va_P.swap h
  rw [List.append_assoc (X ++ [x])] at h2
  exact h2
theorem vr_layD {X rows : va_W} {x : Nat × va_E} {pl : va_W} {A : Nat → Prop} (hD : va_D A (((X ++ pl) ++ [x]) ++ rows)) : va_D A ((X ++ [x]) ++ (pl ++ rows)) := by
  rw [List.append_assoc (X ++ pl)] at hD
  have h := va_D.swap hD
  rw [← List.append_assoc X] at h
  have h2 := va_D.swap h
  rw [List.append_assoc (X ++ [x])] at h2
  exact h2
theorem vr_outer (c : ClassId) (N h0 : Nat) : ∀ i : Nat, Jvm.Free.Multi.outerC c N h0 i = arrV c N (fun j => va_rf (if j < i then some (h0 + 1 + j) else none))
  | 0 => by
    show ({ cls := c, slots := Array.replicate N .null, vm := .none } : Cell) = _
    rw [arrV_new]
    refine congrArg (arrV c N) (funext fun j => ?_)
    simp [va_rf]
  | i + 1 => by
    show (Jvm.Free.Multi.outerC c N h0 i).setSlot i (.ref (h0 + 1 + i)) = _
    rw [vr_outer c N h0 i, arrV_store]
    refine congrArg (arrV c N) (funext fun j => ?_)
    by_cases e : j = i
    · subst e
      simp [updV, va_rf]
    · by_cases h : j < i
      · simp [updV, e, h, Nat.lt_succ_of_lt h]
      · simp [updV, e, h, show ¬ j < i + 1 by omega]
def va_AOA (ty : FieldType) (U : State) : Prop := (Cond.arrayOver (.array ty)).before #[] U = true
theorem va_AOA.use {ty : FieldType} {A : Array Value} {U : State} (h : va_AOA ty U) : (Cond.arrayOver (.array ty)).before A U = true := h
section VGM
variable {p : Program} {l : Launch} {e : Env} {R : Room} {s : State} {m : MethodId} {args : Array Value} {below : List Frame} {meth : Method} {c : Code} {H : Heap} {locs : List Loc} {cells slots : Nat} {Q : State → Prop}
variable {cc : ByteArray} {pc : Nat} {ls : Array Slot} {rest : List Value} {D : va_G} {cl : List vw_C} {A : Nat → Prop} {a : Nat} {tys : List (ClassId × FieldType)} {ws : va_W} {H0 : Heap}
theorem va_mna {X : va_W} {L : List Nat} {f : Nat → va_E} {cc : ByteArray} (hexec : p.tables.exec = Jvm.exec) (hb : c.code = cc) {own : String} {index : Nat} {ty : FieldType} {cy : ClassId} (hown : s.vm.findClass own = some m.cls) (hclink : (Cond.classLink own index ("[" ++ (FieldType.array ty).toString)).before args s = true) (hover : va_AOA ty s) (harr : (Cond.arrayClass ty).before args s = true) (hcy : s.vm.findClass (FieldType.array ty).toString = some cy)
    (hK : va_K D cl tys s) (hP : va_P D cl (X ++ va_pl L f) H) (hD : va_D A (X ++ va_pl L f)) (hS : va_S A H0 H locs) (hA : ∀ q, H0.size ≤ q → A q) {n k : Int32} {N' K' : Nat} {z : vp_A} (hn : ¬ n < 0) (hk : ¬ k < 0) (hN : n.toNatClampNeg = N') (hM : k.toNatClampNeg = K')
    (hb1 : N' * 4 ≤ 536870912) (hb2 : K' * componentBytes ty ≤ 536870912) (hb3 : K' ≤ 536870912) (hdf : fits ty (defaultValue ty) = true) (hdd : (defaultValue ty).isDefault = true) (hcells : cells + (1 + N') ≤ R.cells) (hslots : slots + (N' + N' * K') ≤ R.slots) (hz : ∀ c : ClassId, Jvm.Free.Multi.innerC c K' (defaultValue ty) = vp_cell c z) (hdg : decode cc pc = .ok (.multianewarray index 2, 4))
    (kk : ∀ (q : Nat) (r : Nat → Nat) (cA : ClassId) (H1 : Heap), (∀ i j : Nat, i < N' → j < N' → r i = r j → i = j) → (∀ i : Nat, i < N' → r i ∉ L) → va_K D cl (tys ++ [(cA, .array ty)]) s →
      va_P D cl ((X ++ [(q, .inl (cA, N', .inr (.inr (.inr (.inr (fun i => if i < N' then some (r i) else none))))))]) ++ va_pl (L ++ (List.range N').map r) (vr_up f ((List.range N').map r) (.inl (cy, z)))) H1 → va_D A ((X ++ [(q, .inl (cA, N', .inr (.inr (.inr (.inr (fun i => if i < N' then some (r i) else none))))))]) ++ va_pl (L ++ (List.range N').map r) (vr_up f ((List.range N').map r) (.inl (cy, z)))) → va_S A H0 H1 locs →
      W p l e R s m args below meth c H1 locs (cells + 1 + N') (slots + N' + N' * K') Q (F0 m (pc + 4) ls (.ref q :: rest))) : W p l e R s m args below meth c H locs cells slots Q (F0 m pc ls (.int k :: .int n :: rest)) := by
  subst hN
  subst hM
  intro T hT Xs
  obtain ⟨vm₁, cA, comp, -, fA, fC, hO, -, X', step⟩ := Xs.multianewarray2F hexec hown hclink (va_AOA.use hover) harr (g := F0 m pc ls (.int k :: .int n :: rest)) rfl (by rw [hb]; exact hdg) rfl hn hk hb1 hb2 hb3 hdf hdd hcells hslots
  have ec : some cy = some comp := hcy.symm.trans fC
  cases ec
  generalize hF : Jvm.Free.Multi.fill (T.setVm vm₁) cA cy n.toNatClampNeg k.toNatClampNeg (defaultValue ty) n.toNatClampNeg = F at X' step
  have hTh : (T.setVm vm₁).heap = H := hT
  obtain ⟨f1, f2, -, -⟩ := Jvm.Free.Multi.fill_facts (T.setVm vm₁) cA cy n.toNatClampNeg k.toNatClampNeg (defaultValue ty) n.toNatClampNeg
  rw [hF, hTh] at f1 f2
  have hold : ∀ x : Nat, x < H.size → F.heap[x]? = H[x]? := fun x hx => by
    have := Jvm.Free.Multi.fill_old (T.setVm vm₁) cA cy n.toNatClampNeg k.toNatClampNeg (defaultValue ty) (a := x) (by rw [hTh]; exact hx) n.toNatClampNeg
    rw [hF, hTh] at this
    exact this
  have hrow : ∀ j : Nat, j < n.toNatClampNeg → F.heap[H.size + 1 + j]? = some (vp_cell cy z) := fun j hj => by
    have := Jvm.Free.Multi.fill_inner (T.setVm vm₁) cA cy n.toNatClampNeg k.toNatClampNeg (defaultValue ty) n.toNatClampNeg j hj
    rw [hF, hTh, hz] at this
    exact this
  have hout : Jvm.Free.Multi.outerC cA n.toNatClampNeg H.size n.toNatClampNeg = vp_cell cA (n.toNatClampNeg, .inr (.inr (.inr (.inr (fun i => if i < n.toNatClampNeg then some (H.size + 1 + i) else none))))) := by
    rw [vp_cell_q]
    exact vr_outer cA n.toNatClampNeg H.size n.toNatClampNeg
  rw [hout] at f2
  have hlt : ∀ a, a ∈ L → a < H.size := fun a ha => by
    obtain ⟨k9, hk9⟩ := va_pl_get (X := X) (f := f) ha
    exact (hP k9 _ hk9).lt
  have hnl : ∀ i : Nat, i < n.toNatClampNeg → H.size + 1 + i ∉ L := fun i _ h => by
    have := hlt _ h
    omega
  have hnm : ∀ a, a ∈ (List.range n.toNatClampNeg).map (fun i => H.size + 1 + i) → a ∉ L := fun a ha h => by
    obtain ⟨i, -, rfl⟩ := List.mem_map.mp ha
    have := hlt _ h
    omega
  have hP0 : va_P D cl (X ++ va_pl L f) F.heap := hP.kept (fun k9 x hx => hold x.1 ((hP k9 x hx).lt))
  have hP1 : va_P D cl ((X ++ va_pl L f) ++ [(H.size, .inl (cA, n.toNatClampNeg, .inr (.inr (.inr (.inr (fun i => if i < n.toNatClampNeg then some (H.size + 1 + i) else none))))))]) F.heap := hP0.app (fun k9 x hx => by
    have h0 : k9 < 1 := (List.getElem?_eq_some_iff.mp hx).1
    rw [show k9 = 0 by omega] at hx
    cases hx
    exact f2)
  have hP2 : va_P D cl (((X ++ va_pl L f) ++ [(H.size, .inl (cA, n.toNatClampNeg, .inr (.inr (.inr (.inr (fun i => if i < n.toNatClampNeg then some (H.size + 1 + i) else none))))))]) ++ ((List.range n.toNatClampNeg).map (fun i => H.size + 1 + i)).map (fun a => (a, .inl (cy, z)))) F.heap := hP1.app (fun k9 x hx => by
    obtain ⟨a, ha, rfl⟩ := List.mem_map.mp (List.mem_of_getElem? hx)
    obtain ⟨i, hi, rfl⟩ := List.mem_map.mp ha
    exact hrow i (List.mem_range.mp hi))
  have hD2 : va_D A (((X ++ va_pl L f) ++ [(H.size, .inl (cA, n.toNatClampNeg, .inr (.inr (.inr (.inr (fun i => if i < n.toNatClampNeg then some (H.size + 1 + i) else none))))))]) ++ ((List.range n.toNatClampNeg).map (fun i => H.size + 1 + i)).map (fun a => (a, .inl (cy, z)))) := by
    have hD1 := hD.push (e := .inl (cA, n.toNatClampNeg, .inr (.inr (.inr (.inr (fun i => if i < n.toNatClampNeg then some (H.size + 1 + i) else none)))))) hP rfl (hA _ hS.1)
    generalize hW1 : (X ++ va_pl L f) ++ [(H.size, .inl (cA, n.toNatClampNeg, .inr (.inr (.inr (.inr (fun i => if i < n.toNatClampNeg then some (H.size + 1 + i) else none))))))] = W1 at hD1 hP1 ⊢
    have hle : ∀ (k9 : Nat) (x : Nat × va_E), W1[k9]? = some x → x.1 ≤ H.size := fun k9 x hx => by
      rw [← hW1] at hx
      by_cases hl : k9 < (X ++ va_pl L f).length
      · rw [List.getElem?_append_left hl] at hx
        exact Nat.le_of_lt ((hP k9 x hx).lt)
      · rw [List.getElem?_append_right (by omega)] at hx
        have h0 : k9 - (X ++ va_pl L f).length < 1 := (List.getElem?_eq_some_iff.mp hx).1
        rw [show k9 - (X ++ va_pl L f).length = 0 by omega] at hx
        cases hx
        exact Nat.le_refl _
    have hr : ∀ (k9 : Nat) (x : Nat × va_E), (((List.range n.toNatClampNeg).map (fun i => H.size + 1 + i)).map (fun a => ((a, .inl (cy, z)) : Nat × va_E)))[k9]? = some x → x.1 = H.size + 1 + k9 := fun k9 x hx => by
      rw [List.getElem?_map, List.getElem?_map] at hx
      by_cases h9 : k9 < n.toNatClampNeg
      · rw [List.getElem?_range h9] at hx
        cases hx
        rfl
      · have hn0 : (List.range n.toNatClampNeg)[k9]? = none := List.getElem?_eq_none (by rw [List.length_range]; omega)
        rw [hn0] at hx
        cases hx
    refine ⟨fun i j x y hi hj hxy => ?_, fun k9 x hx => ?_⟩
    · by_cases h1 : i < W1.length <;> by_cases h2 : j < W1.length
      · rw [List.getElem?_append_left h1] at hi
        rw [List.getElem?_append_left h2] at hj
        exact hD1.1 i j x y hi hj hxy
      · rw [List.getElem?_append_left h1] at hi
        rw [List.getElem?_append_right (by omega)] at hj
        have := hle _ _ hi
        have := hr _ _ hj
        omega
      · rw [List.getElem?_append_right (by omega)] at hi
        rw [List.getElem?_append_left h2] at hj
        have := hle _ _ hj
        have := hr _ _ hi
        omega
      · rw [List.getElem?_append_right (by omega)] at hi hj
        have := hr _ _ hi
        have := hr _ _ hj
        omega
    · by_cases h1 : k9 < W1.length
      · rw [List.getElem?_append_left h1] at hx
        exact hD1.2 k9 x hx
      · rw [List.getElem?_append_right (by omega)] at hx
        have := hr _ _ hx
        exact hA _ (by have := hS.1; omega)
  have hAr : ArrOfT s cA (.array ty) := fun N9 z9 => by
    obtain ⟨-, k9, hk9, cm9, hkk9⟩ := (hO 0 0 0).1
    exact ⟨(fun q hq => by cases hq), k9, hk9, cm9, hkk9⟩
  have hK2 : va_K D cl (tys ++ [(cA, .array ty)]) s := ⟨hK.1, fun k9 x hx => by
    by_cases hl : k9 < tys.length
    · rw [List.getElem?_append_left hl] at hx
      exact hK.2 k9 x hx
    · rw [List.getElem?_append_right (by omega)] at hx
      have h0 : k9 - tys.length < 1 := (List.getElem?_eq_some_iff.mp hx).1
      rw [show k9 - tys.length = 0 by omega] at hx
      cases hx
      exact ⟨hAr, fA⟩⟩
  obtain ⟨t, a1, b1⟩ := kk H.size (fun i => H.size + 1 + i) cA F.heap (fun i j _ _ h => by have h9 : H.size + 1 + i = H.size + 1 + j := h; omega) hnl hK2 (by rw [← vr_rows hnm]; exact vr_lay hP2) (by rw [← vr_rows hnm]; exact vr_layD hD2) ⟨by rw [f1]; have := hS.1; omega, fun x h1 h2 => (hold x (Nat.lt_of_lt_of_le h1 hS.1)).trans (hS.2.1 x h1 h2), hS.2.2⟩ F rfl X'
  refine ⟨t, step t ?_, b1⟩
  have e : T.heap.size = H.size := by rw [hT]
  rw [e]
  exact a1
end VGM
/-! ===== END ===== -/

/-! ===== BEGIN printed: names, fields, word lists, decode rows ===== -/
def RX0 : String := "SubstitutionMachine$Extended"
def TX0 : u_T := fun k => match k with
  | 0 => ("SubstitutionMachine$Extended", "tokens", "[I", true)
  | 1 => ("SubstitutionMachine$Extended", "entries", "[I", true)
  | 2 => ("SubstitutionMachine$Extended", "shifts", "[I", true)
  | 3 => ("SubstitutionMachine$Extended", "length", "I", false)
  | _ => ("SubstitutionMachine$Extended", "tooLarge", "Z", false)
def tyX0 : Nat → FieldType := fun k => match k with
  | 0 => .array .int
  | 1 => .array .int
  | 2 => .array .int
  | 3 => .int
  | _ => .boolean
abbrev wsX00 : List Cond := u_ws RX0 TX0 5
theorem nmX0 : ∀ a, a < 5 → ∀ b, b < 5 → a ≠ b → (TX0 a).2.1 ≠ (TX0 b).2.1 := by decide +kernel
theorem tyX0_ok : ∀ k, k < 5 → parseFieldDescriptor (TX0 k).2.2.1 = some (tyX0 k) := by decide +kernel
abbrev cX0_init : ByteArray := prog_2_method_1_code
def yX0_init : MethodName := ⟨RX0, "<init>", "()V"⟩
abbrev cX0_length : ByteArray := prog_2_method_2_code
def yX0_length : MethodName := ⟨RX0, "length", "()I"⟩
abbrev cX0_isTooLarge : ByteArray := prog_2_method_3_code
def yX0_isTooLarge : MethodName := ⟨RX0, "isTooLarge", "()Z"⟩
abbrev cX0_token : ByteArray := prog_2_method_4_code
def yX0_token : MethodName := ⟨RX0, "token", "(I)I"⟩
abbrev cX0_entriesAt : ByteArray := prog_2_method_5_code
def yX0_entriesAt : MethodName := ⟨RX0, "entriesAt", "(I)I"⟩
abbrev cX0_shiftAt : ByteArray := prog_2_method_6_code
def yX0_shiftAt : MethodName := ⟨RX0, "shiftAt", "(I)I"⟩
abbrev cX0_clear : ByteArray := prog_2_method_7_code
def yX0_clear : MethodName := ⟨RX0, "clear", "()V"⟩
abbrev cX0_add : ByteArray := prog_2_method_8_code
def yX0_add : MethodName := ⟨RX0, "add", "(I)V"⟩
abbrev cX0_addClosure : ByteArray := prog_2_method_9_code
def yX0_addClosure : MethodName := ⟨RX0, "addClosure", "(II)V"⟩
abbrev cX0_put : ByteArray := prog_2_method_10_code
def yX0_put : MethodName := ⟨RX0, "put", "(III)V"⟩
abbrev cX0_addRange : ByteArray := prog_2_method_11_code
def yX0_addRange : MethodName := ⟨RX0, "addRange", "(LSubstitutionMachine$Extended;II)V"⟩
abbrev cX0_behind : ByteArray := prog_2_method_12_code
def yX0_behind : MethodName := ⟨RX0, "behind", "(II)I"⟩
def RX1 : String := "SubstitutionMachine$History"
def TX1 : u_T := fun k => match k with
  | 0 => ("SubstitutionMachine$History", "rows", "[[I", true)
  | 1 => ("SubstitutionMachine$History", "lengths", "[I", true)
  | 2 => ("SubstitutionMachine$History", "count", "I", false)
  | _ => ("SubstitutionMachine$History", "place", "I", false)
def tyX1 : Nat → FieldType := fun k => match k with
  | 0 => .array (.array .int)
  | 1 => .array .int
  | 2 => .int
  | _ => .int
abbrev wsX10 : List Cond := u_ws RX1 TX1 4
theorem nmX1 : ∀ a, a < 4 → ∀ b, b < 4 → a ≠ b → (TX1 a).2.1 ≠ (TX1 b).2.1 := by decide +kernel
theorem tyX1_ok : ∀ k, k < 4 → parseFieldDescriptor (TX1 k).2.2.1 = some (tyX1 k) := by decide +kernel
abbrev cX1_init : ByteArray := prog_3_method_1_code
def yX1_init : MethodName := ⟨RX1, "<init>", "()V"⟩
abbrev cX1_count : ByteArray := prog_3_method_2_code
def yX1_count : MethodName := ⟨RX1, "count", "()I"⟩
abbrev cX1_forgetAll : ByteArray := prog_3_method_3_code
def yX1_forgetAll : MethodName := ⟨RX1, "forgetAll", "()V"⟩
abbrev cX1_remember : ByteArray := prog_3_method_4_code
def yX1_remember : MethodName := ⟨RX1, "remember", "(LSubstitutionMachine$Term;)V"⟩
abbrev cX1_takeBack : ByteArray := prog_3_method_5_code
def yX1_takeBack : MethodName := ⟨RX1, "takeBack", "(LSubstitutionMachine$Term;)Z"⟩
def RX2 : String := "SubstitutionMachine$Machine"
def TX2 : u_T := fun k => match k with
  | 0 => ("SubstitutionMachine$Machine", "present", "LSubstitutionMachine$Extended;", false)
  | 1 => ("SubstitutionMachine$Machine", "next", "LSubstitutionMachine$Extended;", false)
  | 2 => ("SubstitutionMachine$Machine", "applied", "[I", true)
  | _ => ("SubstitutionMachine$Machine", "peak", "I", false)
def tyX2 : Nat → FieldType := fun k => match k with
  | 0 => .object "SubstitutionMachine$Extended"
  | 1 => .object "SubstitutionMachine$Extended"
  | 2 => .array .int
  | _ => .int
abbrev wsX20 : List Cond := u_ws RX2 TX2 4
theorem nmX2 : ∀ a, a < 4 → ∀ b, b < 4 → a ≠ b → (TX2 a).2.1 ≠ (TX2 b).2.1 := by decide +kernel
theorem tyX2_ok : ∀ k, k < 4 → parseFieldDescriptor (TX2 k).2.2.1 = some (tyX2 k) := by decide +kernel
abbrev cX2_init : ByteArray := prog_4_method_1_code
def yX2_init : MethodName := ⟨RX2, "<init>", "()V"⟩
abbrev cX2_peak : ByteArray := prog_4_method_2_code
def yX2_peak : MethodName := ⟨RX2, "peak", "()I"⟩
abbrev cX2_applications : ByteArray := prog_4_method_3_code
def yX2_applications : MethodName := ⟨RX2, "applications", "(I)I"⟩
abbrev cX2_work : ByteArray := prog_4_method_4_code
def yX2_work : MethodName := ⟨RX2, "work", "(LSubstitutionMachine$Term;Z)Z"⟩
abbrev cX2_start : ByteArray := prog_4_method_5_code
def yX2_start : MethodName := ⟨RX2, "start", "(LSubstitutionMachine$Term;)V"⟩
abbrev cX2_firstPlace : ByteArray := prog_4_method_6_code
def yX2_firstPlace : MethodName := ⟨RX2, "firstPlace", "(Z)I"⟩
abbrev cX2_ruleAt : ByteArray := prog_4_method_7_code
def yX2_ruleAt : MethodName := ⟨RX2, "ruleAt", "(IZ)I"⟩
abbrev cX2_rewrite : ByteArray := prog_4_method_8_code
def yX2_rewrite : MethodName := ⟨RX2, "rewrite", "(II)V"⟩
abbrev cX2_writeBeta : ByteArray := prog_4_method_9_code
def yX2_writeBeta : MethodName := ⟨RX2, "writeBeta", "(I)V"⟩
abbrev cX2_writeApply : ByteArray := prog_4_method_10_code
def yX2_writeApply : MethodName := ⟨RX2, "writeApply", "(I)V"⟩
abbrev cX2_writeAbstract : ByteArray := prog_4_method_11_code
def yX2_writeAbstract : MethodName := ⟨RX2, "writeAbstract", "(I)V"⟩
abbrev cX2_writeLookup : ByteArray := prog_4_method_12_code
def yX2_writeLookup : MethodName := ⟨RX2, "writeLookup", "(I)V"⟩
abbrev cX2_writeMerge : ByteArray := prog_4_method_13_code
def yX2_writeMerge : MethodName := ⟨RX2, "writeMerge", "(I)V"⟩
def RX3 : String := "SubstitutionMachine$Observations"
def TX3 : u_T := fun k => match k with
  | 0 => ("SubstitutionMachine$Observations", "limits", "[I", true)
  | 1 => ("SubstitutionMachine$Observations", "values", "[I", true)
  | _ => ("SubstitutionMachine$Observations", "count", "I", false)
def tyX3 : Nat → FieldType := fun k => match k with
  | 0 => .array .int
  | 1 => .array .int
  | _ => .int
abbrev wsX30 : List Cond := u_ws RX3 TX3 3
theorem nmX3 : ∀ a, a < 3 → ∀ b, b < 3 → a ≠ b → (TX3 a).2.1 ≠ (TX3 b).2.1 := by decide +kernel
theorem tyX3_ok : ∀ k, k < 3 → parseFieldDescriptor (TX3 k).2.2.1 = some (tyX3 k) := by decide +kernel
abbrev cX3_init : ByteArray := prog_5_method_1_code
def yX3_init : MethodName := ⟨RX3, "<init>", "()V"⟩
abbrev cX3_count : ByteArray := prog_5_method_2_code
def yX3_count : MethodName := ⟨RX3, "count", "()I"⟩
abbrev cX3_add : ByteArray := prog_5_method_3_code
def yX3_add : MethodName := ⟨RX3, "add", "(II)V"⟩
abbrev cX3_dropOldest : ByteArray := prog_5_method_4_code
def yX3_dropOldest : MethodName := ⟨RX3, "dropOldest", "()V"⟩
abbrev cX3_keepUpTo : ByteArray := prog_5_method_5_code
def yX3_keepUpTo : MethodName := ⟨RX3, "keepUpTo", "(I)V"⟩
abbrev cX3_greatestLimit : ByteArray := prog_5_method_6_code
def yX3_greatestLimit : MethodName := ⟨RX3, "greatestLimit", "()I"⟩
abbrev cX3_allow : ByteArray := prog_5_method_7_code
def yX3_allow : MethodName := ⟨RX3, "allow", "(II)Z"⟩
def RX4 : String := "SubstitutionMachine$Outline"
def TX4 : u_T := fun k => match k with
  | 0 => ("SubstitutionMachine$Outline", "ends", "[I", true)
  | 1 => ("SubstitutionMachine$Outline", "depths", "[I", true)
  | _ => ("SubstitutionMachine$Outline", "length", "I", false)
def tyX4 : Nat → FieldType := fun k => match k with
  | 0 => .array .int
  | 1 => .array .int
  | _ => .int
abbrev wsX40 : List Cond := u_ws RX4 TX4 3
theorem nmX4 : ∀ a, a < 3 → ∀ b, b < 3 → a ≠ b → (TX4 a).2.1 ≠ (TX4 b).2.1 := by decide +kernel
theorem tyX4_ok : ∀ k, k < 3 → parseFieldDescriptor (TX4 k).2.2.1 = some (tyX4 k) := by decide +kernel
abbrev cX4_init : ByteArray := prog_6_method_1_code
def yX4_init : MethodName := ⟨RX4, "<init>", "()V"⟩
abbrev cX4_measure : ByteArray := prog_6_method_2_code
def yX4_measure : MethodName := ⟨RX4, "measure", "(LSubstitutionMachine$Term;)V"⟩
abbrev cX4_endAt : ByteArray := prog_6_method_3_code
def yX4_endAt : MethodName := ⟨RX4, "endAt", "(I)I"⟩
abbrev cX4_depthAt : ByteArray := prog_6_method_4_code
def yX4_depthAt : MethodName := ⟨RX4, "depthAt", "(I)I"⟩
abbrev cX4_measureEnds : ByteArray := prog_6_method_5_code
def yX4_measureEnds : MethodName := ⟨RX4, "measureEnds", "(LSubstitutionMachine$Term;)V"⟩
abbrev cX4_measureDepths : ByteArray := prog_6_method_6_code
def yX4_measureDepths : MethodName := ⟨RX4, "measureDepths", "(LSubstitutionMachine$Term;)V"⟩
abbrev cX4_setDepth : ByteArray := prog_6_method_7_code
def yX4_setDepth : MethodName := ⟨RX4, "setDepth", "(II)V"⟩
def RX5 : String := "SubstitutionMachine$Reducer"
def TX5 : u_T := fun k => match k with
  | 0 => ("SubstitutionMachine$Reducer", "outline", "LSubstitutionMachine$Outline;", true)
  | 1 => ("SubstitutionMachine$Reducer", "insertedOutline", "LSubstitutionMachine$Outline;", true)
  | _ => ("SubstitutionMachine$Reducer", "result", "LSubstitutionMachine$Term;", true)
def tyX5 : Nat → FieldType := fun k => match k with
  | 0 => .object "SubstitutionMachine$Outline"
  | 1 => .object "SubstitutionMachine$Outline"
  | _ => .object "SubstitutionMachine$Term"
abbrev wsX50 : List Cond := u_ws RX5 TX5 3
theorem nmX5 : ∀ a, a < 3 → ∀ b, b < 3 → a ≠ b → (TX5 a).2.1 ≠ (TX5 b).2.1 := by decide +kernel
theorem tyX5_ok : ∀ k, k < 3 → parseFieldDescriptor (TX5 k).2.2.1 = some (tyX5 k) := by decide +kernel
abbrev cX5_init : ByteArray := prog_7_method_1_code
def yX5_init : MethodName := ⟨RX5, "<init>", "()V"⟩
abbrev cX5_isRedex : ByteArray := prog_7_method_2_code
def yX5_isRedex : MethodName := ⟨RX5, "isRedex", "(LSubstitutionMachine$Term;I)Z"⟩
abbrev cX5_countRedexes : ByteArray := prog_7_method_3_code
def yX5_countRedexes : MethodName := ⟨RX5, "countRedexes", "(LSubstitutionMachine$Term;)I"⟩
abbrev cX5_nextRedex : ByteArray := prog_7_method_4_code
def yX5_nextRedex : MethodName := ⟨RX5, "nextRedex", "(LSubstitutionMachine$Term;I)I"⟩
abbrev cX5_numberedRedex : ByteArray := prog_7_method_5_code
def yX5_numberedRedex : MethodName := ⟨RX5, "numberedRedex", "(LSubstitutionMachine$Term;I)I"⟩
abbrev cX5_choose : ByteArray := prog_7_method_6_code
def yX5_choose : MethodName := ⟨RX5, "choose", "(LSubstitutionMachine$Term;I)I"⟩
abbrev cX5_leftmostInnermost : ByteArray := prog_7_method_7_code
def yX5_leftmostInnermost : MethodName := ⟨RX5, "leftmostInnermost", "(LSubstitutionMachine$Term;)I"⟩
abbrev cX5_lastRedex : ByteArray := prog_7_method_8_code
def yX5_lastRedex : MethodName := ⟨RX5, "lastRedex", "(LSubstitutionMachine$Term;)I"⟩
abbrev cX5_weakHead : ByteArray := prog_7_method_9_code
def yX5_weakHead : MethodName := ⟨RX5, "weakHead", "(LSubstitutionMachine$Term;)I"⟩
abbrev cX5_perform : ByteArray := prog_7_method_10_code
def yX5_perform : MethodName := ⟨RX5, "perform", "(LSubstitutionMachine$Term;II)I"⟩
abbrev cX5_contract : ByteArray := prog_7_method_11_code
def yX5_contract : MethodName := ⟨RX5, "contract", "(LSubstitutionMachine$Term;I)Z"⟩
abbrev cX5_addContracted : ByteArray := prog_7_method_12_code
def yX5_addContracted : MethodName := ⟨RX5, "addContracted", "(LSubstitutionMachine$Term;III)V"⟩
abbrev cX5_replaceFree : ByteArray := prog_7_method_13_code
def yX5_replaceFree : MethodName := ⟨RX5, "replaceFree", "(LSubstitutionMachine$Term;ILSubstitutionMachine$Term;)Z"⟩
abbrev cX5_addShifted : ByteArray := prog_7_method_14_code
def yX5_addShifted : MethodName := ⟨RX5, "addShifted", "(LSubstitutionMachine$Term;LSubstitutionMachine$Outline;III)V"⟩
abbrev cX5_takeResult : ByteArray := prog_7_method_15_code
def yX5_takeResult : MethodName := ⟨RX5, "takeResult", "(LSubstitutionMachine$Term;)Z"⟩
def RX6 : String := "SubstitutionMachine$Term"
def TX6 : u_T := fun k => match k with
  | 0 => ("SubstitutionMachine$Term", "tokens", "[I", true)
  | 1 => ("SubstitutionMachine$Term", "length", "I", false)
  | _ => ("SubstitutionMachine$Term", "tooLarge", "Z", false)
def tyX6 : Nat → FieldType := fun k => match k with
  | 0 => .array .int
  | 1 => .int
  | _ => .boolean
abbrev wsX60 : List Cond := u_ws RX6 TX6 3
theorem nmX6 : ∀ a, a < 3 → ∀ b, b < 3 → a ≠ b → (TX6 a).2.1 ≠ (TX6 b).2.1 := by decide +kernel
theorem tyX6_ok : ∀ k, k < 3 → parseFieldDescriptor (TX6 k).2.2.1 = some (tyX6 k) := by decide +kernel
abbrev cX6_init : ByteArray := prog_8_method_1_code
def yX6_init : MethodName := ⟨RX6, "<init>", "()V"⟩
abbrev cX6_length : ByteArray := prog_8_method_2_code
def yX6_length : MethodName := ⟨RX6, "length", "()I"⟩
abbrev cX6_isTooLarge : ByteArray := prog_8_method_3_code
def yX6_isTooLarge : MethodName := ⟨RX6, "isTooLarge", "()Z"⟩
abbrev cX6_has : ByteArray := prog_8_method_4_code
def yX6_has : MethodName := ⟨RX6, "has", "(I)Z"⟩
abbrev cX6_token : ByteArray := prog_8_method_5_code
def yX6_token : MethodName := ⟨RX6, "token", "(I)I"⟩
abbrev cX6_clear : ByteArray := prog_8_method_6_code
def yX6_clear : MethodName := ⟨RX6, "clear", "()V"⟩
abbrev cX6_add : ByteArray := prog_8_method_7_code
def yX6_add : MethodName := ⟨RX6, "add", "(I)V"⟩
abbrev cX6_addRange : ByteArray := prog_8_method_8_code
def yX6_addRange : MethodName := ⟨RX6, "addRange", "(LSubstitutionMachine$Term;II)V"⟩
abbrev cX6_copyFrom : ByteArray := prog_8_method_9_code
def yX6_copyFrom : MethodName := ⟨RX6, "copyFrom", "(LSubstitutionMachine$Term;)V"⟩
abbrev cX6_wrapInAbstraction : ByteArray := prog_8_method_10_code
def yX6_wrapInAbstraction : MethodName := ⟨RX6, "wrapInAbstraction", "()Z"⟩
abbrev cX6_hasSameTokens : ByteArray := prog_8_method_11_code
def yX6_hasSameTokens : MethodName := ⟨RX6, "hasSameTokens", "(LSubstitutionMachine$Term;)Z"⟩
def RX7 : String := "SubstitutionMachine$TermText"
def TX7 : u_T := fun k => match k with
  | 0 => ("SubstitutionMachine$TermText", "codes", "[I", true)
  | _ => ("SubstitutionMachine$TermText", "length", "I", false)
def tyX7 : Nat → FieldType := fun k => match k with
  | 0 => .array .int
  | _ => .int
abbrev wsX70 : List Cond := u_ws RX7 TX7 2
theorem nmX7 : ∀ a, a < 2 → ∀ b, b < 2 → a ≠ b → (TX7 a).2.1 ≠ (TX7 b).2.1 := by decide +kernel
theorem tyX7_ok : ∀ k, k < 2 → parseFieldDescriptor (TX7 k).2.2.1 = some (tyX7 k) := by decide +kernel
abbrev cX7_init : ByteArray := prog_9_method_1_code
def yX7_init : MethodName := ⟨RX7, "<init>", "()V"⟩
abbrev cX7_length : ByteArray := prog_9_method_2_code
def yX7_length : MethodName := ⟨RX7, "length", "()I"⟩
abbrev cX7_put : ByteArray := prog_9_method_3_code
def yX7_put : MethodName := ⟨RX7, "put", "(I)Z"⟩
abbrev cX7_clear : ByteArray := prog_9_method_4_code
def yX7_clear : MethodName := ⟨RX7, "clear", "()V"⟩
abbrev cX7_firstError : ByteArray := prog_9_method_5_code
def yX7_firstError : MethodName := ⟨RX7, "firstError", "()I"⟩
abbrev cX7_writeTo : ByteArray := prog_9_method_6_code
def yX7_writeTo : MethodName := ⟨RX7, "writeTo", "(LSubstitutionMachine$Term;)V"⟩
abbrev cX7_tokenOf : ByteArray := prog_9_method_7_code
def yX7_tokenOf : MethodName := ⟨RX7, "tokenOf", "(I)I"⟩
def RX8 : String := "SubstitutionMachine"
def TX8 : u_T := fun k => match k with
  | 0 => ("SubstitutionMachine", "term", "LSubstitutionMachine$Term;", true)
  | 1 => ("SubstitutionMachine", "copy", "LSubstitutionMachine$Term;", true)
  | 2 => ("SubstitutionMachine", "trial", "LSubstitutionMachine$Term;", true)
  | 3 => ("SubstitutionMachine", "firstSlot", "LSubstitutionMachine$Term;", true)
  | 4 => ("SubstitutionMachine", "secondSlot", "LSubstitutionMachine$Term;", true)
  | 5 => ("SubstitutionMachine", "outline", "LSubstitutionMachine$Outline;", true)
  | 6 => ("SubstitutionMachine", "reducer", "LSubstitutionMachine$Reducer;", true)
  | 7 => ("SubstitutionMachine", "machine", "LSubstitutionMachine$Machine;", true)
  | 8 => ("SubstitutionMachine", "history", "LSubstitutionMachine$History;", true)
  | 9 => ("SubstitutionMachine", "text", "LSubstitutionMachine$TermText;", true)
  | 10 => ("SubstitutionMachine", "observations", "LSubstitutionMachine$Observations;", true)
  | _ => ("SubstitutionMachine", "randomSeed", "J", false)
def tyX8 : Nat → FieldType := fun k => match k with
  | 0 => .object "SubstitutionMachine$Term"
  | 1 => .object "SubstitutionMachine$Term"
  | 2 => .object "SubstitutionMachine$Term"
  | 3 => .object "SubstitutionMachine$Term"
  | 4 => .object "SubstitutionMachine$Term"
  | 5 => .object "SubstitutionMachine$Outline"
  | 6 => .object "SubstitutionMachine$Reducer"
  | 7 => .object "SubstitutionMachine$Machine"
  | 8 => .object "SubstitutionMachine$History"
  | 9 => .object "SubstitutionMachine$TermText"
  | 10 => .object "SubstitutionMachine$Observations"
  | _ => .long
abbrev wsX80 : List Cond := u_ws RX8 TX8 12
theorem nmX8 : ∀ a, a < 12 → ∀ b, b < 12 → a ≠ b → (TX8 a).2.1 ≠ (TX8 b).2.1 := by decide +kernel
theorem tyX8_ok : ∀ k, k < 12 → parseFieldDescriptor (TX8 k).2.2.1 = some (tyX8 k) := by decide +kernel
abbrev cX8_init : ByteArray := prog_1_method_1_code
def yX8_init : MethodName := ⟨RX8, "<init>", "()V"⟩
abbrev cX8_append : ByteArray := prog_1_method_2_code
def yX8_append : MethodName := ⟨RX8, "append", "(I)I"⟩
abbrev cX8_clearText : ByteArray := prog_1_method_3_code
def yX8_clearText : MethodName := ⟨RX8, "clearText", "()I"⟩
abbrev cX8_errorPosition : ByteArray := prog_1_method_4_code
def yX8_errorPosition : MethodName := ⟨RX8, "errorPosition", "()I"⟩
abbrev cX8_load : ByteArray := prog_1_method_5_code
def yX8_load : MethodName := ⟨RX8, "load", "()I"⟩
abbrev cX8_size : ByteArray := prog_1_method_6_code
def yX8_size : MethodName := ⟨RX8, "size", "()I"⟩
abbrev cX8_tokenAt : ByteArray := prog_1_method_7_code
def yX8_tokenAt : MethodName := ⟨RX8, "tokenAt", "(I)I"⟩
abbrev cX8_nameAt : ByteArray := prog_1_method_8_code
def yX8_nameAt : MethodName := ⟨RX8, "nameAt", "(I)I"⟩
abbrev cX8_redexCount : ByteArray := prog_1_method_9_code
def yX8_redexCount : MethodName := ⟨RX8, "redexCount", "()I"⟩
abbrev cX8_chosenRedex : ByteArray := prog_1_method_10_code
def yX8_chosenRedex : MethodName := ⟨RX8, "chosenRedex", "(I)I"⟩
abbrev cX8_freeVariables : ByteArray := prog_1_method_11_code
def yX8_freeVariables : MethodName := ⟨RX8, "freeVariables", "()I"⟩
abbrev cX8_step : ByteArray := prog_1_method_12_code
def yX8_step : MethodName := ⟨RX8, "step", "(I)I"⟩
abbrev cX8_run : ByteArray := prog_1_method_13_code
def yX8_run : MethodName := ⟨RX8, "run", "(II)I"⟩
abbrev cX8_abstractTerm : ByteArray := prog_1_method_14_code
def yX8_abstractTerm : MethodName := ⟨RX8, "abstractTerm", "()I"⟩
abbrev cX8_applyTo : ByteArray := prog_1_method_15_code
def yX8_applyTo : MethodName := ⟨RX8, "applyTo", "(I)I"⟩
abbrev cX8_substitute : ByteArray := prog_1_method_16_code
def yX8_substitute : MethodName := ⟨RX8, "substitute", "(II)I"⟩
abbrev cX8_undo : ByteArray := prog_1_method_17_code
def yX8_undo : MethodName := ⟨RX8, "undo", "()I"⟩
abbrev cX8_stepsOfRun : ByteArray := prog_1_method_18_code
def yX8_stepsOfRun : MethodName := ⟨RX8, "stepsOfRun", "(II)I"⟩
abbrev cX8_sizeAfterRun : ByteArray := prog_1_method_19_code
def yX8_sizeAfterRun : MethodName := ⟨RX8, "sizeAfterRun", "(II)I"⟩
abbrev cX8_normalSize : ByteArray := prog_1_method_20_code
def yX8_normalSize : MethodName := ⟨RX8, "normalSize", "()I"⟩
abbrev cX8_normalTokenAt : ByteArray := prog_1_method_21_code
def yX8_normalTokenAt : MethodName := ⟨RX8, "normalTokenAt", "(I)I"⟩
abbrev cX8_isEquivalent : ByteArray := prog_1_method_22_code
def yX8_isEquivalent : MethodName := ⟨RX8, "isEquivalent", "(I)I"⟩
abbrev cX8_machineSteps : ByteArray := prog_1_method_23_code
def yX8_machineSteps : MethodName := ⟨RX8, "machineSteps", "(II)I"⟩
abbrev cX8_machinePeak : ByteArray := prog_1_method_24_code
def yX8_machinePeak : MethodName := ⟨RX8, "machinePeak", "(I)I"⟩
abbrev cX8_runScript : ByteArray := prog_1_method_25_code
def yX8_runScript : MethodName := ⟨RX8, "runScript", "(IJ)I"⟩
abbrev cX8_observe : ByteArray := prog_1_method_26_code
def yX8_observe : MethodName := ⟨RX8, "observe", "(II)I"⟩
abbrev cX8_forgetAfter : ByteArray := prog_1_method_27_code
def yX8_forgetAfter : MethodName := ⟨RX8, "forgetAfter", "(I)I"⟩
abbrev cX8_possibleStrategies : ByteArray := prog_1_method_28_code
def yX8_possibleStrategies : MethodName := ⟨RX8, "possibleStrategies", "()I"⟩
abbrev cX8_setSeed : ByteArray := prog_1_method_29_code
def yX8_setSeed : MethodName := ⟨RX8, "setSeed", "(J)J"⟩
abbrev cX8_randomReduction : ByteArray := prog_1_method_30_code
def yX8_randomReduction : MethodName := ⟨RX8, "randomReduction", "(I)I"⟩
abbrev cX8_save : ByteArray := prog_1_method_31_code
def yX8_save : MethodName := ⟨RX8, "save", "(I)I"⟩
abbrev cX8_restore : ByteArray := prog_1_method_32_code
def yX8_restore : MethodName := ⟨RX8, "restore", "(I)I"⟩
abbrev cX8_isVariable : ByteArray := prog_1_method_33_code
def yX8_isVariable : MethodName := ⟨RX8, "isVariable", "(I)Z"⟩
abbrev cX8_parts : ByteArray := prog_1_method_34_code
def yX8_parts : MethodName := ⟨RX8, "parts", "(I)I"⟩
abbrev cX8_isStrategy : ByteArray := prog_1_method_35_code
def yX8_isStrategy : MethodName := ⟨RX8, "isStrategy", "(I)Z"⟩
abbrev cX8_isSlot : ByteArray := prog_1_method_36_code
def yX8_isSlot : MethodName := ⟨RX8, "isSlot", "(I)Z"⟩
abbrev cX8_isPrediction : ByteArray := prog_1_method_37_code
def yX8_isPrediction : MethodName := ⟨RX8, "isPrediction", "(II)Z"⟩
abbrev cX8_slotTerm : ByteArray := prog_1_method_38_code
def yX8_slotTerm : MethodName := ⟨RX8, "slotTerm", "(I)LSubstitutionMachine$Term;"⟩
abbrev cX8_actWithCopy : ByteArray := prog_1_method_39_code
def yX8_actWithCopy : MethodName := ⟨RX8, "actWithCopy", "()I"⟩
abbrev cX8_performOnCopy : ByteArray := prog_1_method_40_code
def yX8_performOnCopy : MethodName := ⟨RX8, "performOnCopy", "(II)I"⟩
abbrev cX8_normaliseInto : ByteArray := prog_1_method_41_code
def yX8_normaliseInto : MethodName := ⟨RX8, "normaliseInto", "(LSubstitutionMachine$Term;LSubstitutionMachine$Term;)Z"⟩
abbrev cX8_withoutLowGroups : ByteArray := prog_1_method_42_code
def yX8_withoutLowGroups : MethodName := ⟨RX8, "withoutLowGroups", "(JI)J"⟩
abbrev cX8_commandSucceeds : ByteArray := prog_1_method_43_code
def yX8_commandSucceeds : MethodName := ⟨RX8, "commandSucceeds", "(I)Z"⟩
abbrev cX8_observationsHold : ByteArray := prog_1_method_44_code
def yX8_observationsHold : MethodName := ⟨RX8, "observationsHold", "(I)Z"⟩
abbrev cX8_randomStepOnCopy : ByteArray := prog_1_method_45_code
def yX8_randomStepOnCopy : MethodName := ⟨RX8, "randomStepOnCopy", "()V"⟩
def RX9 : String := "SubstitutionMachineModel"
def TX9 : u_T := fun k => match k with
  | 0 => ("SubstitutionMachineModel", "thrown", "I", false)
  | 1 => ("SubstitutionMachineModel", "text", "[I", true)
  | 2 => ("SubstitutionMachineModel", "textSize", "I", false)
  | 3 => ("SubstitutionMachineModel", "term", "[I", true)
  | 4 => ("SubstitutionMachineModel", "work", "[I", true)
  | 5 => ("SubstitutionMachineModel", "other", "[I", true)
  | 6 => ("SubstitutionMachineModel", "out", "[I", true)
  | 7 => ("SubstitutionMachineModel", "history", "[I", true)
  | 8 => ("SubstitutionMachineModel", "remembered", "I", false)
  | 9 => ("SubstitutionMachineModel", "slots", "[I", true)
  | 10 => ("SubstitutionMachineModel", "slotUsed", "[Z", true)
  | 11 => ("SubstitutionMachineModel", "observed", "I", false)
  | 12 => ("SubstitutionMachineModel", "observedLimit", "[I", true)
  | 13 => ("SubstitutionMachineModel", "observedSize", "[I", true)
  | 14 => ("SubstitutionMachineModel", "seed", "J", false)
  | 15 => ("SubstitutionMachineModel", "depths", "[I", true)
  | 16 => ("SubstitutionMachineModel", "open", "[I", true)
  | 17 => ("SubstitutionMachineModel", "binds", "[Z", true)
  | 18 => ("SubstitutionMachineModel", "wide", "[I", true)
  | 19 => ("SubstitutionMachineModel", "next", "[I", true)
  | 20 => ("SubstitutionMachineModel", "tooWide", "Z", false)
  | 21 => ("SubstitutionMachineModel", "applied", "[I", true)
  | _ => ("SubstitutionMachineModel", "peak", "I", false)
def tyX9 : Nat → FieldType := fun k => match k with
  | 0 => .int
  | 1 => .array .int
  | 2 => .int
  | 3 => .array .int
  | 4 => .array .int
  | 5 => .array .int
  | 6 => .array .int
  | 7 => .array .int
  | 8 => .int
  | 9 => .array .int
  | 10 => .array .boolean
  | 11 => .int
  | 12 => .array .int
  | 13 => .array .int
  | 14 => .long
  | 15 => .array .int
  | 16 => .array .int
  | 17 => .array .boolean
  | 18 => .array .int
  | 19 => .array .int
  | 20 => .boolean
  | 21 => .array .int
  | _ => .int
abbrev wsX90 : List Cond := u_ws RX9 TX9 23
theorem nmX9 : ∀ a, a < 23 → ∀ b, b < 23 → a ≠ b → (TX9 a).2.1 ≠ (TX9 b).2.1 := by decide +kernel
theorem tyX9_ok : ∀ k, k < 23 → parseFieldDescriptor (TX9 k).2.2.1 = some (tyX9 k) := by decide +kernel
abbrev cX9_init : ByteArray := prog_11_method_1_code
def yX9_init : MethodName := ⟨RX9, "<init>", "()V"⟩
abbrev cX9_in : ByteArray := prog_11_method_3_code
def yX9_in : MethodName := ⟨RX9, "in", "(JJJ)Z"⟩
abbrev cX9_assign : ByteArray := prog_11_method_4_code
def yX9_assign : MethodName := ⟨RX9, "assign", "([I[I)V"⟩
abbrev cX9_isVariable : ByteArray := prog_11_method_5_code
def yX9_isVariable : MethodName := ⟨RX9, "isVariable", "(I)Z"⟩
abbrev cX9_parts : ByteArray := prog_11_method_6_code
def yX9_parts : MethodName := ⟨RX9, "parts", "(I)I"⟩
abbrev cX9_end : ByteArray := prog_11_method_7_code
def yX9_end : MethodName := ⟨RX9, "end", "([II)I"⟩
abbrev cX9_layDepths : ByteArray := prog_11_method_8_code
def yX9_layDepths : MethodName := ⟨RX9, "layDepths", "([III)V"⟩
abbrev cX9_isRedex : ByteArray := prog_11_method_9_code
def yX9_isRedex : MethodName := ⟨RX9, "isRedex", "([II)Z"⟩
abbrev cX9_redexes : ByteArray := prog_11_method_10_code
def yX9_redexes : MethodName := ⟨RX9, "redexes", "([I)I"⟩
abbrev cX9_isInnermost : ByteArray := prog_11_method_11_code
def yX9_isInnermost : MethodName := ⟨RX9, "isInnermost", "([II)Z"⟩
abbrev cX9_choose : ByteArray := prog_11_method_12_code
def yX9_choose : MethodName := ⟨RX9, "choose", "([II)I"⟩
abbrev cX9_put : ByteArray := prog_11_method_13_code
def yX9_put : MethodName := ⟨RX9, "put", "(I)Z"⟩
abbrev cX9_putShifted : ByteArray := prog_11_method_14_code
def yX9_putShifted : MethodName := ⟨RX9, "putShifted", "([IIII)Z"⟩
abbrev cX9_contract : ByteArray := prog_11_method_15_code
def yX9_contract : MethodName := ⟨RX9, "contract", "([II)Z"⟩
abbrev cX9_runOn : ByteArray := prog_11_method_16_code
def yX9_runOn : MethodName := ⟨RX9, "runOn", "([III)I"⟩
abbrev cX9_normalize : ByteArray := prog_11_method_17_code
def yX9_normalize : MethodName := ⟨RX9, "normalize", "([I)Z"⟩
abbrev cX9_append : ByteArray := prog_11_method_18_code
def yX9_append : MethodName := ⟨RX9, "append", "(I)I"⟩
abbrev cX9_clearText : ByteArray := prog_11_method_19_code
def yX9_clearText : MethodName := ⟨RX9, "clearText", "()I"⟩
abbrev cX9_tokenOf : ByteArray := prog_11_method_20_code
def yX9_tokenOf : MethodName := ⟨RX9, "tokenOf", "(I)I"⟩
abbrev cX9_errorPosition : ByteArray := prog_11_method_21_code
def yX9_errorPosition : MethodName := ⟨RX9, "errorPosition", "()I"⟩
abbrev cX9_load : ByteArray := prog_11_method_22_code
def yX9_load : MethodName := ⟨RX9, "load", "()I"⟩
abbrev cX9_size : ByteArray := prog_11_method_23_code
def yX9_size : MethodName := ⟨RX9, "size", "()I"⟩
abbrev cX9_tokenAt : ByteArray := prog_11_method_24_code
def yX9_tokenAt : MethodName := ⟨RX9, "tokenAt", "(I)I"⟩
abbrev cX9_nameAt : ByteArray := prog_11_method_25_code
def yX9_nameAt : MethodName := ⟨RX9, "nameAt", "(I)I"⟩
abbrev cX9_redexCount : ByteArray := prog_11_method_26_code
def yX9_redexCount : MethodName := ⟨RX9, "redexCount", "()I"⟩
abbrev cX9_chosenRedex : ByteArray := prog_11_method_27_code
def yX9_chosenRedex : MethodName := ⟨RX9, "chosenRedex", "(I)I"⟩
abbrev cX9_freeVariables : ByteArray := prog_11_method_28_code
def yX9_freeVariables : MethodName := ⟨RX9, "freeVariables", "()I"⟩
abbrev cX9_remember : ByteArray := prog_11_method_29_code
def yX9_remember : MethodName := ⟨RX9, "remember", "()V"⟩
abbrev cX9_commit : ByteArray := prog_11_method_30_code
def yX9_commit : MethodName := ⟨RX9, "commit", "()I"⟩
abbrev cX9_step : ByteArray := prog_11_method_31_code
def yX9_step : MethodName := ⟨RX9, "step", "(I)I"⟩
abbrev cX9_run : ByteArray := prog_11_method_32_code
def yX9_run : MethodName := ⟨RX9, "run", "(II)I"⟩
abbrev cX9_putBehind : ByteArray := prog_11_method_33_code
def yX9_putBehind : MethodName := ⟨RX9, "putBehind", "(I[I)Z"⟩
abbrev cX9_abstractTerm : ByteArray := prog_11_method_34_code
def yX9_abstractTerm : MethodName := ⟨RX9, "abstractTerm", "()I"⟩
abbrev cX9_takeSlot : ByteArray := prog_11_method_35_code
def yX9_takeSlot : MethodName := ⟨RX9, "takeSlot", "(I[I)V"⟩
abbrev cX9_applyTo : ByteArray := prog_11_method_36_code
def yX9_applyTo : MethodName := ⟨RX9, "applyTo", "(I)I"⟩
abbrev cX9_substitute : ByteArray := prog_11_method_37_code
def yX9_substitute : MethodName := ⟨RX9, "substitute", "(II)I"⟩
abbrev cX9_undo : ByteArray := prog_11_method_38_code
def yX9_undo : MethodName := ⟨RX9, "undo", "()I"⟩
abbrev cX9_stepsOfRun : ByteArray := prog_11_method_39_code
def yX9_stepsOfRun : MethodName := ⟨RX9, "stepsOfRun", "(II)I"⟩
abbrev cX9_sizeAfterRun : ByteArray := prog_11_method_40_code
def yX9_sizeAfterRun : MethodName := ⟨RX9, "sizeAfterRun", "(II)I"⟩
abbrev cX9_normalSize : ByteArray := prog_11_method_41_code
def yX9_normalSize : MethodName := ⟨RX9, "normalSize", "()I"⟩
abbrev cX9_normalTokenAt : ByteArray := prog_11_method_42_code
def yX9_normalTokenAt : MethodName := ⟨RX9, "normalTokenAt", "(I)I"⟩
abbrev cX9_isEquivalent : ByteArray := prog_11_method_43_code
def yX9_isEquivalent : MethodName := ⟨RX9, "isEquivalent", "(I)I"⟩
abbrev cX9_add : ByteArray := prog_11_method_44_code
def yX9_add : MethodName := ⟨RX9, "add", "(I)V"⟩
abbrev cX9_addPart : ByteArray := prog_11_method_45_code
def yX9_addPart : MethodName := ⟨RX9, "addPart", "(II)V"⟩
abbrev cX9_ruleAt : ByteArray := prog_11_method_46_code
def yX9_ruleAt : MethodName := ⟨RX9, "ruleAt", "(IZ)I"⟩
abbrev cX9_apply : ByteArray := prog_11_method_47_code
def yX9_apply : MethodName := ⟨RX9, "apply", "(II)V"⟩
abbrev cX9_merge : ByteArray := prog_11_method_48_code
def yX9_merge : MethodName := ⟨RX9, "merge", "(IIII)V"⟩
abbrev cX9_machine : ByteArray := prog_11_method_49_code
def yX9_machine : MethodName := ⟨RX9, "machine", "(Z)Z"⟩
abbrev cX9_machineSteps : ByteArray := prog_11_method_50_code
def yX9_machineSteps : MethodName := ⟨RX9, "machineSteps", "(II)I"⟩
abbrev cX9_machinePeak : ByteArray := prog_11_method_51_code
def yX9_machinePeak : MethodName := ⟨RX9, "machinePeak", "(I)I"⟩
abbrev cX9_command : ByteArray := prog_11_method_52_code
def yX9_command : MethodName := ⟨RX9, "command", "(III)Z"⟩
abbrev cX9_thousands : ByteArray := prog_11_method_53_code
def yX9_thousands : MethodName := ⟨RX9, "thousands", "(I)J"⟩
abbrev cX9_runScript : ByteArray := prog_11_method_54_code
def yX9_runScript : MethodName := ⟨RX9, "runScript", "(IJ)I"⟩
abbrev cX9_observe : ByteArray := prog_11_method_55_code
def yX9_observe : MethodName := ⟨RX9, "observe", "(II)I"⟩
abbrev cX9_forgetAfter : ByteArray := prog_11_method_56_code
def yX9_forgetAfter : MethodName := ⟨RX9, "forgetAfter", "(I)I"⟩
abbrev cX9_possibleStrategies : ByteArray := prog_11_method_57_code
def yX9_possibleStrategies : MethodName := ⟨RX9, "possibleStrategies", "()I"⟩
abbrev cX9_setSeed : ByteArray := prog_11_method_58_code
def yX9_setSeed : MethodName := ⟨RX9, "setSeed", "(J)J"⟩
abbrev cX9_redexNumber : ByteArray := prog_11_method_59_code
def yX9_redexNumber : MethodName := ⟨RX9, "redexNumber", "([II)I"⟩
abbrev cX9_randomReduction : ByteArray := prog_11_method_60_code
def yX9_randomReduction : MethodName := ⟨RX9, "randomReduction", "(I)I"⟩
abbrev cX9_save : ByteArray := prog_11_method_61_code
def yX9_save : MethodName := ⟨RX9, "save", "(I)I"⟩
abbrev cX9_restore : ByteArray := prog_11_method_62_code
def yX9_restore : MethodName := ⟨RX9, "restore", "(I)I"⟩
def RJ9 : String := "java/lang/Math"
def TJ9 : u_T := fun k => match k with
  | _ => ("", "", "", false)
def tyJ9 : Nat → FieldType := fun k => match k with
  | _ => .int
abbrev wsJ90 : List Cond := u_ws RJ9 TJ9 0
theorem nmJ9 : ∀ a, a < 0 → ∀ b, b < 0 → a ≠ b → (TJ9 a).2.1 ≠ (TJ9 b).2.1 := by decide +kernel
theorem tyJ9_ok : ∀ k, k < 0 → parseFieldDescriptor (TJ9 k).2.2.1 = some (tyJ9 k) := by decide +kernel
abbrev cJ9_max_7cf53 : ByteArray := prog_12_method_65_code
def yJ9_max_7cf53 : MethodName := ⟨RJ9, "max", "(II)I"⟩
abbrev cJ9_min_7cf53 : ByteArray := prog_12_method_69_code
def yJ9_min_7cf53 : MethodName := ⟨RJ9, "min", "(II)I"⟩
def RJ10 : String := "java/lang/System"
def TJ10 : u_T := fun k => match k with
  | _ => ("", "", "", false)
def tyJ10 : Nat → FieldType := fun k => match k with
  | _ => .int
abbrev wsJ100 : List Cond := u_ws RJ10 TJ10 0
theorem nmJ10 : ∀ a, a < 0 → ∀ b, b < 0 → a ≠ b → (TJ10 a).2.1 ≠ (TJ10 b).2.1 := by decide +kernel
theorem tyJ10_ok : ∀ k, k < 0 → parseFieldDescriptor (TJ10 k).2.2.1 = some (tyJ10 k) := by decide +kernel
def RL : String := "SubstitutionMachineLaw"
abbrev cL_law : ByteArray := code
def yL_law : MethodName := ⟨RL, "law", "([I)Z"⟩
def wsL_law_r1 : List Cond := [Cond.classLink RL 7 RX8, Cond.instantiable RX8 12, Cond.initialized RX8, Cond.classLink RL 10 RX9, Cond.instantiable RX9 23, Cond.initialized RX9, Cond.constantLong RL 108 (4294967295), Cond.methodLink RL 9 yX8_init, Cond.instanceMethod yX8_init, Cond.code yX8_init cX8_init 1 none, Cond.methodLink RX8 1 objectInit, Cond.instanceMethod objectInit, Cond.code objectInit ⟨#[0xb1]⟩ 1 none, Cond.classLink RX8 7 RX6, Cond.instantiable RX6 3, Cond.initialized RX6, Cond.fieldLink RX8 10 "SubstitutionMachine" "term" "LSubstitutionMachine$Term;", Cond.fieldLink RX8 16 "SubstitutionMachine" "copy" "LSubstitutionMachine$Term;", Cond.fieldLink RX8 19 "SubstitutionMachine" "trial" "LSubstitutionMachine$Term;", Cond.fieldLink RX8 22 "SubstitutionMachine" "firstSlot" "LSubstitutionMachine$Term;", Cond.fieldLink RX8 25 "SubstitutionMachine" "secondSlot" "LSubstitutionMachine$Term;", Cond.classLink RX8 28 RX4, Cond.instantiable RX4 3, Cond.initialized RX4]
def wsL_law_r2 : List Cond := [Cond.fieldLink RX8 31 "SubstitutionMachine" "outline" "LSubstitutionMachine$Outline;", Cond.classLink RX8 35 RX5, Cond.instantiable RX5 3, Cond.initialized RX5, Cond.fieldLink RX8 38 "SubstitutionMachine" "reducer" "LSubstitutionMachine$Reducer;", Cond.classLink RX8 42 RX2, Cond.instantiable RX2 4, Cond.initialized RX2, Cond.fieldLink RX8 45 "SubstitutionMachine" "machine" "LSubstitutionMachine$Machine;", Cond.classLink RX8 49 RX1, Cond.instantiable RX1 4, Cond.initialized RX1, Cond.fieldLink RX8 52 "SubstitutionMachine" "history" "LSubstitutionMachine$History;", Cond.classLink RX8 56 RX7, Cond.instantiable RX7 2, Cond.initialized RX7, Cond.fieldLink RX8 59 "SubstitutionMachine" "text" "LSubstitutionMachine$TermText;", Cond.classLink RX8 63 RX3, Cond.instantiable RX3 3, Cond.initialized RX3, Cond.fieldLink RX8 66 "SubstitutionMachine" "observations" "LSubstitutionMachine$Observations;", Cond.fieldLink RX8 70 "SubstitutionMachine" "randomSeed" "J", Cond.instanceMethod yX6_init, Cond.code yX6_init cX6_init 1 none]
def wsL_law_r3 : List Cond := [Cond.methodLink RX6 3 objectInit, Cond.arrayClass .int, Cond.fieldLink RX6 9 "SubstitutionMachine$Term" "tokens" "[I", Cond.fieldLink RX6 15 "SubstitutionMachine$Term" "length" "I", Cond.fieldLink RX6 19 "SubstitutionMachine$Term" "tooLarge" "Z", Cond.instanceMethod yX4_init, Cond.code yX4_init cX4_init 1 none, Cond.methodLink RX4 3 objectInit, Cond.fieldLink RX4 9 "SubstitutionMachine$Outline" "ends" "[I", Cond.fieldLink RX4 15 "SubstitutionMachine$Outline" "depths" "[I", Cond.fieldLink RX4 18 "SubstitutionMachine$Outline" "length" "I", Cond.instanceMethod yX5_init, Cond.code yX5_init cX5_init 1 none, Cond.methodLink RX5 3 objectInit, Cond.classLink RX5 9 RX4, Cond.fieldLink RX5 12 "SubstitutionMachine$Reducer" "outline" "LSubstitutionMachine$Outline;", Cond.fieldLink RX5 18 "SubstitutionMachine$Reducer" "insertedOutline" "LSubstitutionMachine$Outline;", Cond.classLink RX5 21 RX6, Cond.fieldLink RX5 24 "SubstitutionMachine$Reducer" "result" "LSubstitutionMachine$Term;", Cond.instanceMethod yX2_init, Cond.code yX2_init cX2_init 1 none, Cond.methodLink RX2 3 objectInit, Cond.classLink RX2 9 RX0, Cond.instantiable RX0 5]
def wsL_law_r4 : List Cond := [Cond.initialized RX0, Cond.fieldLink RX2 12 "SubstitutionMachine$Machine" "present" "LSubstitutionMachine$Extended;", Cond.fieldLink RX2 18 "SubstitutionMachine$Machine" "next" "LSubstitutionMachine$Extended;", Cond.fieldLink RX2 21 "SubstitutionMachine$Machine" "applied" "[I", Cond.fieldLink RX2 25 "SubstitutionMachine$Machine" "peak" "I", Cond.instanceMethod yX0_init, Cond.code yX0_init cX0_init 1 none, Cond.methodLink RX0 3 objectInit, Cond.fieldLink RX0 9 "SubstitutionMachine$Extended" "tokens" "[I", Cond.fieldLink RX0 15 "SubstitutionMachine$Extended" "entries" "[I", Cond.fieldLink RX0 18 "SubstitutionMachine$Extended" "shifts" "[I", Cond.fieldLink RX0 21 "SubstitutionMachine$Extended" "length" "I", Cond.fieldLink RX0 25 "SubstitutionMachine$Extended" "tooLarge" "Z", Cond.instanceMethod yX1_init, Cond.code yX1_init cX1_init 1 none, Cond.methodLink RX1 3 objectInit, Cond.classLink RX1 9 "[[I", Cond.fieldLink RX1 11 "SubstitutionMachine$History" "rows" "[[I", Cond.fieldLink RX1 16 "SubstitutionMachine$History" "lengths" "[I", Cond.fieldLink RX1 20 "SubstitutionMachine$History" "count" "I", Cond.fieldLink RX1 24 "SubstitutionMachine$History" "place" "I", Cond.instanceMethod yX7_init, Cond.code yX7_init cX7_init 1 none, Cond.methodLink RX7 3 objectInit]
def wsL_law_r5 : List Cond := [Cond.fieldLink RX7 9 "SubstitutionMachine$TermText" "codes" "[I", Cond.fieldLink RX7 15 "SubstitutionMachine$TermText" "length" "I", Cond.instanceMethod yX3_init, Cond.code yX3_init cX3_init 1 none, Cond.methodLink RX3 3 objectInit, Cond.fieldLink RX3 9 "SubstitutionMachine$Observations" "limits" "[I", Cond.fieldLink RX3 15 "SubstitutionMachine$Observations" "values" "[I", Cond.fieldLink RX3 18 "SubstitutionMachine$Observations" "count" "I", Cond.methodLink RX8 74 yX6_add, Cond.instanceMethod yX6_add, Cond.selects RX6 yX6_add yX6_add, Cond.code yX6_add cX6_add 2 none, Cond.methodLink RL 12 yX9_init, Cond.instanceMethod yX9_init, Cond.code yX9_init cX9_init 1 none, Cond.methodLink RX9 1 objectInit, Cond.fieldLink RX9 7 "SubstitutionMachineModel" "text" "[I", Cond.fieldLink RX9 13 "SubstitutionMachineModel" "term" "[I", Cond.fieldLink RX9 16 "SubstitutionMachineModel" "work" "[I", Cond.fieldLink RX9 19 "SubstitutionMachineModel" "other" "[I", Cond.fieldLink RX9 22 "SubstitutionMachineModel" "out" "[I", Cond.fieldLink RX9 25 "SubstitutionMachineModel" "history" "[I", Cond.fieldLink RX9 28 "SubstitutionMachineModel" "slots" "[I", Cond.arrayClass .boolean]
def wsL_law_r6 : List Cond := [Cond.fieldLink RX9 31 "SubstitutionMachineModel" "slotUsed" "[Z", Cond.fieldLink RX9 35 "SubstitutionMachineModel" "observedLimit" "[I", Cond.fieldLink RX9 38 "SubstitutionMachineModel" "observedSize" "[I", Cond.fieldLink RX9 41 "SubstitutionMachineModel" "depths" "[I", Cond.fieldLink RX9 44 "SubstitutionMachineModel" "open" "[I", Cond.fieldLink RX9 47 "SubstitutionMachineModel" "binds" "[Z", Cond.fieldLink RX9 50 "SubstitutionMachineModel" "wide" "[I", Cond.fieldLink RX9 53 "SubstitutionMachineModel" "next" "[I", Cond.fieldLink RX9 56 "SubstitutionMachineModel" "applied" "[I", Cond.methodLink RL 13 yX8_append, Cond.instanceMethod yX8_append, Cond.selects RX8 yX8_append yX8_append, Cond.code yX8_append cX8_append 2 (some .int), Cond.methodLink RX8 78 yX7_put, Cond.instanceMethod yX7_put, Cond.selects RX7 yX7_put yX7_put, Cond.code yX7_put cX7_put 2 (some .boolean), Cond.methodLink RX8 82 yX7_length, Cond.instanceMethod yX7_length, Cond.selects RX7 yX7_length yX7_length, Cond.code yX7_length cX7_length 1 (some .int), Cond.methodLink RL 17 yX9_append, Cond.instanceMethod yX9_append, Cond.selects RX9 yX9_append yX9_append]
def wsL_law_r7 : List Cond := [Cond.code yX9_append cX9_append 2 (some .int), Cond.fieldLink RX9 59 "SubstitutionMachineModel" "thrown" "I", Cond.constantLong RX9 112 (255), Cond.fieldLink RX9 118 "SubstitutionMachineModel" "textSize" "I", Cond.methodLink RX9 114 yX9_in, Cond.static yX9_in, Cond.code yX9_in cX9_in 6 (some .boolean), Cond.methodLink RL 18 yX8_clearText, Cond.instanceMethod yX8_clearText, Cond.selects RX8 yX8_clearText yX8_clearText, Cond.code yX8_clearText cX8_clearText 2 (some .int), Cond.methodLink RX8 86 yX7_clear, Cond.instanceMethod yX7_clear, Cond.selects RX7 yX7_clear yX7_clear, Cond.code yX7_clear cX7_clear 1 none, Cond.methodLink RL 22 yX9_clearText, Cond.instanceMethod yX9_clearText, Cond.selects RX9 yX9_clearText yX9_clearText, Cond.code yX9_clearText cX9_clearText 2 (some .int), Cond.methodLink RL 23 yX8_errorPosition, Cond.instanceMethod yX8_errorPosition, Cond.selects RX8 yX8_errorPosition yX8_errorPosition, Cond.code yX8_errorPosition cX8_errorPosition 1 (some .int), Cond.methodLink RX8 89 yX7_firstError]
def wsL_law_r8 : List Cond := [Cond.instanceMethod yX7_firstError, Cond.selects RX7 yX7_firstError yX7_firstError, Cond.code yX7_firstError cX7_firstError 4 (some .int), Cond.methodLink RX7 19 yX7_tokenOf, Cond.static yX7_tokenOf, Cond.code yX7_tokenOf cX7_tokenOf 1 (some .int), Cond.static yX8_parts, Cond.code yX8_parts cX8_parts 1 (some .int), Cond.methodLink RL 26 yX9_errorPosition, Cond.instanceMethod yX9_errorPosition, Cond.selects RX9 yX9_errorPosition yX9_errorPosition, Cond.code yX9_errorPosition cX9_errorPosition 4 (some .int), Cond.methodLink RX9 125 yX9_tokenOf, Cond.static yX9_tokenOf, Cond.code yX9_tokenOf cX9_tokenOf 1 (some .int), Cond.constantLong RX9 121 (48), Cond.constantLong RX9 123 (57), Cond.methodLink RX9 64 yX9_parts, Cond.static yX9_parts, Cond.code yX9_parts cX9_parts 1 (some .int), Cond.constant RX9 63 (1000000), Cond.methodLink RL 27 yX8_load, Cond.instanceMethod yX8_load, Cond.selects RX8 yX8_load yX8_load]
def wsL_law_r9 : List Cond := [Cond.code yX8_load cX8_load 1 (some .int), Cond.methodLink RX8 92 yX7_writeTo, Cond.instanceMethod yX7_writeTo, Cond.selects RX7 yX7_writeTo yX7_writeTo, Cond.code yX7_writeTo cX7_writeTo 3 none, Cond.methodLink RX7 26 yX6_clear, Cond.instanceMethod yX6_clear, Cond.selects RX6 yX6_clear yX6_clear, Cond.code yX6_clear cX6_clear 1 none, Cond.methodLink RX7 31 yX6_add, Cond.methodLink RX8 96 yX1_forgetAll, Cond.instanceMethod yX1_forgetAll, Cond.selects RX1 yX1_forgetAll yX1_forgetAll, Cond.code yX1_forgetAll cX1_forgetAll 1 none, Cond.methodLink RX8 99 yX6_clear, Cond.methodLink RX8 100 yX6_length, Cond.instanceMethod yX6_length, Cond.selects RX6 yX6_length yX6_length, Cond.code yX6_length cX6_length 1 (some .int), Cond.methodLink RL 30 yX9_load, Cond.instanceMethod yX9_load, Cond.selects RX9 yX9_load yX9_load, Cond.code yX9_load cX9_load 2 (some .int), Cond.fieldLink RX9 132 "SubstitutionMachineModel" "remembered" "I"]
def wsL_law_r10 : List Cond := [Cond.methodLink RX9 128 yX9_errorPosition, Cond.methodLink RL 31 yX8_size, Cond.instanceMethod yX8_size, Cond.selects RX8 yX8_size yX8_size, Cond.code yX8_size cX8_size 1 (some .int), Cond.methodLink RL 34 yX9_size, Cond.instanceMethod yX9_size, Cond.selects RX9 yX9_size yX9_size, Cond.code yX9_size cX9_size 1 (some .int), Cond.methodLink RL 35 yX8_tokenAt, Cond.instanceMethod yX8_tokenAt, Cond.selects RX8 yX8_tokenAt yX8_tokenAt, Cond.code yX8_tokenAt cX8_tokenAt 2 (some .int), Cond.methodLink RX8 101 yX6_has, Cond.instanceMethod yX6_has, Cond.selects RX6 yX6_has yX6_has, Cond.code yX6_has cX6_has 2 (some .boolean), Cond.methodLink RX8 104 yX6_token, Cond.instanceMethod yX6_token, Cond.selects RX6 yX6_token yX6_token, Cond.code yX6_token cX6_token 2 (some .int), Cond.methodLink RL 38 yX9_tokenAt, Cond.instanceMethod yX9_tokenAt, Cond.selects RX9 yX9_tokenAt yX9_tokenAt]
def wsL_law_r11 : List Cond := [Cond.code yX9_tokenAt cX9_tokenAt 2 (some .int), Cond.methodLink RL 39 yX8_nameAt, Cond.instanceMethod yX8_nameAt, Cond.selects RX8 yX8_nameAt yX8_nameAt, Cond.code yX8_nameAt cX8_nameAt 4 (some .int), Cond.methodLink RX8 108 yX4_measure, Cond.instanceMethod yX4_measure, Cond.selects RX4 yX4_measure yX4_measure, Cond.code yX4_measure cX4_measure 2 none, Cond.methodLink RX4 27 Lib.Math.min.name, Cond.static Lib.Math.min.name, Cond.initialized "java/lang/Math", Cond.code Lib.Math.min.name Lib.Math.min.code 2 (some .int), Cond.methodLink RX4 22 yX6_length, Cond.methodLink RX4 33 yX4_measureEnds, Cond.instanceMethod yX4_measureEnds, Cond.selects RX4 yX4_measureEnds yX4_measureEnds, Cond.code yX4_measureEnds cX4_measureEnds 4 none, Cond.methodLink RX4 40 yX6_token, Cond.methodLink RX4 44 yX4_endAt, Cond.instanceMethod yX4_endAt, Cond.selects RX4 yX4_endAt yX4_endAt, Cond.code yX4_endAt cX4_endAt 2 (some .int), Cond.methodLink RX4 37 yX4_measureDepths]
def wsL_law_r12 : List Cond := [Cond.instanceMethod yX4_measureDepths, Cond.selects RX4 yX4_measureDepths yX4_measureDepths, Cond.code yX4_measureDepths cX4_measureDepths 4 none, Cond.methodLink RX4 47 yX4_setDepth, Cond.instanceMethod yX4_setDepth, Cond.selects RX4 yX4_setDepth yX4_setDepth, Cond.code yX4_setDepth cX4_setDepth 3 none, Cond.methodLink RX8 111 yX4_depthAt, Cond.instanceMethod yX4_depthAt, Cond.selects RX4 yX4_depthAt yX4_depthAt, Cond.code yX4_depthAt cX4_depthAt 2 (some .int), Cond.methodLink RL 42 yX9_nameAt, Cond.instanceMethod yX9_nameAt, Cond.selects RX9 yX9_nameAt yX9_nameAt, Cond.code yX9_nameAt cX9_nameAt 4 (some .int), Cond.methodLink RX9 86 yX9_layDepths, Cond.instanceMethod yX9_layDepths, Cond.selects RX9 yX9_layDepths yX9_layDepths, Cond.code yX9_layDepths cX9_layDepths 8 none, Cond.methodLink RX9 68 yX9_isVariable, Cond.static yX9_isVariable, Cond.code yX9_isVariable cX9_isVariable 1 (some .boolean), Cond.methodLink RL 43 yX8_redexCount, Cond.instanceMethod yX8_redexCount]
def wsL_law_r13 : List Cond := [Cond.selects RX8 yX8_redexCount yX8_redexCount, Cond.code yX8_redexCount cX8_redexCount 1 (some .int), Cond.methodLink RX8 114 yX5_countRedexes, Cond.static yX5_countRedexes, Cond.code yX5_countRedexes cX5_countRedexes 3 (some .int), Cond.methodLink RX5 32 yX6_length, Cond.methodLink RX5 36 yX5_isRedex, Cond.static yX5_isRedex, Cond.code yX5_isRedex cX5_isRedex 2 (some .boolean), Cond.methodLink RX5 28 yX6_token, Cond.methodLink RL 46 yX9_redexCount, Cond.instanceMethod yX9_redexCount, Cond.selects RX9 yX9_redexCount yX9_redexCount, Cond.code yX9_redexCount cX9_redexCount 1 (some .int), Cond.methodLink RX9 108 yX9_redexes, Cond.static yX9_redexes, Cond.code yX9_redexes cX9_redexes 3 (some .int), Cond.methodLink RX9 72 yX9_isRedex, Cond.static yX9_isRedex, Cond.code yX9_isRedex cX9_isRedex 2 (some .boolean), Cond.methodLink RL 47 yX8_chosenRedex, Cond.instanceMethod yX8_chosenRedex, Cond.selects RX8 yX8_chosenRedex yX8_chosenRedex, Cond.code yX8_chosenRedex cX8_chosenRedex 2 (some .int)]
def wsL_law_r14 : List Cond := [Cond.methodLink RX8 118 yX8_isStrategy, Cond.static yX8_isStrategy, Cond.code yX8_isStrategy cX8_isStrategy 1 (some .boolean), Cond.methodLink RX8 121 yX5_choose, Cond.static yX5_choose, Cond.code yX5_choose cX5_choose 2 (some .int), Cond.methodLink RX5 40 yX5_nextRedex, Cond.static yX5_nextRedex, Cond.code yX5_nextRedex cX5_nextRedex 3 (some .int), Cond.methodLink RX5 44 yX5_leftmostInnermost, Cond.static yX5_leftmostInnermost, Cond.code yX5_leftmostInnermost cX5_leftmostInnermost 4 (some .int), Cond.methodLink RX5 48 yX5_lastRedex, Cond.static yX5_lastRedex, Cond.code yX5_lastRedex cX5_lastRedex 2 (some .int), Cond.methodLink RX5 51 yX5_weakHead, Cond.static yX5_weakHead, Cond.code yX5_weakHead cX5_weakHead 2 (some .int), Cond.methodLink RL 50 yX9_chosenRedex, Cond.instanceMethod yX9_chosenRedex, Cond.selects RX9 yX9_chosenRedex yX9_chosenRedex, Cond.code yX9_chosenRedex cX9_chosenRedex 2 (some .int), Cond.constantLong RX9 135 (3), Cond.methodLink RX9 94 yX9_choose]
def wsL_law_r15 : List Cond := [Cond.static yX9_choose, Cond.code yX9_choose cX9_choose 7 (some .int), Cond.methodLink RX9 80 yX9_isInnermost, Cond.static yX9_isInnermost, Cond.code yX9_isInnermost cX9_isInnermost 4 (some .boolean), Cond.methodLink RX9 76 yX9_end, Cond.static yX9_end, Cond.code yX9_end cX9_end 4 (some .int), Cond.methodLink RL 51 yX8_freeVariables, Cond.instanceMethod yX8_freeVariables, Cond.selects RX8 yX8_freeVariables yX8_freeVariables, Cond.code yX8_freeVariables cX8_freeVariables 4 (some .int), Cond.methodLink RX8 125 yX8_isVariable, Cond.static yX8_isVariable, Cond.code yX8_isVariable cX8_isVariable 1 (some .boolean), Cond.methodLink RL 54 yX9_freeVariables, Cond.instanceMethod yX9_freeVariables, Cond.selects RX9 yX9_freeVariables yX9_freeVariables, Cond.code yX9_freeVariables cX9_freeVariables 3 (some .int), Cond.methodLink RL 55 yX8_step, Cond.instanceMethod yX8_step, Cond.selects RX8 yX8_step yX8_step, Cond.code yX8_step cX8_step 3 (some .int), Cond.methodLink RX8 128 yX6_copyFrom]
def wsL_law_r16 : List Cond := [Cond.instanceMethod yX6_copyFrom, Cond.selects RX6 yX6_copyFrom yX6_copyFrom, Cond.code yX6_copyFrom cX6_copyFrom 2 none, Cond.methodLink RX6 23 arraycopyName, Cond.native arraycopyName, Cond.static arraycopyName, Cond.initialized "java/lang/System", Cond.methodLink RX8 131 yX5_contract, Cond.instanceMethod yX5_contract, Cond.selects RX5 yX5_contract yX5_contract, Cond.code yX5_contract cX5_contract 5 (some .boolean), Cond.methodLink RX5 63 yX4_measure, Cond.methodLink RX5 67 yX4_endAt, Cond.methodLink RX5 70 yX6_clear, Cond.methodLink RX5 73 yX6_addRange, Cond.instanceMethod yX6_addRange, Cond.selects RX6 yX6_addRange yX6_addRange, Cond.code yX6_addRange cX6_addRange 5 none, Cond.methodLink RX5 77 yX5_addContracted, Cond.instanceMethod yX5_addContracted, Cond.selects RX5 yX5_addContracted yX5_addContracted, Cond.code yX5_addContracted cX5_addContracted 9 none, Cond.methodLink RX5 85 yX4_depthAt, Cond.methodLink RX5 88 yX6_isTooLarge]
def wsL_law_r17 : List Cond := [Cond.instanceMethod yX6_isTooLarge, Cond.selects RX6 yX6_isTooLarge yX6_isTooLarge, Cond.code yX6_isTooLarge cX6_isTooLarge 1 (some .boolean), Cond.methodLink RX5 96 yX6_add, Cond.methodLink RX5 100 yX5_addShifted, Cond.instanceMethod yX5_addShifted, Cond.selects RX5 yX5_addShifted yX5_addShifted, Cond.code yX5_addShifted cX5_addShifted 10 none, Cond.methodLink RX5 81 yX5_takeResult, Cond.instanceMethod yX5_takeResult, Cond.selects RX5 yX5_takeResult yX5_takeResult, Cond.code yX5_takeResult cX5_takeResult 2 (some .boolean), Cond.methodLink RX5 104 yX6_copyFrom, Cond.methodLink RX8 135 yX8_actWithCopy, Cond.instanceMethod yX8_actWithCopy, Cond.selects RX8 yX8_actWithCopy yX8_actWithCopy, Cond.code yX8_actWithCopy cX8_actWithCopy 1 (some .int), Cond.methodLink RX8 218 yX1_remember, Cond.instanceMethod yX1_remember, Cond.selects RX1 yX1_remember yX1_remember, Cond.code yX1_remember cX1_remember 4 none, Cond.methodLink RX1 33 Lib.Math.min.name, Cond.methodLink RX1 27 yX6_length, Cond.methodLink RX1 39 yX6_token]
def wsL_law_r18 : List Cond := [Cond.methodLink RL 58 yX9_step, Cond.instanceMethod yX9_step, Cond.selects RX9 yX9_step yX9_step, Cond.code yX9_step cX9_step 3 (some .int), Cond.methodLink RX9 97 yX9_contract, Cond.instanceMethod yX9_contract, Cond.selects RX9 yX9_contract yX9_contract, Cond.code yX9_contract cX9_contract 8 (some .boolean), Cond.methodLink RX9 83 yX9_put, Cond.instanceMethod yX9_put, Cond.selects RX9 yX9_put yX9_put, Cond.code yX9_put cX9_put 2 (some .boolean), Cond.methodLink RX9 90 yX9_putShifted, Cond.instanceMethod yX9_putShifted, Cond.selects RX9 yX9_putShifted yX9_putShifted, Cond.code yX9_putShifted cX9_putShifted 8 (some .boolean), Cond.methodLink RX9 140 yX9_commit, Cond.instanceMethod yX9_commit, Cond.selects RX9 yX9_commit yX9_commit, Cond.code yX9_commit cX9_commit 1 (some .int), Cond.methodLink RX9 137 yX9_remember, Cond.instanceMethod yX9_remember, Cond.selects RX9 yX9_remember yX9_remember, Cond.code yX9_remember cX9_remember 2 none]
def wsL_law_r19 : List Cond := [Cond.methodLink RX9 100 yX9_assign, Cond.static yX9_assign, Cond.code yX9_assign cX9_assign 3 none, Cond.methodLink RL 59 yX8_run, Cond.instanceMethod yX8_run, Cond.selects RX8 yX8_run yX8_run, Cond.code yX8_run cX8_run 4 (some .int), Cond.methodLink RX8 138 yX5_perform, Cond.instanceMethod yX5_perform, Cond.selects RX5 yX5_perform yX5_perform, Cond.code yX5_perform cX5_perform 5 (some .int), Cond.methodLink RX5 57 yX5_choose, Cond.methodLink RX5 60 yX5_contract, Cond.methodLink RL 63 yX9_run, Cond.instanceMethod yX9_run, Cond.selects RX9 yX9_run yX9_run, Cond.code yX9_run cX9_run 3 (some .int), Cond.constantLong RX9 143 (50), Cond.methodLink RX9 104 yX9_runOn, Cond.instanceMethod yX9_runOn, Cond.selects RX9 yX9_runOn yX9_runOn, Cond.code yX9_runOn cX9_runOn 6 (some .int), Cond.methodLink RL 64 yX8_abstractTerm, Cond.instanceMethod yX8_abstractTerm]
def wsL_law_r20 : List Cond := [Cond.selects RX8 yX8_abstractTerm yX8_abstractTerm, Cond.code yX8_abstractTerm cX8_abstractTerm 1 (some .int), Cond.methodLink RX8 142 yX6_wrapInAbstraction, Cond.instanceMethod yX6_wrapInAbstraction, Cond.selects RX6 yX6_wrapInAbstraction yX6_wrapInAbstraction, Cond.code yX6_wrapInAbstraction cX6_wrapInAbstraction 1 (some .boolean), Cond.methodLink RL 67 yX9_abstractTerm, Cond.instanceMethod yX9_abstractTerm, Cond.selects RX9 yX9_abstractTerm yX9_abstractTerm, Cond.code yX9_abstractTerm cX9_abstractTerm 1 (some .int), Cond.methodLink RX9 145 yX9_putBehind, Cond.instanceMethod yX9_putBehind, Cond.selects RX9 yX9_putBehind yX9_putBehind, Cond.code yX9_putBehind cX9_putBehind 5 (some .boolean), Cond.methodLink RL 68 yX8_applyTo, Cond.instanceMethod yX8_applyTo, Cond.selects RX8 yX8_applyTo yX8_applyTo, Cond.code yX8_applyTo cX8_applyTo 3 (some .int), Cond.methodLink RX8 146 yX8_isSlot, Cond.static yX8_isSlot, Cond.code yX8_isSlot cX8_isSlot 1 (some .boolean), Cond.methodLink RX8 149 yX8_slotTerm, Cond.instanceMethod yX8_slotTerm, Cond.selects RX8 yX8_slotTerm yX8_slotTerm]
def wsL_law_r21 : List Cond := [Cond.code yX8_slotTerm cX8_slotTerm 2 (some (.object "SubstitutionMachine$Term")), Cond.methodLink RX8 153 yX6_addRange, Cond.methodLink RX8 157 yX6_isTooLarge, Cond.methodLink RL 71 yX9_applyTo, Cond.instanceMethod yX9_applyTo, Cond.selects RX9 yX9_applyTo yX9_applyTo, Cond.code yX9_applyTo cX9_applyTo 4 (some .int), Cond.methodLink RX9 149 yX9_takeSlot, Cond.instanceMethod yX9_takeSlot, Cond.selects RX9 yX9_takeSlot yX9_takeSlot, Cond.code yX9_takeSlot cX9_takeSlot 4 none, Cond.methodLink RL 72 yX8_substitute, Cond.instanceMethod yX8_substitute, Cond.selects RX8 yX8_substitute yX8_substitute, Cond.code yX8_substitute cX8_substitute 4 (some .int), Cond.methodLink RX8 160 yX5_replaceFree, Cond.instanceMethod yX5_replaceFree, Cond.selects RX5 yX5_replaceFree yX5_replaceFree, Cond.code yX5_replaceFree cX5_replaceFree 7 (some .boolean), Cond.methodLink RL 75 yX9_substitute, Cond.instanceMethod yX9_substitute, Cond.selects RX9 yX9_substitute yX9_substitute, Cond.code yX9_substitute cX9_substitute 6 (some .int), Cond.constantLong RX9 153 (9)]
def wsL_law_r22 : List Cond := [Cond.methodLink RL 76 yX8_undo, Cond.instanceMethod yX8_undo, Cond.selects RX8 yX8_undo yX8_undo, Cond.code yX8_undo cX8_undo 1 (some .int), Cond.methodLink RX8 164 yX1_takeBack, Cond.instanceMethod yX1_takeBack, Cond.selects RX1 yX1_takeBack yX1_takeBack, Cond.code yX1_takeBack cX1_takeBack 4 (some .boolean), Cond.methodLink RX1 43 yX6_clear, Cond.methodLink RX1 46 yX6_add, Cond.methodLink RX8 168 yX1_count, Cond.instanceMethod yX1_count, Cond.selects RX1 yX1_count yX1_count, Cond.code yX1_count cX1_count 1 (some .int), Cond.methodLink RL 79 yX9_undo, Cond.instanceMethod yX9_undo, Cond.selects RX9 yX9_undo yX9_undo, Cond.code yX9_undo cX9_undo 2 (some .int), Cond.methodLink RL 80 yX8_stepsOfRun, Cond.instanceMethod yX8_stepsOfRun, Cond.selects RX8 yX8_stepsOfRun yX8_stepsOfRun, Cond.code yX8_stepsOfRun cX8_stepsOfRun 3 (some .int), Cond.methodLink RX8 171 yX8_isPrediction, Cond.static yX8_isPrediction]
def wsL_law_r23 : List Cond := [Cond.code yX8_isPrediction cX8_isPrediction 2 (some .boolean), Cond.methodLink RX8 175 yX8_performOnCopy, Cond.instanceMethod yX8_performOnCopy, Cond.selects RX8 yX8_performOnCopy yX8_performOnCopy, Cond.code yX8_performOnCopy cX8_performOnCopy 3 (some .int), Cond.methodLink RL 83 yX9_stepsOfRun, Cond.instanceMethod yX9_stepsOfRun, Cond.selects RX9 yX9_stepsOfRun yX9_stepsOfRun, Cond.code yX9_stepsOfRun cX9_stepsOfRun 3 (some .int), Cond.constantLong RX9 155 (200), Cond.methodLink RL 84 yX8_sizeAfterRun, Cond.instanceMethod yX8_sizeAfterRun, Cond.selects RX8 yX8_sizeAfterRun yX8_sizeAfterRun, Cond.code yX8_sizeAfterRun cX8_sizeAfterRun 3 (some .int), Cond.methodLink RL 87 yX9_sizeAfterRun, Cond.instanceMethod yX9_sizeAfterRun, Cond.selects RX9 yX9_sizeAfterRun yX9_sizeAfterRun, Cond.code yX9_sizeAfterRun cX9_sizeAfterRun 3 (some .int), Cond.methodLink RL 88 yX8_normalSize, Cond.instanceMethod yX8_normalSize, Cond.selects RX8 yX8_normalSize yX8_normalSize, Cond.code yX8_normalSize cX8_normalSize 1 (some .int), Cond.methodLink RX8 179 yX8_normaliseInto, Cond.instanceMethod yX8_normaliseInto]
def wsL_law_r24 : List Cond := [Cond.selects RX8 yX8_normaliseInto yX8_normaliseInto, Cond.code yX8_normaliseInto cX8_normaliseInto 3 (some .boolean), Cond.methodLink RX8 221 yX5_nextRedex, Cond.methodLink RL 91 yX9_normalSize, Cond.instanceMethod yX9_normalSize, Cond.selects RX9 yX9_normalSize yX9_normalSize, Cond.code yX9_normalSize cX9_normalSize 1 (some .int), Cond.methodLink RX9 157 yX9_normalize, Cond.instanceMethod yX9_normalize, Cond.selects RX9 yX9_normalize yX9_normalize, Cond.code yX9_normalize cX9_normalize 2 (some .boolean), Cond.methodLink RL 92 yX8_normalTokenAt, Cond.instanceMethod yX8_normalTokenAt, Cond.selects RX8 yX8_normalTokenAt yX8_normalTokenAt, Cond.code yX8_normalTokenAt cX8_normalTokenAt 2 (some .int), Cond.methodLink RL 95 yX9_normalTokenAt, Cond.instanceMethod yX9_normalTokenAt, Cond.selects RX9 yX9_normalTokenAt yX9_normalTokenAt, Cond.code yX9_normalTokenAt cX9_normalTokenAt 2 (some .int), Cond.methodLink RL 96 yX8_isEquivalent, Cond.instanceMethod yX8_isEquivalent, Cond.selects RX8 yX8_isEquivalent yX8_isEquivalent, Cond.code yX8_isEquivalent cX8_isEquivalent 3 (some .int), Cond.methodLink RX8 183 yX6_hasSameTokens]
def wsL_law_r25 : List Cond := [Cond.instanceMethod yX6_hasSameTokens, Cond.selects RX6 yX6_hasSameTokens yX6_hasSameTokens, Cond.code yX6_hasSameTokens cX6_hasSameTokens 3 (some .boolean), Cond.methodLink RL 99 yX9_isEquivalent, Cond.instanceMethod yX9_isEquivalent, Cond.selects RX9 yX9_isEquivalent yX9_isEquivalent, Cond.code yX9_isEquivalent cX9_isEquivalent 4 (some .int), Cond.methodLink RL 100 yX8_machineSteps, Cond.instanceMethod yX8_machineSteps, Cond.selects RX8 yX8_machineSteps yX8_machineSteps, Cond.code yX8_machineSteps cX8_machineSteps 3 (some .int), Cond.methodLink RX8 186 yX2_work, Cond.instanceMethod yX2_work, Cond.selects RX2 yX2_work yX2_work, Cond.code yX2_work cX2_work 5 (some .boolean), Cond.methodLink RX2 53 Lib.Math.max.name, Cond.static Lib.Math.max.name, Cond.code Lib.Math.max.name Lib.Math.max.code 2 (some .int), Cond.methodLink RX2 29 yX2_start, Cond.instanceMethod yX2_start, Cond.selects RX2 yX2_start yX2_start, Cond.code yX2_start cX2_start 3 none, Cond.methodLink RX2 59 yX0_clear, Cond.instanceMethod yX0_clear]
def wsL_law_r26 : List Cond := [Cond.selects RX0 yX0_clear yX0_clear, Cond.code yX0_clear cX0_clear 1 none, Cond.methodLink RX2 62 yX6_length, Cond.methodLink RX2 65 yX6_token, Cond.methodLink RX2 69 yX0_add, Cond.instanceMethod yX0_add, Cond.selects RX0 yX0_add yX0_add, Cond.code yX0_add cX0_add 2 none, Cond.methodLink RX0 29 yX0_put, Cond.instanceMethod yX0_put, Cond.selects RX0 yX0_put yX0_put, Cond.code yX0_put cX0_put 4 none, Cond.methodLink RX2 49 yX0_length, Cond.instanceMethod yX0_length, Cond.selects RX0 yX0_length yX0_length, Cond.code yX0_length cX0_length 1 (some .int), Cond.methodLink RX2 33 yX2_firstPlace, Cond.instanceMethod yX2_firstPlace, Cond.selects RX2 yX2_firstPlace yX2_firstPlace, Cond.code yX2_firstPlace cX2_firstPlace 3 (some .int), Cond.methodLink RX2 37 yX2_ruleAt, Cond.instanceMethod yX2_ruleAt, Cond.selects RX2 yX2_ruleAt yX2_ruleAt, Cond.code yX2_ruleAt cX2_ruleAt 5 (some .int)]
def wsL_law_r27 : List Cond := [Cond.methodLink RX2 73 yX0_token, Cond.instanceMethod yX0_token, Cond.selects RX0 yX0_token yX0_token, Cond.code yX0_token cX0_token 2 (some .int), Cond.methodLink RX2 41 yX2_rewrite, Cond.instanceMethod yX2_rewrite, Cond.selects RX2 yX2_rewrite yX2_rewrite, Cond.code yX2_rewrite cX2_rewrite 4 none, Cond.methodLink RX2 74 yX0_addRange, Cond.instanceMethod yX0_addRange, Cond.selects RX0 yX0_addRange yX0_addRange, Cond.code yX0_addRange cX0_addRange 5 none, Cond.methodLink RX0 33 arraycopyName, Cond.methodLink RX2 78 yX2_writeBeta, Cond.instanceMethod yX2_writeBeta, Cond.selects RX2 yX2_writeBeta yX2_writeBeta, Cond.code yX2_writeBeta cX2_writeBeta 2 none, Cond.methodLink RX2 96 yX0_addClosure, Cond.instanceMethod yX0_addClosure, Cond.selects RX0 yX0_addClosure yX0_addClosure, Cond.code yX0_addClosure cX0_addClosure 3 none, Cond.methodLink RX2 93 yX0_behind, Cond.instanceMethod yX0_behind, Cond.selects RX0 yX0_behind yX0_behind]
def wsL_law_r28 : List Cond := [Cond.code yX0_behind cX0_behind 5 (some .int), Cond.methodLink RX0 39 yX0_token, Cond.methodLink RX0 46 yX0_entriesAt, Cond.instanceMethod yX0_entriesAt, Cond.selects RX0 yX0_entriesAt yX0_entriesAt, Cond.code yX0_entriesAt cX0_entriesAt 2 (some .int), Cond.methodLink RX2 81 yX2_writeApply, Cond.instanceMethod yX2_writeApply, Cond.selects RX2 yX2_writeApply yX2_writeApply, Cond.code yX2_writeApply cX2_writeApply 7 none, Cond.methodLink RX2 99 yX0_entriesAt, Cond.methodLink RX2 102 yX0_shiftAt, Cond.instanceMethod yX0_shiftAt, Cond.selects RX0 yX0_shiftAt yX0_shiftAt, Cond.code yX0_shiftAt cX0_shiftAt 2 (some .int), Cond.methodLink RX2 84 yX2_writeAbstract, Cond.instanceMethod yX2_writeAbstract, Cond.selects RX2 yX2_writeAbstract yX2_writeAbstract, Cond.code yX2_writeAbstract cX2_writeAbstract 6 none, Cond.methodLink RX2 45 yX0_isTooLarge, Cond.instanceMethod yX0_isTooLarge, Cond.selects RX0 yX0_isTooLarge yX0_isTooLarge, Cond.code yX0_isTooLarge cX0_isTooLarge 1 (some .boolean), Cond.methodLink RX2 87 yX2_writeLookup]
def wsL_law_r29 : List Cond := [Cond.instanceMethod yX2_writeLookup, Cond.selects RX2 yX2_writeLookup yX2_writeLookup, Cond.code yX2_writeLookup cX2_writeLookup 5 none, Cond.methodLink RX2 90 yX2_writeMerge, Cond.instanceMethod yX2_writeMerge, Cond.selects RX2 yX2_writeMerge yX2_writeMerge, Cond.code yX2_writeMerge cX2_writeMerge 12 none, Cond.methodLink RX2 105 Lib.Math.min.name, Cond.methodLink RX8 190 yX2_applications, Cond.instanceMethod yX2_applications, Cond.selects RX2 yX2_applications yX2_applications, Cond.code yX2_applications cX2_applications 2 (some .int), Cond.methodLink RL 103 yX9_machineSteps, Cond.instanceMethod yX9_machineSteps, Cond.selects RX9 yX9_machineSteps yX9_machineSteps, Cond.code yX9_machineSteps cX9_machineSteps 3 (some .int), Cond.constantLong RX9 189 (4), Cond.methodLink RX9 191 yX9_machine, Cond.instanceMethod yX9_machine, Cond.selects RX9 yX9_machine yX9_machine, Cond.code yX9_machine cX9_machine 6 (some .boolean), Cond.fieldLink RX9 179 "SubstitutionMachineModel" "peak" "I", Cond.fieldLink RX9 161 "SubstitutionMachineModel" "tooWide" "Z", Cond.methodLink RX9 182 yX9_ruleAt]
def wsL_law_r30 : List Cond := [Cond.instanceMethod yX9_ruleAt, Cond.selects RX9 yX9_ruleAt yX9_ruleAt, Cond.code yX9_ruleAt cX9_ruleAt 4 (some .int), Cond.methodLink RX9 186 yX9_apply, Cond.instanceMethod yX9_apply, Cond.selects RX9 yX9_apply yX9_apply, Cond.code yX9_apply cX9_apply 12 none, Cond.constant RX9 173 (1001000), Cond.constant RX9 174 (1000001), Cond.methodLink RX9 169 yX9_addPart, Cond.instanceMethod yX9_addPart, Cond.selects RX9 yX9_addPart yX9_addPart, Cond.code yX9_addPart cX9_addPart 4 none, Cond.methodLink RX9 165 yX9_add, Cond.instanceMethod yX9_add, Cond.selects RX9 yX9_add yX9_add, Cond.code yX9_add cX9_add 2 none, Cond.methodLink RX9 175 yX9_merge, Cond.instanceMethod yX9_merge, Cond.selects RX9 yX9_merge yX9_merge, Cond.code yX9_merge cX9_merge 13 none, Cond.methodLink RL 104 yX8_machinePeak, Cond.instanceMethod yX8_machinePeak, Cond.selects RX8 yX8_machinePeak yX8_machinePeak]
def wsL_law_r31 : List Cond := [Cond.code yX8_machinePeak cX8_machinePeak 2 (some .int), Cond.methodLink RX8 193 yX2_peak, Cond.instanceMethod yX2_peak, Cond.selects RX2 yX2_peak yX2_peak, Cond.code yX2_peak cX2_peak 1 (some .int), Cond.methodLink RL 107 yX9_machinePeak, Cond.instanceMethod yX9_machinePeak, Cond.selects RX9 yX9_machinePeak yX9_machinePeak, Cond.code yX9_machinePeak cX9_machinePeak 2 (some .int), Cond.methodLink RL 110 yX8_runScript, Cond.instanceMethod yX8_runScript, Cond.selects RX8 yX8_runScript yX8_runScript, Cond.code yX8_runScript cX8_runScript 6 (some .int), Cond.constantLong RX8 200 (1000), Cond.methodLink RX8 196 yX8_withoutLowGroups, Cond.static yX8_withoutLowGroups, Cond.code yX8_withoutLowGroups cX8_withoutLowGroups 6 (some .long), Cond.methodLink RX8 202 yX8_commandSucceeds, Cond.instanceMethod yX8_commandSucceeds, Cond.selects RX8 yX8_commandSucceeds yX8_commandSucceeds, Cond.code yX8_commandSucceeds cX8_commandSucceeds 4 (some .boolean), Cond.methodLink RL 114 yX9_runScript, Cond.instanceMethod yX9_runScript, Cond.selects RX9 yX9_runScript yX9_runScript]
def wsL_law_r32 : List Cond := [Cond.code yX9_runScript cX9_runScript 6 (some .int), Cond.constantLong RX9 195 (1000), Cond.methodLink RX9 197 yX9_thousands, Cond.static yX9_thousands, Cond.code yX9_thousands cX9_thousands 4 (some .long), Cond.methodLink RX9 201 yX9_command, Cond.instanceMethod yX9_command, Cond.selects RX9 yX9_command yX9_command, Cond.code yX9_command cX9_command 8 (some .boolean), Cond.methodLink RL 115 yX8_observe, Cond.instanceMethod yX8_observe, Cond.selects RX8 yX8_observe yX8_observe, Cond.code yX8_observe cX8_observe 3 (some .int), Cond.methodLink RX8 205 yX3_add, Cond.instanceMethod yX3_add, Cond.selects RX3 yX3_add yX3_add, Cond.code yX3_add cX3_add 3 none, Cond.methodLink RX3 22 yX3_dropOldest, Cond.instanceMethod yX3_dropOldest, Cond.selects RX3 yX3_dropOldest yX3_dropOldest, Cond.code yX3_dropOldest cX3_dropOldest 2 none, Cond.methodLink RX8 208 yX3_count, Cond.instanceMethod yX3_count, Cond.selects RX3 yX3_count yX3_count]
def wsL_law_r33 : List Cond := [Cond.code yX3_count cX3_count 1 (some .int), Cond.methodLink RL 118 yX9_observe, Cond.instanceMethod yX9_observe, Cond.selects RX9 yX9_observe yX9_observe, Cond.code yX9_observe cX9_observe 4 (some .int), Cond.fieldLink RX9 205 "SubstitutionMachineModel" "observed" "I", Cond.methodLink RL 119 yX8_forgetAfter, Cond.instanceMethod yX8_forgetAfter, Cond.selects RX8 yX8_forgetAfter yX8_forgetAfter, Cond.code yX8_forgetAfter cX8_forgetAfter 2 (some .int), Cond.methodLink RX8 209 yX3_keepUpTo, Cond.instanceMethod yX3_keepUpTo, Cond.selects RX3 yX3_keepUpTo yX3_keepUpTo, Cond.code yX3_keepUpTo cX3_keepUpTo 4 none, Cond.methodLink RL 122 yX9_forgetAfter, Cond.instanceMethod yX9_forgetAfter, Cond.selects RX9 yX9_forgetAfter yX9_forgetAfter, Cond.code yX9_forgetAfter cX9_forgetAfter 4 (some .int), Cond.methodLink RL 123 yX8_possibleStrategies, Cond.instanceMethod yX8_possibleStrategies, Cond.selects RX8 yX8_possibleStrategies yX8_possibleStrategies, Cond.code yX8_possibleStrategies cX8_possibleStrategies 3 (some .int), Cond.methodLink RX8 212 yX8_observationsHold, Cond.instanceMethod yX8_observationsHold]
def wsL_law_r34 : List Cond := [Cond.selects RX8 yX8_observationsHold yX8_observationsHold, Cond.code yX8_observationsHold cX8_observationsHold 4 (some .boolean), Cond.methodLink RX8 227 Lib.Math.min.name, Cond.methodLink RX8 224 yX3_greatestLimit, Cond.instanceMethod yX3_greatestLimit, Cond.selects RX3 yX3_greatestLimit yX3_greatestLimit, Cond.code yX3_greatestLimit cX3_greatestLimit 3 (some .int), Cond.methodLink RX3 25 Lib.Math.max.name, Cond.methodLink RX8 232 yX3_allow, Cond.instanceMethod yX3_allow, Cond.selects RX3 yX3_allow yX3_allow, Cond.code yX3_allow cX3_allow 4 (some .boolean), Cond.methodLink RL 126 yX9_possibleStrategies, Cond.instanceMethod yX9_possibleStrategies, Cond.selects RX9 yX9_possibleStrategies yX9_possibleStrategies, Cond.code yX9_possibleStrategies cX9_possibleStrategies 5 (some .int), Cond.methodLink RL 127 yX8_setSeed, Cond.instanceMethod yX8_setSeed, Cond.selects RX8 yX8_setSeed yX8_setSeed, Cond.code yX8_setSeed cX8_setSeed 5 (some .long), Cond.methodLink RL 131 yX9_setSeed, Cond.instanceMethod yX9_setSeed, Cond.selects RX9 yX9_setSeed yX9_setSeed, Cond.code yX9_setSeed cX9_setSeed 5 (some .long)]
def wsL_law_r35 : List Cond := [Cond.fieldLink RX9 208 "SubstitutionMachineModel" "seed" "J", Cond.methodLink RL 132 yX8_randomReduction, Cond.instanceMethod yX8_randomReduction, Cond.selects RX8 yX8_randomReduction yX8_randomReduction, Cond.code yX8_randomReduction cX8_randomReduction 4 (some .int), Cond.methodLink RX8 215 yX8_randomStepOnCopy, Cond.instanceMethod yX8_randomStepOnCopy, Cond.selects RX8 yX8_randomStepOnCopy yX8_randomStepOnCopy, Cond.code yX8_randomStepOnCopy cX8_randomStepOnCopy 3 none, Cond.constantLong RX8 235 (6364136223846793005), Cond.constantLong RX8 237 (1442695040888963407), Cond.methodLink RX8 239 yX5_numberedRedex, Cond.static yX5_numberedRedex, Cond.code yX5_numberedRedex cX5_numberedRedex 4 (some .int), Cond.methodLink RL 135 yX9_randomReduction, Cond.instanceMethod yX9_randomReduction, Cond.selects RX9 yX9_randomReduction yX9_randomReduction, Cond.code yX9_randomReduction cX9_randomReduction 6 (some .int), Cond.constantLong RX9 212 (30), Cond.constantLong RX9 214 (6364136223846793005), Cond.constantLong RX9 216 (1442695040888963407), Cond.methodLink RX9 218 yX9_redexNumber, Cond.static yX9_redexNumber, Cond.code yX9_redexNumber cX9_redexNumber 4 (some .int)]
def wsL_law_r36 : List Cond := [Cond.methodLink RL 136 yX8_save, Cond.instanceMethod yX8_save, Cond.selects RX8 yX8_save yX8_save, Cond.code yX8_save cX8_save 2 (some .int), Cond.methodLink RL 139 yX9_save, Cond.instanceMethod yX9_save, Cond.selects RX9 yX9_save yX9_save, Cond.code yX9_save cX9_save 3 (some .int), Cond.methodLink RL 140 yX8_restore, Cond.instanceMethod yX8_restore, Cond.selects RX8 yX8_restore yX8_restore, Cond.code yX8_restore cX8_restore 3 (some .int), Cond.methodLink RL 143 yX9_restore, Cond.instanceMethod yX9_restore, Cond.selects RX9 yX9_restore yX9_restore, Cond.code yX9_restore cX9_restore 2 (some .int)]
def wsL_law : List Cond := (wsL_law_r1 ++ (wsL_law_r2 ++ (wsL_law_r3 ++ (wsL_law_r4 ++ (wsL_law_r5 ++ (wsL_law_r6 ++ (wsL_law_r7 ++ (wsL_law_r8 ++ (wsL_law_r9 ++ (wsL_law_r10 ++ (wsL_law_r11 ++ (wsL_law_r12 ++ (wsL_law_r13 ++ (wsL_law_r14 ++ (wsL_law_r15 ++ (wsL_law_r16 ++ (wsL_law_r17 ++ (wsL_law_r18 ++ (wsL_law_r19 ++ (wsL_law_r20 ++ (wsL_law_r21 ++ (wsL_law_r22 ++ (wsL_law_r23 ++ (wsL_law_r24 ++ (wsL_law_r25 ++ (wsL_law_r26 ++ (wsL_law_r27 ++ (wsL_law_r28 ++ (wsL_law_r29 ++ (wsL_law_r30 ++ (wsL_law_r31 ++ (wsL_law_r32 ++ (wsL_law_r33 ++ (wsL_law_r34 ++ (wsL_law_r35 ++ wsL_law_r36))))))))))))))))))))))))))))))))))) ++ wsX80 ++ wsX90 ++ wsX60 ++ wsX40 ++ wsX50 ++ wsX20 ++ wsX10 ++ wsX70 ++ wsX30 ++ wsX00 ++ ([] : List Cond)
theorem inlX0 : ∀ w ∈ wsX00, w ∈ wsL_law := fun _ h => List.mem_append_left _ (List.mem_append_right _ h)
theorem inlX1 : ∀ w ∈ wsX10, w ∈ wsL_law := fun _ h => List.mem_append_left _ (List.mem_append_left _ (List.mem_append_left _ (List.mem_append_left _ (List.mem_append_right _ h))))
theorem inlX2 : ∀ w ∈ wsX20, w ∈ wsL_law := fun _ h => List.mem_append_left _ (List.mem_append_left _ (List.mem_append_left _ (List.mem_append_left _ (List.mem_append_left _ (List.mem_append_right _ h)))))
theorem inlX3 : ∀ w ∈ wsX30, w ∈ wsL_law := fun _ h => List.mem_append_left _ (List.mem_append_left _ (List.mem_append_right _ h))
theorem inlX4 : ∀ w ∈ wsX40, w ∈ wsL_law := fun _ h => List.mem_append_left _ (List.mem_append_left _ (List.mem_append_left _ (List.mem_append_left _ (List.mem_append_left _ (List.mem_append_left _ (List.mem_append_left _ (List.mem_append_right _ h)))))))
theorem inlX5 : ∀ w ∈ wsX50, w ∈ wsL_law := fun _ h => List.mem_append_left _ (List.mem_append_left _ (List.mem_append_left _ (List.mem_append_left _ (List.mem_append_left _ (List.mem_append_left _ (List.mem_append_right _ h))))))
theorem inlX6 : ∀ w ∈ wsX60, w ∈ wsL_law := fun _ h => List.mem_append_left _ (List.mem_append_left _ (List.mem_append_left _ (List.mem_append_left _ (List.mem_append_left _ (List.mem_append_left _ (List.mem_append_left _ (List.mem_append_left _ (List.mem_append_right _ h))))))))
theorem inlX7 : ∀ w ∈ wsX70, w ∈ wsL_law := fun _ h => List.mem_append_left _ (List.mem_append_left _ (List.mem_append_left _ (List.mem_append_right _ h)))
theorem inlX8 : ∀ w ∈ wsX80, w ∈ wsL_law := fun _ h => List.mem_append_left _ (List.mem_append_left _ (List.mem_append_left _ (List.mem_append_left _ (List.mem_append_left _ (List.mem_append_left _ (List.mem_append_left _ (List.mem_append_left _ (List.mem_append_left _ (List.mem_append_left _ (List.mem_append_right _ h))))))))))
theorem inlX9 : ∀ w ∈ wsX90, w ∈ wsL_law := fun _ h => List.mem_append_left _ (List.mem_append_left _ (List.mem_append_left _ (List.mem_append_left _ (List.mem_append_left _ (List.mem_append_left _ (List.mem_append_left _ (List.mem_append_left _ (List.mem_append_left _ (List.mem_append_right _ h)))))))))
abbrev vwCl : List vw_C := [(RX0, TX0, 5), (RX1, TX1, 4), (RX2, TX2, 4), (RX3, TX3, 3), (RX4, TX4, 3), (RX5, TX5, 3), (RX6, TX6, 3), (RX7, TX7, 2), (RX8, TX8, 12), (RX9, TX9, 23)]
end
section
/-! THE LAYER OF PICTURES. A heap is a function from places to cells (the place k lies at the address G.1 k); ints are images of whole numbers. -/
def zI (z : Int) : Int32 := Int32.ofInt z
def zJ (z : Int) : Int64 := Int64.ofInt z
abbrev rg (z : Int) : Prop := -2147483648 ≤ z ∧ z < 2147483648
theorem zI_toInt {z : Int} (h : rg z) : (zI z).toInt = z := by
  unfold zI
  rw [Int32.toInt_ofInt]
  have e : (Int32.size : Nat) = 4294967296 := rfl
  rw [e]
  exact Int.bmod_eq_of_le (by have := h.1; omega) (by have := h.2; omega)
theorem zI_of (x : Int32) : zI x.toInt = x := Int32.ofInt_toInt x
theorem zI_rg (x : Int32) : rg x.toInt := ⟨by have := Int32.le_toInt x; omega, by have := Int32.toInt_lt x; omega⟩
theorem zI_add (a b : Int) : zI a + zI b = zI (a + b) := (Int32.ofInt_add a b).symm
theorem zI_sub (a b : Int) : zI a - zI b = zI (a - b) := (Int32.ofInt_sub a b).symm
theorem zI_mul (a b : Int) : zI a * zI b = zI (a * b) := (Int32.ofInt_mul a b).symm
theorem zI_eq {a b : Int} (ha : rg a) (hb : rg b) : zI a = zI b ↔ a = b := ⟨fun h => by rw [← zI_toInt ha, ← zI_toInt hb, h], fun h => by rw [h]⟩
theorem zI_lt {a b : Int} (ha : rg a) (hb : rg b) : zI a < zI b ↔ a < b := by rw [Int32.lt_iff_toInt_lt, zI_toInt ha, zI_toInt hb]
theorem zI_le {a b : Int} (ha : rg a) (hb : rg b) : zI a ≤ zI b ↔ a ≤ b := by rw [Int32.le_iff_toInt_le, zI_toInt ha, zI_toInt hb]
theorem zI_0 : (0 : Int32) = zI 0 := rfl
theorem rg_0 : rg 0 := by decide
theorem zI_nI (n : Nat) : nI n = zI n := by
  unfold nI zI
  exact (Int32.ofInt_eq_ofNat).symm
theorem zI_cl {n : Nat} (h : n < 2147483648) : (zI n).toNatClampNeg = n := by rw [← zI_nI]; exact nI_clamp h
theorem zI_in {i : Int} {k n : Nat} (hi : i = k) (hk : k < n) (hn : n < 2147483648) : vp_in (zI i) n := by
  subst hi
  rw [← zI_nI]
  exact vp_in_nI hk hn
abbrev HP : Type := Nat → va_E
abbrev Gm : Type := (Nat → Nat) × Nat × va_G × ClassId × ClassId × ClassId
abbrev tyG (G : Gm) : List (ClassId × FieldType) := [(G.2.2.2.1, .int), (G.2.2.2.2.1, .boolean), (G.2.2.2.2.2, .array .int)]
def layG (G : Gm) (c : HP) : va_W := (List.range G.2.1).map (fun k => (G.1 k, c k))
def injG (G : Gm) : Prop := ∀ i j : Nat, i < G.2.1 → j < G.2.1 → G.1 i = G.1 j → i = j
def FA (G : Gm) : Nat → Prop := fun q => ∃ k, k < G.2.1 ∧ q = G.1 k
abbrev aI (G : Gm) (n : Nat) (F : Nat → Int) : va_E := .inl (G.2.2.2.1, n, .inl (fun k => zI (F k)))
abbrev aZ (G : Gm) (n : Nat) (F : Nat → Int) : va_E := .inl (G.2.2.2.2.1, n, .inl (fun k => zI (F k)))
abbrev aQ (G : Gm) (n : Nat) (f : Nat → Nat) : va_E := .inl (G.2.2.2.2.2, n, .inr (.inr (.inr (.inr (fun k => some (G.1 (f k)))))))
theorem layG_get {G : Gm} {c : HP} {k : Nat} (h : k < G.2.1) : (layG G c)[k]? = some (G.1 k, c k) := by
  unfold layG
  rw [List.getElem?_map, List.getElem?_range h]
  rfl
theorem layG_at {G : Gm} {c : HP} {k : Nat} {q : Nat × va_E} (h : (layG G c)[k]? = some q) : k < G.2.1 ∧ q = (G.1 k, c k) := by
  unfold layG at h
  rw [List.getElem?_map] at h
  rcases Nat.lt_or_ge k G.2.1 with g | g
  · rw [List.getElem?_range g] at h
    exact ⟨g, (Option.some.inj h).symm⟩
  · rw [List.getElem?_eq_none (by rw [List.length_range]; exact g)] at h
    cases h
theorem layG_set {G : Gm} {c : HP} {k : Nat} {e : va_E} (h : k < G.2.1) : (layG G c).set k (G.1 k, e) = layG G (va_up c k e) := by
  apply List.ext_getElem?
  intro i
  rw [List.getElem?_set]
  rcases Nat.lt_or_ge i G.2.1 with g | g
  · rw [layG_get g, layG_get g]
    by_cases hk : k = i
    · subst hk
      have hl : k < (layG G c).length := by unfold layG; rw [List.length_map, List.length_range]; exact h
      simp [va_up, hl]
    · have hk2 : ¬ i = k := fun z => hk z.symm
      simp [va_up, hk, hk2]
  · have e1 : ∀ c' : HP, (layG G c')[i]? = none := fun c' => by
      unfold layG
      rw [List.getElem?_map, List.getElem?_eq_none (by rw [List.length_range]; exact g)]
      rfl
    rw [e1, e1]
    by_cases hk : k = i
    · subst hk; omega
    · simp [hk]
theorem layG_D {G : Gm} (h : injG G) (c : HP) : va_D (FA G) (layG G c) := by
  refine ⟨fun i j p q hp hq e => ?_, fun k q hq => ?_⟩
  · obtain ⟨h1, rfl⟩ := layG_at hp
    obtain ⟨h2, rfl⟩ := layG_at hq
    exact h i j h1 h2 e
  · obtain ⟨h1, rfl⟩ := layG_at hq
    exact ⟨k, h1, rfl⟩
theorem upd_zI (F : Nat → Int) (j : Nat) (v : Int) : upd (fun k => zI (F k)) j (zI v) = fun k => zI (va_up F j v k) := by
  funext k
  unfold upd va_up
  split <;> rfl
theorem lk_eq {α : Type} {c : Nat → α} {h : Nat} {v : α} : va_up c h v h = v := if_pos rfl
theorem lk_ne {α : Type} {c : Nat → α} {h k : Nat} {v e : α} (n : k ≠ h) (q : c k = e) : va_up c h v k = e := (if_neg n).trans q
/-! locals -/
def lvf (ls : Array Slot) (nL : Nat) (L : Nat → Option Value) : Prop := ∃ l : List (Nat × Value), lv_has ls nL l ∧ ∀ i v, L i = some v → (i, v) ∈ l
abbrev stL (L : Nat → Option Value) (i : Nat) (v : Value) : Nat → Option Value := fun j => if j = i then some v else L j
abbrev stL2 (L : Nat → Option Value) (i : Nat) (v : Value) : Nat → Option Value := fun j => if j = i then some v else if j = i + 1 then none else L j
def okP (L : Nat → Option Value) (i : Nat) : Prop := ∀ k v, k + 1 = i → L k = some v → v.category = 1
theorem okP_0 {L : Nat → Option Value} : okP L 0 := fun k v h => by omega
theorem okP_n {L : Nat → Option Value} {k : Nat} (h : L k = none) : okP L (k + 1) := fun k' v e h' => by
  have : k' = k := by omega
  subst this
  rw [h] at h'
  cases h'
theorem okP_s {L : Nat → Option Value} {k : Nat} {w : Value} (h : L k = some w) (hw : w.category = 1) : okP L (k + 1) := fun k' v e h' => by
  have : k' = k := by omega
  subst this
  rw [h] at h'
  cases h'
  exact hw
abbrev mkL (l : List (Option Value)) : Nat → Option Value := fun i => (l[i]?).join
def subL (L : Nat → Option Value) : Nat → List (Option Value) → Prop
  | _, [] => True
  | k, none :: r => subL L (k + 1) r
  | k, some v :: r => L k = some v ∧ subL L (k + 1) r
theorem sE {L : Nat → Option Value} {k : Nat} : subL L k [] := trivial
theorem sN {L : Nat → Option Value} {k : Nat} {r : List (Option Value)} (h : subL L (k + 1) r) : subL L k (none :: r) := h
theorem sS {L : Nat → Option Value} {k : Nat} {v : Value} {r : List (Option Value)} (h : L k = some v) (h2 : subL L (k + 1) r) : subL L k (some v :: r) := ⟨h, h2⟩
theorem subL_get {L : Nat → Option Value} : ∀ (l : List (Option Value)) (k : Nat), subL L k l → ∀ i v, mkL l i = some v → L (k + i) = some v
  | [], k, _, i, v, h => by simp [mkL] at h
  | none :: r, k, h, 0, v, h2 => by simp [mkL] at h2
  | some w :: r, k, h, 0, v, h2 => by
    have : w = v := by simpa [mkL] using h2
    subst this
    exact h.1
  | none :: r, k, h, i + 1, v, h2 => by
    have := subL_get r (k + 1) h i v (by simpa [mkL] using h2)
    rw [show k + (i + 1) = k + 1 + i by omega]
    exact this
  | some w :: r, k, h, i + 1, v, h2 => by
    have := subL_get r (k + 1) h.2 i v (by simpa [mkL] using h2)
    rw [show k + (i + 1) = k + 1 + i by omega]
    exact this
theorem lvf_at {ls : Array Slot} {nL : Nat} {L : Nat → Option Value} (h : lvf ls nL L) {i : Nat} {v : Value} (hv : L i = some v) : ls[i]? = some (.val v) := by
  obtain ⟨l, h1, h2⟩ := h
  exact h1.2.2 (i, v) (h2 i v hv)
theorem lvf_st {l : List (Nat × Value)} {L : Nat → Option Value} {i : Nat} {w : Value} (h2 : ∀ i v, L i = some v → (i, v) ∈ l) (hp : okP L i) :
    ∀ j v, stL L i w j = some v → (j, v) ∈ ((i, w) :: l.filter (fun q => !(q.1 == i) && !(q.1 + 1 == i && q.2.category == 2))) := by
  intro j v h
  by_cases e : j = i
  · subst e
    have : w = v := by simpa [stL] using h
    subst this
    exact List.mem_cons_self
  · have h3 : L j = some v := by simpa [stL, e] using h
    refine List.mem_cons_of_mem _ (List.mem_filter.mpr ⟨h2 j v h3, ?_⟩)
    by_cases e2 : j + 1 = i
    · have := hp j v e2 h3
      simp [e, e2, this]
    · simp [e, e2]
theorem lvf_st2 {l : List (Nat × Value)} {L : Nat → Option Value} {i : Nat} {w : Value} (h2 : ∀ i v, L i = some v → (i, v) ∈ l) (hp : okP L i) :
    ∀ j v, stL2 L i w j = some v → (j, v) ∈ ((i, w) :: l.filter (fun q => !(q.1 == i) && (!(q.1 == i + 1) && !(q.1 + 1 == i && q.2.category == 2)))) := by
  intro j v h
  by_cases e : j = i
  · subst e
    have : w = v := by simpa [stL2] using h
    subst this
    exact List.mem_cons_self
  · by_cases e3 : j = i + 1
    · simp [stL2, e, e3] at h
    · have h3 : L j = some v := by simpa [stL2, e, e3] using h
      refine List.mem_cons_of_mem _ (List.mem_filter.mpr ⟨h2 j v h3, ?_⟩)
      by_cases e2 : j + 1 = i
      · have := hp j v e2 h3
        simp [e, e2, e3, this]
      · simp [e, e2, e3]
/-! the judgement -/
abbrev Cx : Type := Program × Launch × Env × Room × State × MethodId × Array Value × List Frame × Method × Code
def PQ (G : Gm) (Q : Option Value → HP → Prop) : Array Value → State → Outcome → State → Prop := fun _ st o t => ∃ (r : Option Value) (c : HP), o = .returned r ∧ Q r c ∧ va_P G.2.2.1 vwCl (layG G c) t.heap ∧ va_F (FA G) st t
def AW (G : Gm) (K : Cx) (Q : Option Value → HP → Prop) (pc : Nat) (L : Nat → Option Value) (st : List Value) (c : HP) : Prop :=
  match K with
  | (p, l, e, R, s, m, args, below, meth, cd) => ∀ (H : Heap) (locs : List Loc) (ls : Array Slot), va_P G.2.2.1 vwCl (layG G c) H → va_S (FA G) s.heap H locs → lvf ls cd.maxLocals L →
      W p l e R s m args below meth cd H locs 0 0 (MQ below (PQ G Q) args s 0 0 (FA G)) (F0 m pc ls st)
def nsts : List (String × Nat × MethodName) := [(RX0, 43, yX8_parts), (RX5, 54, yX8_parts), (RX5, 92, yX8_isVariable), (RX7, 23, yX8_parts), (RX8, 9, yX6_init), (RX8, 30, yX4_init), (RX8, 37, yX5_init), (RX8, 44, yX2_init), (RX8, 51, yX1_init), (RX8, 58, yX7_init), (RX8, 65, yX3_init), (RX2, 11, yX0_init), (RX5, 11, yX4_init), (RX5, 23, yX6_init)]
def nsK (U : State) : Prop := ∀ q ∈ nsts, va_Nw (.methodLinkNest q.1 q.2.1 q.2.2 RX8) U
theorem nsK.warm {s U : State} (hW : s.WarmedH U.vm) (h : nsK s) : nsK U := fun q hq => va_Nw.warmM hW (h q hq)
theorem nsK.same {s U : State} (hv : s.vm = U.vm) (h : nsK s) : nsK U := fun q hq => va_Nw.same rfl hv (h q hq)
def Fx (l : Launch) (G : Gm) (K : Cx) (cc : ByteArray) (nL : Nat) (own : String) (ret : Option FieldType) (rm : Room) : Prop :=
  match K with
  | (p, l', _, R, s, m, args, _, meth, cd) => p.tables.exec = Jvm.exec ∧ cd.code = cc ∧ cd.maxLocals = nL ∧ s.vm.findClass own = some m.cls ∧ (∀ w ∈ wsL_law, w.before args s = true) ∧ va_K G.2.2.1 vwCl (tyG G) s ∧ injG G ∧ meth.sig.returnType = ret ∧ meth.locks = false ∧ R = rm ∧ l' = l ∧ nsK s
def Qi (Q : Int32 → HP → Prop) : Option Value → HP → Prop := fun r c => ∃ v : Int32, r = some (.int v) ∧ Q v c
def Ql (Q : Int64 → HP → Prop) : Option Value → HP → Prop := fun r c => ∃ v : Int64, r = some (.long v) ∧ Q v c
def Qr (G : Gm) (Q : Nat → HP → Prop) : Option Value → HP → Prop := fun r c => ∃ k : Nat, r = some (.ref (G.1 k)) ∧ Q k c
def Qv (Q : HP → Prop) : Option Value → HP → Prop := fun r c => r = none ∧ Q c
abbrev rmR (f lo : Nat) : Room := { frames := f, cells := 0, slots := 0, locals := lo }
def AMet (l : Launch) (G : Gm) (y : MethodName) (cc : ByteArray) (nL : Nat) (ret : Option FieldType) (rm : Room) (args : List Value) (c : HP) (Q : Option Value → HP → Prop) : Prop :=
  Met l y (.code y cc nL ret :: wsL_law) rm (va_Pc args (fun U => va_P G.2.2.1 vwCl (layG G c) U.heap ∧ va_K G.2.2.1 vwCl (tyG G) U ∧ nsK U)) (PQ G Q) 0 0 (FA G)
section AL
variable {l : Launch} {G : Gm} {K : Cx} {cc : ByteArray} {nL : Nat} {own : String} {ret : Option FieldType} {rm : Room} {Q : Option Value → HP → Prop} {pc q : Nat} {L : Nat → Option Value} {st : List Value} {c : HP}
/-- fewer locals -/
theorem AW.loc {l : List (Option Value)} (h : subL L 0 l) (k : AW G K Q pc (mkL l) st c) : AW G K Q pc L st c := by
  obtain ⟨p, l', e, R, s, m, args, below, meth, cd⟩ := K
  intro H locs ls hP hS hl
  obtain ⟨l2, h1, h2⟩ := hl
  exact k H locs ls hP hS ⟨l2, h1, fun i v hv => h2 i v (by have := subL_get _ 0 h i v hv; rwa [Nat.zero_add] at this)⟩

theorem A_iconst {n : Int} (X : Fx l G K cc nL own ret rm) (d : decode cc pc = .ok (.iconst n, 1)) (hq : pc + 1 = q)
    (kk : AW G K Q q (L) (.int (zI n) :: st) c) : AW G K Q pc L (st) c := by
  subst hq
  obtain ⟨p, l1, e, R, s, m, args, below, meth, cd⟩ := K
  obtain ⟨hx, hb, hml, hown, hts, hK, hinj, hr, hlocks, hR, hl1, hns⟩ := X
  intro H locs ls hP hS hl
  exact lv_iconst hx hb d rfl (kk H locs ls hP hS hl)
theorem A_bipush {n : Int} (X : Fx l G K cc nL own ret rm) (d : decode cc pc = .ok (.bipush n, 2)) (hv : (Int8.ofInt n).toInt32 = zI n) (hq : pc + 2 = q)
    (kk : AW G K Q q (L) (.int (zI n) :: st) c) : AW G K Q pc L (st) c := by
  subst hq
  obtain ⟨p, l1, e, R, s, m, args, below, meth, cd⟩ := K
  obtain ⟨hx, hb, hml, hown, hts, hK, hinj, hr, hlocks, hR, hl1, hns⟩ := X
  intro H locs ls hP hS hl
  exact lv_bipush hx hb d hv (kk H locs ls hP hS hl)
theorem A_sipush {n : Int} (X : Fx l G K cc nL own ret rm) (d : decode cc pc = .ok (.sipush n, 3)) (hv : (Int16.ofInt n).toInt32 = zI n) (hq : pc + 3 = q)
    (kk : AW G K Q q (L) (.int (zI n) :: st) c) : AW G K Q pc L (st) c := by
  subst hq
  obtain ⟨p, l1, e, R, s, m, args, below, meth, cd⟩ := K
  obtain ⟨hx, hb, hml, hown, hts, hK, hinj, hr, hlocks, hR, hl1, hns⟩ := X
  intro H locs ls hP hS hl
  exact lv_sipush hx hb d hv (kk H locs ls hP hS hl)
theorem A_lconst {n : Fin 2} {v : Int64} (X : Fx l G K cc nL own ret rm) (d : decode cc pc = .ok (.lconst n, 1)) (hv : Int64.ofNat (n : Nat) = v) (hq : pc + 1 = q)
    (kk : AW G K Q q (L) (.long v :: st) c) : AW G K Q pc L (st) c := by
  subst hq
  obtain ⟨p, l1, e, R, s, m, args, below, meth, cd⟩ := K
  obtain ⟨hx, hb, hml, hown, hts, hK, hinj, hr, hlocks, hR, hl1, hns⟩ := X
  intro H locs ls hP hS hl
  exact lv_lconst hx hb d hv (kk H locs ls hP hS hl)
theorem A_ldc {index : Nat} {v : Int32} {n : Int} (X : Fx l G K cc nL own ret rm) (d : decode cc pc = .ok (.ldc index, 2)) (hc : Cond.constant own index v ∈ wsL_law) (hv : v = zI n) (hq : pc + 2 = q)
    (kk : AW G K Q q (L) (.int (zI n) :: st) c) : AW G K Q pc L (st) c := by
  subst hq
  obtain ⟨p, l1, e, R, s, m, args, below, meth, cd⟩ := K
  obtain ⟨hx, hb, hml, hown, hts, hK, hinj, hr, hlocks, hR, hl1, hns⟩ := X
  intro H locs ls hP hS hl
  exact lv_ldc hx hb hown (hts _ hc) d (by rw [hv]; exact kk H locs ls hP hS hl)
theorem A_ldc2 {index : Nat} {v : Int64} (X : Fx l G K cc nL own ret rm) (d : decode cc pc = .ok (.ldc2_w index, 3)) (hc : Cond.constantLong own index v ∈ wsL_law) (hq : pc + 3 = q)
    (kk : AW G K Q q (L) (.long v :: st) c) : AW G K Q pc L (st) c := by
  subst hq
  obtain ⟨p, l1, e, R, s, m, args, below, meth, cd⟩ := K
  obtain ⟨hx, hb, hml, hown, hts, hK, hinj, hr, hlocks, hR, hl1, hns⟩ := X
  intro H locs ls hP hS hl
  exact lv_ldc2 hx hb hown (hts _ hc) d (kk H locs ls hP hS hl)
theorem A_iload_n {k : Fin 4} {x : Int32} (X : Fx l G K cc nL own ret rm) (d : decode cc pc = .ok (.iload_n k, 1)) (h : L (k : Nat) = some (.int x)) (hq : pc + 1 = q)
    (kk : AW G K Q q (L) (.int x :: st) c) : AW G K Q pc L (st) c := by
  subst hq
  obtain ⟨p, l1, e, R, s, m, args, below, meth, cd⟩ := K
  obtain ⟨hx, hb, hml, hown, hts, hK, hinj, hr, hlocks, hR, hl1, hns⟩ := X
  intro H locs ls hP hS hl
  exact lv_iload_n hx hb d rfl (lvf_at hl h) (kk H locs ls hP hS hl)
theorem A_iload {i : Nat} {x : Int32} (X : Fx l G K cc nL own ret rm) (d : decode cc pc = .ok (.iload i, 2)) (h : L i = some (.int x)) (hq : pc + 2 = q)
    (kk : AW G K Q q (L) (.int x :: st) c) : AW G K Q pc L (st) c := by
  subst hq
  obtain ⟨p, l1, e, R, s, m, args, below, meth, cd⟩ := K
  obtain ⟨hx, hb, hml, hown, hts, hK, hinj, hr, hlocks, hR, hl1, hns⟩ := X
  intro H locs ls hP hS hl
  exact lv_iload hx hb d (lvf_at hl h) (kk H locs ls hP hS hl)
theorem A_lload_n {k : Fin 4} {x : Int64} (X : Fx l G K cc nL own ret rm) (d : decode cc pc = .ok (.lload_n k, 1)) (h : L (k : Nat) = some (.long x)) (hq : pc + 1 = q)
    (kk : AW G K Q q (L) (.long x :: st) c) : AW G K Q pc L (st) c := by
  subst hq
  obtain ⟨p, l1, e, R, s, m, args, below, meth, cd⟩ := K
  obtain ⟨hx, hb, hml, hown, hts, hK, hinj, hr, hlocks, hR, hl1, hns⟩ := X
  intro H locs ls hP hS hl
  exact lv_lload_n hx hb d rfl (lvf_at hl h) (kk H locs ls hP hS hl)
theorem A_lload {i : Nat} {x : Int64} (X : Fx l G K cc nL own ret rm) (d : decode cc pc = .ok (.lload i, 2)) (h : L i = some (.long x)) (hq : pc + 2 = q)
    (kk : AW G K Q q (L) (.long x :: st) c) : AW G K Q pc L (st) c := by
  subst hq
  obtain ⟨p, l1, e, R, s, m, args, below, meth, cd⟩ := K
  obtain ⟨hx, hb, hml, hown, hts, hK, hinj, hr, hlocks, hR, hl1, hns⟩ := X
  intro H locs ls hP hS hl
  exact lv_lload hx hb d (lvf_at hl h) (kk H locs ls hP hS hl)
theorem A_aload_n {k : Fin 4} {x : Nat} (X : Fx l G K cc nL own ret rm) (d : decode cc pc = .ok (.aload_n k, 1)) (h : L (k : Nat) = some (.ref x)) (hq : pc + 1 = q)
    (kk : AW G K Q q (L) (.ref x :: st) c) : AW G K Q pc L (st) c := by
  subst hq
  obtain ⟨p, l1, e, R, s, m, args, below, meth, cd⟩ := K
  obtain ⟨hx, hb, hml, hown, hts, hK, hinj, hr, hlocks, hR, hl1, hns⟩ := X
  intro H locs ls hP hS hl
  exact lv_aload_n hx hb d rfl (lvf_at hl h) (kk H locs ls hP hS hl)
theorem A_aload {i : Nat} {x : Nat} (X : Fx l G K cc nL own ret rm) (d : decode cc pc = .ok (.aload i, 2)) (h : L i = some (.ref x)) (hq : pc + 2 = q)
    (kk : AW G K Q q (L) (.ref x :: st) c) : AW G K Q pc L (st) c := by
  subst hq
  obtain ⟨p, l1, e, R, s, m, args, below, meth, cd⟩ := K
  obtain ⟨hx, hb, hml, hown, hts, hK, hinj, hr, hlocks, hR, hl1, hns⟩ := X
  intro H locs ls hP hS hl
  exact lv_aload hx hb d (lvf_at hl h) (kk H locs ls hP hS hl)
theorem A_istore_n {k : Fin 4} {x : Int32} (X : Fx l G K cc nL own ret rm) (d : decode cc pc = .ok (.istore_n k, 1)) (hn : (k : Nat) < nL) (hp : okP L k) (hq : pc + 1 = q)
    (kk : AW G K Q q (stL L k (.int x)) (st) c) : AW G K Q pc L (.int x :: st) c := by
  subst hq
  obtain ⟨p, l1, e, R, s, m, args, below, meth, cd⟩ := K
  obtain ⟨hx, hb, hml, hown, hts, hK, hinj, hr, hlocks, hR, hl1, hns⟩ := X
  intro H locs ls hP hS hl
  obtain ⟨l2, h1, h2⟩ := hl
  exact lv_istore_n hx hb d rfl h1 (by rw [hml]; exact hn) rfl (fun ls' hl' => kk H locs ls' hP hS ⟨_, hl', lvf_st h2 hp⟩)
theorem A_istore {i : Nat} {x : Int32} (X : Fx l G K cc nL own ret rm) (d : decode cc pc = .ok (.istore i, 2)) (hn : i < nL) (hp : okP L i) (hq : pc + 2 = q)
    (kk : AW G K Q q (stL L i (.int x)) (st) c) : AW G K Q pc L (.int x :: st) c := by
  subst hq
  obtain ⟨p, l1, e, R, s, m, args, below, meth, cd⟩ := K
  obtain ⟨hx, hb, hml, hown, hts, hK, hinj, hr, hlocks, hR, hl1, hns⟩ := X
  intro H locs ls hP hS hl
  obtain ⟨l2, h1, h2⟩ := hl
  exact lv_istore hx hb d h1 (by rw [hml]; exact hn) rfl (fun ls' hl' => kk H locs ls' hP hS ⟨_, hl', lvf_st h2 hp⟩)
theorem A_astore_n {k : Fin 4} {x : Nat} (X : Fx l G K cc nL own ret rm) (d : decode cc pc = .ok (.astore_n k, 1)) (hn : (k : Nat) < nL) (hp : okP L k) (hq : pc + 1 = q)
    (kk : AW G K Q q (stL L k (.ref x)) (st) c) : AW G K Q pc L (.ref x :: st) c := by
  subst hq
  obtain ⟨p, l1, e, R, s, m, args, below, meth, cd⟩ := K
  obtain ⟨hx, hb, hml, hown, hts, hK, hinj, hr, hlocks, hR, hl1, hns⟩ := X
  intro H locs ls hP hS hl
  obtain ⟨l2, h1, h2⟩ := hl
  exact lv_astore_n hx hb d rfl h1 (by rw [hml]; exact hn) rfl (fun ls' hl' => kk H locs ls' hP hS ⟨_, hl', lvf_st h2 hp⟩)
theorem A_astore {i : Nat} {x : Nat} (X : Fx l G K cc nL own ret rm) (d : decode cc pc = .ok (.astore i, 2)) (hn : i < nL) (hp : okP L i) (hq : pc + 2 = q)
    (kk : AW G K Q q (stL L i (.ref x)) (st) c) : AW G K Q pc L (.ref x :: st) c := by
  subst hq
  obtain ⟨p, l1, e, R, s, m, args, below, meth, cd⟩ := K
  obtain ⟨hx, hb, hml, hown, hts, hK, hinj, hr, hlocks, hR, hl1, hns⟩ := X
  intro H locs ls hP hS hl
  obtain ⟨l2, h1, h2⟩ := hl
  exact lv_astore hx hb d h1 (by rw [hml]; exact hn) rfl (fun ls' hl' => kk H locs ls' hP hS ⟨_, hl', lvf_st h2 hp⟩)
theorem A_lstore_n {k : Fin 4} {x : Int64} (X : Fx l G K cc nL own ret rm) (d : decode cc pc = .ok (.lstore_n k, 1)) (hn : (k : Nat) + 1 < nL) (hp : okP L k) (hq : pc + 1 = q)
    (kk : AW G K Q q (stL2 L k (.long x)) (st) c) : AW G K Q pc L (.long x :: st) c := by
  subst hq
  obtain ⟨p, l1, e, R, s, m, args, below, meth, cd⟩ := K
  obtain ⟨hx, hb, hml, hown, hts, hK, hinj, hr, hlocks, hR, hl1, hns⟩ := X
  intro H locs ls hP hS hl
  obtain ⟨l2, h1, h2⟩ := hl
  exact lv_lstore_n hx hb d rfl h1 (by rw [hml]; exact hn) rfl (fun ls' hl' => kk H locs ls' hP hS ⟨_, hl', lvf_st2 h2 hp⟩)
theorem A_iinc {i : Nat} {n z : Int} (X : Fx l G K cc nL own ret rm) (d : decode cc pc = .ok (.iinc i n, 3)) (h : L i = some (.int (zI z))) (hn : i < nL) (hp : okP L i) (hq : pc + 3 = q)
    (kk : AW G K Q q (stL L i (.int (zI (z + n)))) (st) c) : AW G K Q pc L (st) c := by
  subst hq
  obtain ⟨p, l1, e, R, s, m, args, below, meth, cd⟩ := K
  obtain ⟨hx, hb, hml, hown, hts, hK, hinj, hr, hlocks, hR, hl1, hns⟩ := X
  intro H locs ls hP hS hl
  obtain ⟨l2, h1, h2⟩ := hl
  obtain ⟨k, hk⟩ := List.getElem?_of_mem (h2 i _ h)
  exact lv_iinc hx hb d h1 hk (v := zI (z + n)) (zI_add z n) (by rw [hml]; exact hn) rfl (fun ls' hl' => kk H locs ls' hP hS ⟨_, hl', lvf_st h2 hp⟩)
theorem A_iadd {x y : Int} (X : Fx l G K cc nL own ret rm) (d : decode cc pc = .ok (.iadd, 1)) (hq : pc + 1 = q)
    (kk : AW G K Q q (L) (.int (zI (x + y)) :: st) c) : AW G K Q pc L (.int (zI y) :: .int (zI x) :: st) c := by
  subst hq
  obtain ⟨p, l1, e, R, s, m, args, below, meth, cd⟩ := K
  obtain ⟨hx, hb, hml, hown, hts, hK, hinj, hr, hlocks, hR, hl1, hns⟩ := X
  intro H locs ls hP hS hl
  exact lv_iadd hx hb d (by rw [zI_add]; exact kk H locs ls hP hS hl)
theorem A_isub {x y : Int} (X : Fx l G K cc nL own ret rm) (d : decode cc pc = .ok (.isub, 1)) (hq : pc + 1 = q)
    (kk : AW G K Q q (L) (.int (zI (x - y)) :: st) c) : AW G K Q pc L (.int (zI y) :: .int (zI x) :: st) c := by
  subst hq
  obtain ⟨p, l1, e, R, s, m, args, below, meth, cd⟩ := K
  obtain ⟨hx, hb, hml, hown, hts, hK, hinj, hr, hlocks, hR, hl1, hns⟩ := X
  intro H locs ls hP hS hl
  exact lv_isub hx hb d (by rw [zI_sub]; exact kk H locs ls hP hS hl)
theorem A_imul {x y : Int} (X : Fx l G K cc nL own ret rm) (d : decode cc pc = .ok (.imul, 1)) (hq : pc + 1 = q)
    (kk : AW G K Q q (L) (.int (zI (x * y)) :: st) c) : AW G K Q pc L (.int (zI y) :: .int (zI x) :: st) c := by
  subst hq
  obtain ⟨p, l1, e, R, s, m, args, below, meth, cd⟩ := K
  obtain ⟨hx, hb, hml, hown, hts, hK, hinj, hr, hlocks, hR, hl1, hns⟩ := X
  intro H locs ls hP hS hl
  exact lv_imul hx hb d (by rw [zI_mul]; exact kk H locs ls hP hS hl)
theorem A_iand {x y : Int32} (X : Fx l G K cc nL own ret rm) (d : decode cc pc = .ok (.iand, 1)) (hq : pc + 1 = q)
    (kk : AW G K Q q (L) (.int (x &&& y) :: st) c) : AW G K Q pc L (.int y :: .int x :: st) c := by
  subst hq
  obtain ⟨p, l1, e, R, s, m, args, below, meth, cd⟩ := K
  obtain ⟨hx, hb, hml, hown, hts, hK, hinj, hr, hlocks, hR, hl1, hns⟩ := X
  intro H locs ls hP hS hl
  exact lv_iand hx hb d (kk H locs ls hP hS hl)
theorem A_ior {x y : Int32} (X : Fx l G K cc nL own ret rm) (d : decode cc pc = .ok (.ior, 1)) (hq : pc + 1 = q)
    (kk : AW G K Q q (L) (.int (x ||| y) :: st) c) : AW G K Q pc L (.int y :: .int x :: st) c := by
  subst hq
  obtain ⟨p, l1, e, R, s, m, args, below, meth, cd⟩ := K
  obtain ⟨hx, hb, hml, hown, hts, hK, hinj, hr, hlocks, hR, hl1, hns⟩ := X
  intro H locs ls hP hS hl
  exact lv_ior hx hb d (kk H locs ls hP hS hl)
theorem A_ishl {x y : Int32} (X : Fx l G K cc nL own ret rm) (d : decode cc pc = .ok (.ishl, 1)) (hq : pc + 1 = q)
    (kk : AW G K Q q (L) (.int (x <<< (y &&& 31)) :: st) c) : AW G K Q pc L (.int y :: .int x :: st) c := by
  subst hq
  obtain ⟨p, l1, e, R, s, m, args, below, meth, cd⟩ := K
  obtain ⟨hx, hb, hml, hown, hts, hK, hinj, hr, hlocks, hR, hl1, hns⟩ := X
  intro H locs ls hP hS hl
  exact lv_ishl hx hb d (kk H locs ls hP hS hl)
theorem zI_div {x y : Int} (hx : 0 ≤ x) (hx2 : rg x) (hy : 0 < y) (hy2 : rg y) : zI x / zI y = zI (x / y) := by
  obtain ⟨a, rfl⟩ := Int.eq_ofNat_of_zero_le hx
  obtain ⟨b, rfl⟩ := Int.eq_ofNat_of_zero_le (Int.le_of_lt hy)
  have h1 := hx2.2
  have h2 := hy2.2
  rw [← zI_nI, ← zI_nI, pk_div (by omega) (by omega) (by omega), zI_nI]
  rfl
theorem zI_rem {x y : Int} (hx : 0 ≤ x) (hx2 : rg x) (hy : 0 < y) (hy2 : rg y) : zI x - zI x / zI y * zI y = zI (x % y) := by
  rw [zI_div hx hx2 hy hy2, zI_mul, zI_sub]
  congr 1
  have := Int.emod_def x y
  rw [this, Int.mul_comm]
theorem A_idiv {x y : Int} (X : Fx l G K cc nL own ret rm) (d : decode cc pc = .ok (.idiv, 1)) (h1 : 0 ≤ x) (h2 : rg x) (h3 : 0 < y) (h4 : rg y) (hq : pc + 1 = q)
    (kk : AW G K Q q (L) (.int (zI (x / y)) :: st) c) : AW G K Q pc L (.int (zI y) :: .int (zI x) :: st) c := by
  subst hq
  obtain ⟨p, l1, e, R, s, m, args, below, meth, cd⟩ := K
  obtain ⟨hx, hb, hml, hown, hts, hK, hinj, hr, hlocks, hR, hl1, hns⟩ := X
  intro H locs ls hP hS hl
  exact lv_idiv hx hb d (by rw [zI_0, zI_eq h4 rg_0]; omega) (by rw [zI_div h1 h2 h3 h4]; exact kk H locs ls hP hS hl)
theorem A_irem {x y : Int} (X : Fx l G K cc nL own ret rm) (d : decode cc pc = .ok (.irem, 1)) (h1 : 0 ≤ x) (h2 : rg x) (h3 : 0 < y) (h4 : rg y) (hq : pc + 1 = q)
    (kk : AW G K Q q (L) (.int (zI (x % y)) :: st) c) : AW G K Q pc L (.int (zI y) :: .int (zI x) :: st) c := by
  subst hq
  obtain ⟨p, l1, e, R, s, m, args, below, meth, cd⟩ := K
  obtain ⟨hx, hb, hml, hown, hts, hK, hinj, hr, hlocks, hR, hl1, hns⟩ := X
  intro H locs ls hP hS hl
  exact lv_irem hx hb d (by rw [zI_0, zI_eq h4 rg_0]; omega) (by rw [zI_rem h1 h2 h3 h4]; exact kk H locs ls hP hS hl)
theorem A_ladd {x y : Int64} (X : Fx l G K cc nL own ret rm) (d : decode cc pc = .ok (.ladd, 1)) (hq : pc + 1 = q)
    (kk : AW G K Q q (L) (.long (x + y) :: st) c) : AW G K Q pc L (.long y :: .long x :: st) c := by
  subst hq
  obtain ⟨p, l1, e, R, s, m, args, below, meth, cd⟩ := K
  obtain ⟨hx, hb, hml, hown, hts, hK, hinj, hr, hlocks, hR, hl1, hns⟩ := X
  intro H locs ls hP hS hl
  exact lv_ladd hx hb d (kk H locs ls hP hS hl)
theorem A_lsub {x y : Int64} (X : Fx l G K cc nL own ret rm) (d : decode cc pc = .ok (.lsub, 1)) (hq : pc + 1 = q)
    (kk : AW G K Q q (L) (.long (x - y) :: st) c) : AW G K Q pc L (.long y :: .long x :: st) c := by
  subst hq
  obtain ⟨p, l1, e, R, s, m, args, below, meth, cd⟩ := K
  obtain ⟨hx, hb, hml, hown, hts, hK, hinj, hr, hlocks, hR, hl1, hns⟩ := X
  intro H locs ls hP hS hl
  exact lv_lsub hx hb d (kk H locs ls hP hS hl)
theorem A_lmul {x y : Int64} (X : Fx l G K cc nL own ret rm) (d : decode cc pc = .ok (.lmul, 1)) (hq : pc + 1 = q)
    (kk : AW G K Q q (L) (.long (x * y) :: st) c) : AW G K Q pc L (.long y :: .long x :: st) c := by
  subst hq
  obtain ⟨p, l1, e, R, s, m, args, below, meth, cd⟩ := K
  obtain ⟨hx, hb, hml, hown, hts, hK, hinj, hr, hlocks, hR, hl1, hns⟩ := X
  intro H locs ls hP hS hl
  exact lv_lmul hx hb d (kk H locs ls hP hS hl)
theorem A_land {x y : Int64} (X : Fx l G K cc nL own ret rm) (d : decode cc pc = .ok (.land, 1)) (hq : pc + 1 = q)
    (kk : AW G K Q q (L) (.long (x &&& y) :: st) c) : AW G K Q pc L (.long y :: .long x :: st) c := by
  subst hq
  obtain ⟨p, l1, e, R, s, m, args, below, meth, cd⟩ := K
  obtain ⟨hx, hb, hml, hown, hts, hK, hinj, hr, hlocks, hR, hl1, hns⟩ := X
  intro H locs ls hP hS hl
  exact lv_land hx hb d (kk H locs ls hP hS hl)
theorem A_lor {x y : Int64} (X : Fx l G K cc nL own ret rm) (d : decode cc pc = .ok (.lor, 1)) (hq : pc + 1 = q)
    (kk : AW G K Q q (L) (.long (x ||| y) :: st) c) : AW G K Q pc L (.long y :: .long x :: st) c := by
  subst hq
  obtain ⟨p, l1, e, R, s, m, args, below, meth, cd⟩ := K
  obtain ⟨hx, hb, hml, hown, hts, hK, hinj, hr, hlocks, hR, hl1, hns⟩ := X
  intro H locs ls hP hS hl
  exact lv_lor hx hb d (kk H locs ls hP hS hl)
theorem A_ldiv {x y : Int64} (X : Fx l G K cc nL own ret rm) (d : decode cc pc = .ok (.ldiv, 1)) (hne : ¬ y = 0) (hq : pc + 1 = q)
    (kk : AW G K Q q (L) (.long (x / y) :: st) c) : AW G K Q pc L (.long y :: .long x :: st) c := by
  subst hq
  obtain ⟨p, l1, e, R, s, m, args, below, meth, cd⟩ := K
  obtain ⟨hx, hb, hml, hown, hts, hK, hinj, hr, hlocks, hR, hl1, hns⟩ := X
  intro H locs ls hP hS hl
  exact lv_ldiv hx hb d hne (kk H locs ls hP hS hl)
theorem A_lrem {x y : Int64} (X : Fx l G K cc nL own ret rm) (d : decode cc pc = .ok (.lrem, 1)) (hne : ¬ y = 0) (hq : pc + 1 = q)
    (kk : AW G K Q q (L) (.long (x - x / y * y) :: st) c) : AW G K Q pc L (.long y :: .long x :: st) c := by
  subst hq
  obtain ⟨p, l1, e, R, s, m, args, below, meth, cd⟩ := K
  obtain ⟨hx, hb, hml, hown, hts, hK, hinj, hr, hlocks, hR, hl1, hns⟩ := X
  intro H locs ls hP hS hl
  exact lv_lrem hx hb d hne (kk H locs ls hP hS hl)
theorem A_i2l {x : Int32} (X : Fx l G K cc nL own ret rm) (d : decode cc pc = .ok (.i2l, 1)) (hq : pc + 1 = q)
    (kk : AW G K Q q (L) (.long x.toInt64 :: st) c) : AW G K Q pc L (.int x :: st) c := by
  subst hq
  obtain ⟨p, l1, e, R, s, m, args, below, meth, cd⟩ := K
  obtain ⟨hx, hb, hml, hown, hts, hK, hinj, hr, hlocks, hR, hl1, hns⟩ := X
  intro H locs ls hP hS hl
  exact lv_i2l hx hb d rfl (kk H locs ls hP hS hl)
theorem A_l2i {x : Int64} (X : Fx l G K cc nL own ret rm) (d : decode cc pc = .ok (.l2i, 1)) (hq : pc + 1 = q)
    (kk : AW G K Q q (L) (.int x.toInt32 :: st) c) : AW G K Q pc L (.long x :: st) c := by
  subst hq
  obtain ⟨p, l1, e, R, s, m, args, below, meth, cd⟩ := K
  obtain ⟨hx, hb, hml, hown, hts, hK, hinj, hr, hlocks, hR, hl1, hns⟩ := X
  intro H locs ls hP hS hl
  exact lv_l2i hx hb d rfl (kk H locs ls hP hS hl)
theorem A_lushr {x : Int64} {y : Int32} (X : Fx l G K cc nL own ret rm) (d : decode cc pc = .ok (.lushr, 1)) (hq : pc + 1 = q)
    (kk : AW G K Q q (L) (.long (x.toUInt64 >>> (y.toInt64.toUInt64 &&& Int64.toUInt64 63)).toInt64 :: st) c) : AW G K Q pc L (.int y :: .long x :: st) c := by
  subst hq
  obtain ⟨p, l1, e, R, s, m, args, below, meth, cd⟩ := K
  obtain ⟨hx, hb, hml, hown, hts, hK, hinj, hr, hlocks, hR, hl1, hns⟩ := X
  intro H locs ls hP hS hl
  exact lv_lushr hx hb d rfl (kk H locs ls hP hS hl)
theorem A_lshl {x : Int64} {y : Int32} (X : Fx l G K cc nL own ret rm) (d : decode cc pc = .ok (.lshl, 1)) (hq : pc + 1 = q)
    (kk : AW G K Q q (L) (.long (x <<< (y.toInt64 &&& 63)) :: st) c) : AW G K Q pc L (.int y :: .long x :: st) c := by
  subst hq
  obtain ⟨p, l1, e, R, s, m, args, below, meth, cd⟩ := K
  obtain ⟨hx, hb, hml, hown, hts, hK, hinj, hr, hlocks, hR, hl1, hns⟩ := X
  intro H locs ls hP hS hl
  exact lv_lshl hx hb d rfl (kk H locs ls hP hS hl)
theorem A_lcmp {x y : Int64} (X : Fx l G K cc nL own ret rm) (d : decode cc pc = .ok (.lcmp, 1)) (hq : pc + 1 = q)
    (kk : AW G K Q q (L) (.int (lg_cmp x y) :: st) c) : AW G K Q pc L (.long y :: .long x :: st) c := by
  subst hq
  obtain ⟨p, l1, e, R, s, m, args, below, meth, cd⟩ := K
  obtain ⟨hx, hb, hml, hown, hts, hK, hinj, hr, hlocks, hR, hl1, hns⟩ := X
  intro H locs ls hP hS hl
  exact W.lcmp hx hb d (kk H locs ls hP hS hl)
theorem A_dup {v : Value} (X : Fx l G K cc nL own ret rm) (d : decode cc pc = .ok (.dup, 1)) (h1 : v.category = 1) (hq : pc + 1 = q)
    (kk : AW G K Q q (L) (v :: v :: st) c) : AW G K Q pc L (v :: st) c := by
  subst hq
  obtain ⟨p, l1, e, R, s, m, args, below, meth, cd⟩ := K
  obtain ⟨hx, hb, hml, hown, hts, hK, hinj, hr, hlocks, hR, hl1, hns⟩ := X
  intro H locs ls hP hS hl
  exact lv_dup hx hb d h1 (kk H locs ls hP hS hl)
theorem A_pop {v : Value} (X : Fx l G K cc nL own ret rm) (d : decode cc pc = .ok (.pop, 1)) (h1 : v.category = 1) (hq : pc + 1 = q)
    (kk : AW G K Q q (L) (st) c) : AW G K Q pc L (v :: st) c := by
  subst hq
  obtain ⟨p, l1, e, R, s, m, args, below, meth, cd⟩ := K
  obtain ⟨hx, hb, hml, hown, hts, hK, hinj, hr, hlocks, hR, hl1, hns⟩ := X
  intro H locs ls hP hS hl
  exact lv_pop hx hb d h1 (kk H locs ls hP hS hl)
theorem A_dup2 {v u : Value} (X : Fx l G K cc nL own ret rm) (d : decode cc pc = .ok (.dup2, 1)) (h1 : v.category = 1) (h2 : u.category = 1) (hq : pc + 1 = q)
    (kk : AW G K Q q (L) (v :: u :: v :: u :: st) c) : AW G K Q pc L (v :: u :: st) c := by
  subst hq
  obtain ⟨p, l1, e, R, s, m, args, below, meth, cd⟩ := K
  obtain ⟨hx, hb, hml, hown, hts, hK, hinj, hr, hlocks, hR, hl1, hns⟩ := X
  intro H locs ls hP hS hl
  exact lv_dup2_11 hx hb d h1 h2 (kk H locs ls hP hS hl)
theorem A_goto {off : Int} (X : Fx l G K cc nL own ret rm) (d : decode cc pc = .ok (.goto off, 3)) (ht : (pc : Int) + off = (q : Int)) (kk : AW G K Q q L st c) : AW G K Q pc L st c := by
  obtain ⟨p, l1, e, R, s, m, args, below, meth, cd⟩ := K
  obtain ⟨hx, hb, hml, hown, hts, hK, hinj, hr, hlocks, hR, hl1, hns⟩ := X
  intro H locs ls hP hS hl
  exact lv_goto hx hb d ht (kk H locs ls hP hS hl)
theorem A_icmp_eq {x y : Int} {off : Int} {t : Nat} (X : Fx l G K cc nL own ret rm) (d : decode cc pc = .ok (.if_icmp .eq off, 3)) (h1 : rg x) (h2 : rg y) (ht : (pc : Int) + off = (t : Int)) (hq : pc + 3 = q)
    (kt : x = y → AW G K Q t L st c) (kf : ¬ (x = y) → AW G K Q q L st c) : AW G K Q pc L (.int (zI y) :: .int (zI x) :: st) c := by
  subst hq
  obtain ⟨p, l1, e, R, s, m, args, below, meth, cd⟩ := K
  obtain ⟨hx, hb, hml, hown, hts, hK, hinj, hr, hlocks, hR, hl1, hns⟩ := X
  intro H locs ls hP hS hl
  refine lv_icmp_eq hx hb d ht (fun hh => kt ?_ H locs ls hP hS hl) (fun hh => kf ?_ H locs ls hP hS hl)
  · rw [zI_eq h1 h2] at hh
    exact hh
  · rw [zI_eq h1 h2] at hh
    exact hh
theorem A_if_eq {x : Int} {off : Int} {t : Nat} (X : Fx l G K cc nL own ret rm) (d : decode cc pc = .ok (.ifCond .eq off, 3)) (h1 : rg x) (ht : (pc : Int) + off = (t : Int)) (hq : pc + 3 = q)
    (kt : x = 0 → AW G K Q t L st c) (kf : ¬ (x = 0) → AW G K Q q L st c) : AW G K Q pc L (.int (zI x) :: st) c := by
  subst hq
  obtain ⟨p, l1, e, R, s, m, args, below, meth, cd⟩ := K
  obtain ⟨hx, hb, hml, hown, hts, hK, hinj, hr, hlocks, hR, hl1, hns⟩ := X
  intro H locs ls hP hS hl
  refine lv_if_eq hx hb d ht (fun hh => kt ?_ H locs ls hP hS hl) (fun hh => kf ?_ H locs ls hP hS hl)
  · rw [zI_0, zI_eq h1 rg_0] at hh
    exact hh
  · rw [zI_0, zI_eq h1 rg_0] at hh
    exact hh
theorem A_icmp_ne {x y : Int} {off : Int} {t : Nat} (X : Fx l G K cc nL own ret rm) (d : decode cc pc = .ok (.if_icmp .ne off, 3)) (h1 : rg x) (h2 : rg y) (ht : (pc : Int) + off = (t : Int)) (hq : pc + 3 = q)
    (kt : x ≠ y → AW G K Q t L st c) (kf : ¬ (x ≠ y) → AW G K Q q L st c) : AW G K Q pc L (.int (zI y) :: .int (zI x) :: st) c := by
  subst hq
  obtain ⟨p, l1, e, R, s, m, args, below, meth, cd⟩ := K
  obtain ⟨hx, hb, hml, hown, hts, hK, hinj, hr, hlocks, hR, hl1, hns⟩ := X
  intro H locs ls hP hS hl
  refine lv_icmp_ne hx hb d ht (fun hh => kt ?_ H locs ls hP hS hl) (fun hh => kf ?_ H locs ls hP hS hl)
  · intro z
    exact hh (by rw [zI_eq h1 h2]; exact z)
  · intro z
    rw [zI_eq h1 h2] at hh
    exact z hh
theorem A_if_ne {x : Int} {off : Int} {t : Nat} (X : Fx l G K cc nL own ret rm) (d : decode cc pc = .ok (.ifCond .ne off, 3)) (h1 : rg x) (ht : (pc : Int) + off = (t : Int)) (hq : pc + 3 = q)
    (kt : x ≠ 0 → AW G K Q t L st c) (kf : ¬ (x ≠ 0) → AW G K Q q L st c) : AW G K Q pc L (.int (zI x) :: st) c := by
  subst hq
  obtain ⟨p, l1, e, R, s, m, args, below, meth, cd⟩ := K
  obtain ⟨hx, hb, hml, hown, hts, hK, hinj, hr, hlocks, hR, hl1, hns⟩ := X
  intro H locs ls hP hS hl
  refine lv_if_ne hx hb d ht (fun hh => kt ?_ H locs ls hP hS hl) (fun hh => kf ?_ H locs ls hP hS hl)
  · intro z
    exact hh (by rw [zI_0, zI_eq h1 rg_0]; exact z)
  · intro z
    rw [zI_0, zI_eq h1 rg_0] at hh
    exact z hh
theorem A_icmp_lt {x y : Int} {off : Int} {t : Nat} (X : Fx l G K cc nL own ret rm) (d : decode cc pc = .ok (.if_icmp .lt off, 3)) (h1 : rg x) (h2 : rg y) (ht : (pc : Int) + off = (t : Int)) (hq : pc + 3 = q)
    (kt : x < y → AW G K Q t L st c) (kf : ¬ (x < y) → AW G K Q q L st c) : AW G K Q pc L (.int (zI y) :: .int (zI x) :: st) c := by
  subst hq
  obtain ⟨p, l1, e, R, s, m, args, below, meth, cd⟩ := K
  obtain ⟨hx, hb, hml, hown, hts, hK, hinj, hr, hlocks, hR, hl1, hns⟩ := X
  intro H locs ls hP hS hl
  refine lv_icmp_lt hx hb d ht (fun hh => kt ?_ H locs ls hP hS hl) (fun hh => kf ?_ H locs ls hP hS hl)
  · rw [zI_lt h1 h2] at hh
    exact hh
  · rw [zI_lt h1 h2] at hh
    exact hh
theorem A_if_lt {x : Int} {off : Int} {t : Nat} (X : Fx l G K cc nL own ret rm) (d : decode cc pc = .ok (.ifCond .lt off, 3)) (h1 : rg x) (ht : (pc : Int) + off = (t : Int)) (hq : pc + 3 = q)
    (kt : x < 0 → AW G K Q t L st c) (kf : ¬ (x < 0) → AW G K Q q L st c) : AW G K Q pc L (.int (zI x) :: st) c := by
  subst hq
  obtain ⟨p, l1, e, R, s, m, args, below, meth, cd⟩ := K
  obtain ⟨hx, hb, hml, hown, hts, hK, hinj, hr, hlocks, hR, hl1, hns⟩ := X
  intro H locs ls hP hS hl
  refine lv_if_lt hx hb d ht (fun hh => kt ?_ H locs ls hP hS hl) (fun hh => kf ?_ H locs ls hP hS hl)
  · rw [zI_0, zI_lt h1 rg_0] at hh
    exact hh
  · rw [zI_0, zI_lt h1 rg_0] at hh
    exact hh
theorem A_icmp_ge {x y : Int} {off : Int} {t : Nat} (X : Fx l G K cc nL own ret rm) (d : decode cc pc = .ok (.if_icmp .ge off, 3)) (h1 : rg x) (h2 : rg y) (ht : (pc : Int) + off = (t : Int)) (hq : pc + 3 = q)
    (kt : y ≤ x → AW G K Q t L st c) (kf : ¬ (y ≤ x) → AW G K Q q L st c) : AW G K Q pc L (.int (zI y) :: .int (zI x) :: st) c := by
  subst hq
  obtain ⟨p, l1, e, R, s, m, args, below, meth, cd⟩ := K
  obtain ⟨hx, hb, hml, hown, hts, hK, hinj, hr, hlocks, hR, hl1, hns⟩ := X
  intro H locs ls hP hS hl
  refine lv_icmp_ge hx hb d ht (fun hh => kt ?_ H locs ls hP hS hl) (fun hh => kf ?_ H locs ls hP hS hl)
  · rw [zI_le h2 h1] at hh
    exact hh
  · rw [zI_le h2 h1] at hh
    exact hh
theorem A_if_ge {x : Int} {off : Int} {t : Nat} (X : Fx l G K cc nL own ret rm) (d : decode cc pc = .ok (.ifCond .ge off, 3)) (h1 : rg x) (ht : (pc : Int) + off = (t : Int)) (hq : pc + 3 = q)
    (kt : 0 ≤ x → AW G K Q t L st c) (kf : ¬ (0 ≤ x) → AW G K Q q L st c) : AW G K Q pc L (.int (zI x) :: st) c := by
  subst hq
  obtain ⟨p, l1, e, R, s, m, args, below, meth, cd⟩ := K
  obtain ⟨hx, hb, hml, hown, hts, hK, hinj, hr, hlocks, hR, hl1, hns⟩ := X
  intro H locs ls hP hS hl
  refine lv_if_ge hx hb d ht (fun hh => kt ?_ H locs ls hP hS hl) (fun hh => kf ?_ H locs ls hP hS hl)
  · rw [zI_0, zI_le rg_0 h1] at hh
    exact hh
  · rw [zI_0, zI_le rg_0 h1] at hh
    exact hh
theorem A_icmp_gt {x y : Int} {off : Int} {t : Nat} (X : Fx l G K cc nL own ret rm) (d : decode cc pc = .ok (.if_icmp .gt off, 3)) (h1 : rg x) (h2 : rg y) (ht : (pc : Int) + off = (t : Int)) (hq : pc + 3 = q)
    (kt : y < x → AW G K Q t L st c) (kf : ¬ (y < x) → AW G K Q q L st c) : AW G K Q pc L (.int (zI y) :: .int (zI x) :: st) c := by
  subst hq
  obtain ⟨p, l1, e, R, s, m, args, below, meth, cd⟩ := K
  obtain ⟨hx, hb, hml, hown, hts, hK, hinj, hr, hlocks, hR, hl1, hns⟩ := X
  intro H locs ls hP hS hl
  refine lv_icmp_gt hx hb d ht (fun hh => kt ?_ H locs ls hP hS hl) (fun hh => kf ?_ H locs ls hP hS hl)
  · rw [zI_lt h2 h1] at hh
    exact hh
  · rw [zI_lt h2 h1] at hh
    exact hh
theorem A_if_gt {x : Int} {off : Int} {t : Nat} (X : Fx l G K cc nL own ret rm) (d : decode cc pc = .ok (.ifCond .gt off, 3)) (h1 : rg x) (ht : (pc : Int) + off = (t : Int)) (hq : pc + 3 = q)
    (kt : 0 < x → AW G K Q t L st c) (kf : ¬ (0 < x) → AW G K Q q L st c) : AW G K Q pc L (.int (zI x) :: st) c := by
  subst hq
  obtain ⟨p, l1, e, R, s, m, args, below, meth, cd⟩ := K
  obtain ⟨hx, hb, hml, hown, hts, hK, hinj, hr, hlocks, hR, hl1, hns⟩ := X
  intro H locs ls hP hS hl
  refine lv_if_gt hx hb d ht (fun hh => kt ?_ H locs ls hP hS hl) (fun hh => kf ?_ H locs ls hP hS hl)
  · rw [zI_0, zI_lt rg_0 h1] at hh
    exact hh
  · rw [zI_0, zI_lt rg_0 h1] at hh
    exact hh
theorem A_icmp_le {x y : Int} {off : Int} {t : Nat} (X : Fx l G K cc nL own ret rm) (d : decode cc pc = .ok (.if_icmp .le off, 3)) (h1 : rg x) (h2 : rg y) (ht : (pc : Int) + off = (t : Int)) (hq : pc + 3 = q)
    (kt : x ≤ y → AW G K Q t L st c) (kf : ¬ (x ≤ y) → AW G K Q q L st c) : AW G K Q pc L (.int (zI y) :: .int (zI x) :: st) c := by
  subst hq
  obtain ⟨p, l1, e, R, s, m, args, below, meth, cd⟩ := K
  obtain ⟨hx, hb, hml, hown, hts, hK, hinj, hr, hlocks, hR, hl1, hns⟩ := X
  intro H locs ls hP hS hl
  refine lv_icmp_le hx hb d ht (fun hh => kt ?_ H locs ls hP hS hl) (fun hh => kf ?_ H locs ls hP hS hl)
  · rw [zI_le h1 h2] at hh
    exact hh
  · rw [zI_le h1 h2] at hh
    exact hh
theorem A_if_le {x : Int} {off : Int} {t : Nat} (X : Fx l G K cc nL own ret rm) (d : decode cc pc = .ok (.ifCond .le off, 3)) (h1 : rg x) (ht : (pc : Int) + off = (t : Int)) (hq : pc + 3 = q)
    (kt : x ≤ 0 → AW G K Q t L st c) (kf : ¬ (x ≤ 0) → AW G K Q q L st c) : AW G K Q pc L (.int (zI x) :: st) c := by
  subst hq
  obtain ⟨p, l1, e, R, s, m, args, below, meth, cd⟩ := K
  obtain ⟨hx, hb, hml, hown, hts, hK, hinj, hr, hlocks, hR, hl1, hns⟩ := X
  intro H locs ls hP hS hl
  refine lv_if_le hx hb d ht (fun hh => kt ?_ H locs ls hP hS hl) (fun hh => kf ?_ H locs ls hP hS hl)
  · rw [zI_0, zI_le h1 rg_0] at hh
    exact hh
  · rw [zI_0, zI_le h1 rg_0] at hh
    exact hh
theorem A_tableIn {dflt lo hi : Int} {offs : Array Int} {len : Nat} {x : Int} {off : Int} (X : Fx l G K cc nL own ret rm) (d : decode cc pc = .ok (.tableswitch dflt lo hi offs, len)) (h0 : rg x) (h1 : lo ≤ x) (h2 : x ≤ hi) (ho : offs[(x - lo).toNat]? = some off) (ht : (pc : Int) + off = (q : Int)) (kk : AW G K Q q L st c) : AW G K Q pc L (.int (zI x) :: st) c := by
  obtain ⟨p, l1, e, R, s, m, args, below, meth, cd⟩ := K
  obtain ⟨hx, hb, hml, hown, hts, hK, hinj, hr, hlocks, hR, hl1, hns⟩ := X
  intro H locs ls hP hS hl
  exact lv_tableIn hx hb d (by rw [zI_toInt h0]; omega) (by rw [zI_toInt h0]; omega) (by rw [zI_toInt h0]; exact ho) ht (kk H locs ls hP hS hl)
theorem A_tableOut {dflt lo hi : Int} {offs : Array Int} {len : Nat} {x : Int} (X : Fx l G K cc nL own ret rm) (d : decode cc pc = .ok (.tableswitch dflt lo hi offs, len)) (h0 : rg x) (h1 : x < lo ∨ hi < x) (ht : (pc : Int) + dflt = (q : Int)) (kk : AW G K Q q L st c) : AW G K Q pc L (.int (zI x) :: st) c := by
  obtain ⟨p, l1, e, R, s, m, args, below, meth, cd⟩ := K
  obtain ⟨hx, hb, hml, hown, hts, hK, hinj, hr, hlocks, hR, hl1, hns⟩ := X
  intro H locs ls hP hS hl
  exact lv_tableOut hx hb d (by rw [zI_toInt h0]; omega) ht (kk H locs ls hP hS hl)
/-- a field's link out of a class's pool: class ci, slot k -/
def FL (own : String) (idx ci k : Nat) : Prop := ∃ (C : String) (T : u_T) (N : Nat) (ty0 : Nat → FieldType), vwCl[ci]? = some (C, T, N) ∧ k < N ∧ (∀ w ∈ u_ws C T N, w ∈ wsL_law) ∧ Cond.fieldLink own idx (T k).1 (T k).2.1 (T k).2.2.1 ∈ wsL_law ∧ (∀ k, k < N → parseFieldDescriptor (T k).2.2.1 = some (ty0 k)) ∧ (∀ a, a < N → ∀ b, b < N → a ≠ b → (T a).2.1 ≠ (T b).2.1)
/-- the same of a field that may be put, with its type -/
def FP (own : String) (idx ci k : Nat) (ty : FieldType) : Prop := ∃ (C : String) (T : u_T) (N : Nat) (ty0 : Nat → FieldType), vwCl[ci]? = some (C, T, N) ∧ k < N ∧ (∀ w ∈ u_ws C T N, w ∈ wsL_law) ∧ Cond.fieldLink own idx (T k).1 (T k).2.1 (T k).2.2.1 ∈ wsL_law ∧ (∀ k, k < N → parseFieldDescriptor (T k).2.2.1 = some (ty0 k)) ∧ (∀ a, a < N → ∀ b, b < N → a ≠ b → (T a).2.1 ≠ (T b).2.1) ∧ (T k).2.2.2 = false ∧ ty0 k = ty
theorem A_getf {idx ci k h : Nat} {fs : List Value} {v : Value} (X : Fx l G K cc nL own ret rm) (f : FL own idx ci k) (d : decode cc pc = .ok (.getfield idx, 3)) (hN : h < G.2.1) (hc : c h = .inr (ci, fs)) (hv : fs[k]? = some v) (hq : pc + 3 = q)
    (kk : AW G K Q q L (v :: st) c) : AW G K Q pc L (.ref (G.1 h) :: st) c := by
  subst hq
  obtain ⟨p, l1, e, R, s, m, args, below, meth, cd⟩ := K
  obtain ⟨hx, hb, hml, hown, hts, hK, hinj, hr, hlocks, hR, hl1, hns⟩ := X
  intro H locs ls hP hS hl
  obtain ⟨C, T, N, ty0, f1, f2, f3, f4, f5, f6⟩ := f
  exact va_get (q0 := h) hx hb hts f3 hown hK hP (by rw [layG_get hN, hc]) f1 k f2 (hts _ f4) (fun _ h9 => h9) hv d (kk H locs ls hP hS hl)
theorem A_putf {idx ci k h : Nat} {fs : List Value} {v : Value} {ty : FieldType} (X : Fx l G K cc nL own ret rm) (f : FP own idx ci k ty) (d : decode cc pc = .ok (.putfield idx, 3)) (hN : h < G.2.1) (hc : c h = .inr (ci, fs)) (hl0 : k < fs.length) (hn : narrow ty v = v) (hf : fits ty v = true) (hq : pc + 3 = q)
    (kk : AW G K Q q L st (va_up c h (.inr (ci, fs.set k v)))) : AW G K Q pc L (v :: .ref (G.1 h) :: st) c := by
  subst hq
  obtain ⟨p, l1, e, R, s, m, args, below, meth, cd⟩ := K
  obtain ⟨hx, hb, hml, hown, hts, hK, hinj, hr, hlocks, hR, hl1, hns⟩ := X
  intro H locs ls hP hS hl
  obtain ⟨C, T, N, ty0, f1, f2, f3, f4, f5, f6, f7, f8⟩ := f
  refine va_put (q0 := h) (ty := ty) hx hb hts f3 ty0 f5 f6 hown hK hP (layG_D hinj c) hS (by rw [layG_get hN, hc]) f1 k f2 (hts _ f4) (fun _ h9 => h9) f7 (by rw [← f8]; exact f5 k f2) hn hf hl0 d (fun H1 locs1 hP1 _ hS1 => ?_)
  rw [layG_set hN] at hP1
  exact kk H1 locs1 ls hP1 hS1 hl
theorem bz_ok {z : Int} (h : z = 0 ∨ z = 1) : narrow .boolean (.int (zI z)) = .int (zI z) ∧ fits .boolean (.int (zI z)) = true := by
  rcases h with rfl | rfl <;> exact ⟨by decide, by decide⟩
theorem A_iald {h n : Nat} {F : Nat → Int} {i : Int} (k : Nat) (X : Fx l G K cc nL own ret rm) (d : decode cc pc = .ok (.iaload, 1)) (hN : h < G.2.1) (hc : c h = aI G n F) (hi : i = (k : Int)) (hk : k < n) (hn : n < 2147483648) (hq : pc + 1 = q)
    (kk : AW G K Q q L (.int (zI (F k)) :: st) c) : AW G K Q pc L (.int (zI i) :: .ref (G.1 h) :: st) c := by
  subst hq
  obtain ⟨p, l1, e, R, s, m, args, below, meth, cd⟩ := K
  obtain ⟨hx, hb, hml, hown, hts, hK, hinj, hr, hlocks, hR, hl1, hns⟩ := X
  intro H locs ls hP hS hl
  refine va_iald (q0 := h) (t0 := 0) hx hb hK hP (by rw [layG_get hN, hc]) rfl (zI_in hi hk hn) d ?_
  have e1 : (zI i).toNatClampNeg = k := by rw [hi]; exact zI_cl (by omega)
  rw [e1]
  exact kk H locs ls hP hS hl
theorem A_zald {h n : Nat} {F : Nat → Int} {i : Int} (k : Nat) (X : Fx l G K cc nL own ret rm) (d : decode cc pc = .ok (.baload, 1)) (hN : h < G.2.1) (hc : c h = aZ G n F) (hi : i = (k : Int)) (hk : k < n) (hn : n < 2147483648) (hq : pc + 1 = q)
    (kk : AW G K Q q L (.int (zI (F k)) :: st) c) : AW G K Q pc L (.int (zI i) :: .ref (G.1 h) :: st) c := by
  subst hq
  obtain ⟨p, l1, e, R, s, m, args, below, meth, cd⟩ := K
  obtain ⟨hx, hb, hml, hown, hts, hK, hinj, hr, hlocks, hR, hl1, hns⟩ := X
  intro H locs ls hP hS hl
  refine va_zald (q0 := h) (t0 := 1) hx hb hK hP (by rw [layG_get hN, hc]) rfl (zI_in hi hk hn) d ?_
  have e1 : (zI i).toNatClampNeg = k := by rw [hi]; exact zI_cl (by omega)
  rw [e1]
  exact kk H locs ls hP hS hl
theorem A_iast {h n : Nat} {F : Nat → Int} {i v : Int} (k : Nat) (X : Fx l G K cc nL own ret rm) (d : decode cc pc = .ok (.iastore, 1)) (hN : h < G.2.1) (hc : c h = aI G n F) (hi : i = (k : Int)) (hk : k < n) (hn : n < 2147483648) (hq : pc + 1 = q)
    (kk : AW G K Q q L st (va_up c h (aI G n (va_up F k v)))) : AW G K Q pc L (.int (zI v) :: .int (zI i) :: .ref (G.1 h) :: st) c := by
  subst hq
  obtain ⟨p, l1, e, R, s, m, args, below, meth, cd⟩ := K
  obtain ⟨hx, hb, hml, hown, hts, hK, hinj, hr, hlocks, hR, hl1, hns⟩ := X
  intro H locs ls hP hS hl
  refine va_iast (q0 := h) (t0 := 0) hx hb hK hP (layG_D hinj c) hS (by rw [layG_get hN, hc]) rfl (zI_in hi hk hn) d (fun H1 locs1 hP1 _ hS1 => ?_)
  have e1 : (zI i).toNatClampNeg = k := by rw [hi]; exact zI_cl (by omega)
  rw [layG_set hN, e1, upd_zI] at hP1
  exact kk H1 locs1 ls hP1 hS1 hl
theorem A_zast {h n : Nat} {F : Nat → Int} {i v : Int} (k : Nat) (X : Fx l G K cc nL own ret rm) (d : decode cc pc = .ok (.bastore, 1)) (hN : h < G.2.1) (hc : c h = aZ G n F) (hi : i = (k : Int)) (hk : k < n) (hn : n < 2147483648) (hv : v = 0 ∨ v = 1) (hq : pc + 1 = q)
    (kk : AW G K Q q L st (va_up c h (aZ G n (va_up F k v)))) : AW G K Q pc L (.int (zI v) :: .int (zI i) :: .ref (G.1 h) :: st) c := by
  subst hq
  obtain ⟨p, l1, e, R, s, m, args, below, meth, cd⟩ := K
  obtain ⟨hx, hb, hml, hown, hts, hK, hinj, hr, hlocks, hR, hl1, hns⟩ := X
  intro H locs ls hP hS hl
  refine va_zast (q0 := h) (t0 := 1) hx hb hK hP (layG_D hinj c) hS (by rw [layG_get hN, hc]) rfl (zI_in hi hk hn) d (fun H1 locs1 hP1 _ hS1 => ?_)
  have e1 : (zI i).toNatClampNeg = k := by rw [hi]; exact zI_cl (by omega)
  have e2 : vp_nar .boolean (zI v) = zI v := by rcases hv with rfl | rfl <;> decide
  rw [layG_set hN, e1, e2, upd_zI] at hP1
  exact kk H1 locs1 ls hP1 hS1 hl
theorem A_aald {h n : Nat} {f : Nat → Nat} {i : Int} (k : Nat) (X : Fx l G K cc nL own ret rm) (d : decode cc pc = .ok (.aaload, 1)) (hN : h < G.2.1) (hc : c h = aQ G n f) (hi : i = (k : Int)) (hk : k < n) (hn : n < 2147483648) (hq : pc + 1 = q)
    (kk : AW G K Q q L (.ref (G.1 (f k)) :: st) c) : AW G K Q pc L (.int (zI i) :: .ref (G.1 h) :: st) c := by
  subst hq
  obtain ⟨p, l1, e, R, s, m, args, below, meth, cd⟩ := K
  obtain ⟨hx, hb, hml, hown, hts, hK, hinj, hr, hlocks, hR, hl1, hns⟩ := X
  intro H locs ls hP hS hl
  have hin := zI_in hi hk hn
  have e1 : (zI i).toNatClampNeg = k := by rw [hi]; exact zI_cl (by omega)
  have ha : (layG G c)[h]? = some (G.1 h, aQ G n f) := by rw [layG_get hN, hc]
  have hlt : (zI i).toNatClampNeg < n := by rw [e1]; exact hk
  refine W.aald (v := va_rf (some (G.1 (f (zI i).toNatClampNeg)))) (ty := .array .int) hx hb (hP h _ ha) ((hK.2 2 _ rfl).1 n (fun j => va_rf (some (G.1 (f j))))) rfl (fun q => by cases q) (by show ¬ (zI i < 0 ∨ (arrV _ _ _).slots.size ≤ _); rw [arrV_size]; exact hin) (by show (arrV _ _ _).slots[_]? = _; rw [arrV_read _ _ hlt]) rfl rfl d ?_
  rw [e1]
  exact kk H locs ls hP hS hl
theorem A_ireturn {Qm : Int32 → HP → Prop} {v : Int32} (X : Fx l G K cc nL own (some .int) rm) (d : decode cc pc = .ok (.ireturn, 1)) (hq : Qm v c) : AW G K (Qi Qm) pc L [.int v] c := by
  obtain ⟨p, l1, e, R, s, m, args, below, meth, cd⟩ := K
  obtain ⟨hx, hb, hml, hown, hts, hK, hinj, hr, hlocks, hR, hl1, hns⟩ := X
  intro H locs ls hP hS hl
  exact W.iret hx hb hr (fun t ht hW => ⟨_, c, rfl, ⟨v, rfl, hq⟩, by rw [ht]; exact hP, hS.F ht⟩) hS.2.2 d hlocks
theorem A_zreturn {Qm : Int32 → HP → Prop} {z : Int} (X : Fx l G K cc nL own (some .boolean) rm) (d : decode cc pc = .ok (.ireturn, 1)) (hz : z = 0 ∨ z = 1) (hq : Qm (zI z) c) : AW G K (Qi Qm) pc L [.int (zI z)] c := by
  obtain ⟨p, l1, e, R, s, m, args, below, meth, cd⟩ := K
  obtain ⟨hx, hb, hml, hown, hts, hK, hinj, hr, hlocks, hR, hl1, hns⟩ := X
  intro H locs ls hP hS hl
  exact W.zret hx hb hr (bz_ok hz).1 (fun t ht hW => ⟨_, c, rfl, ⟨zI z, rfl, hq⟩, by rw [ht]; exact hP, hS.F ht⟩) hS.2.2 d hlocks
theorem A_lreturn {Qm : Int64 → HP → Prop} {v : Int64} (X : Fx l G K cc nL own (some .long) rm) (d : decode cc pc = .ok (.lreturn, 1)) (hq : Qm v c) : AW G K (Ql Qm) pc L [.long v] c := by
  obtain ⟨p, l1, e, R, s, m, args, below, meth, cd⟩ := K
  obtain ⟨hx, hb, hml, hown, hts, hK, hinj, hr, hlocks, hR, hl1, hns⟩ := X
  intro H locs ls hP hS hl
  exact W.lret hx hb hr (fun t ht hW => ⟨_, c, rfl, ⟨v, rfl, hq⟩, by rw [ht]; exact hP, hS.F ht⟩) hS.2.2 d hlocks
theorem A_return {Qm : HP → Prop} (X : Fx l G K cc nL own none rm) (d : decode cc pc = .ok (.return_, 1)) (hq : Qm c) : AW G K (Qv Qm) pc L [] c := by
  obtain ⟨p, l1, e, R, s, m, args, below, meth, cd⟩ := K
  obtain ⟨hx, hb, hml, hown, hts, hK, hinj, hr, hlocks, hR, hl1, hns⟩ := X
  intro H locs ls hP hS hl
  exact W.vret hx hb hr (fun t ht hW => ⟨_, c, rfl, ⟨rfl, hq⟩, by rw [ht]; exact hP, hS.F ht⟩) hS.2.2 d hlocks
theorem A_areturn {Qm : Nat → HP → Prop} {k : Nat} {n : String} (X : Fx l G K cc nL own (some (.object n)) rm) (d : decode cc pc = .ok (.areturn, 1)) (hq : Qm k c) : AW G K (Qr G Qm) pc L [.ref (G.1 k)] c := by
  obtain ⟨p, l1, e, R, s, m, args, below, meth, cd⟩ := K
  obtain ⟨hx, hb, hml, hown, hts, hK, hinj, hr, hlocks, hR, hl1, hns⟩ := X
  intro H locs ls hP hS hl
  exact W.aret hx hb hr (Or.inl ⟨n, rfl⟩) (Or.inr ⟨_, rfl⟩) (fun t ht hW => ⟨_, c, rfl, ⟨k, rfl, hq⟩, by rw [ht]; exact hP, hS.F ht⟩) hS.2.2 d hlocks
theorem zI_max {x y : Int} (h1 : rg x) (h2 : rg y) : (if zI x < zI y then zI y else zI x : Int32) = zI (max x y) := by
  by_cases h : x < y
  · rw [if_pos ((zI_lt h1 h2).mpr h)]
    congr 1
    omega
  · rw [if_neg (fun z => h ((zI_lt h1 h2).mp z))]
    congr 1
    omega
theorem A_mmax {idx : Nat} {x y : Int} (X : Fx l G K cc nL own ret rm) (d : decode cc pc = .ok (.invokestatic idx, 3)) (hk1 : Cond.methodLink own idx Lib.Math.max.name ∈ wsL_law) (hk2 : Cond.static Lib.Math.max.name ∈ wsL_law) (hk3 : Cond.initialized "java/lang/Math" ∈ wsL_law) (hk4 : Cond.code Lib.Math.max.name Lib.Math.max.code 2 (some .int) ∈ wsL_law) (h1 : rg x) (h2 : rg y) (hr1 : 1 ≤ rm.frames) (hr2 : (st.map fun v => v.category).sum + 13 ≤ rm.locals) (hq : pc + 3 = q)
    (kk : AW G K Q q L (.int (zI (max x y)) :: st) c) : AW G K Q pc L (.int (zI y) :: .int (zI x) :: st) c := by
  subst hq
  obtain ⟨p, l1, e, R, s, m, args, below, meth, cd⟩ := K
  obtain ⟨hx, hb, hml, hown, hts, hK, hinj, hr, hlocks, hR, hl1, hns⟩ := X
  intro H locs ls hP hS hl
  subst hR
  have hsz : cd.maxLocals = ls.size := by obtain ⟨l2, g1, -⟩ := hl; exact g1.1.symm
  refine va_mmax hx hb hsz hown (hts _ hk1) (hts _ hk2) (hts _ hk3) (hts _ hk4) hr1 hr2 (Nat.zero_le _) (Nat.zero_le _) d ?_
  rw [zI_max h1 h2]
  exact kk H locs ls hP hS hl
theorem zI_min {x y : Int} (h1 : rg x) (h2 : rg y) : (if zI y < zI x then zI y else zI x : Int32) = zI (min x y) := by
  by_cases h : y < x
  · rw [if_pos ((zI_lt h2 h1).mpr h)]
    congr 1
    omega
  · rw [if_neg (fun z => h ((zI_lt h2 h1).mp z))]
    congr 1
    omega
theorem A_mmin {idx : Nat} {x y : Int} (X : Fx l G K cc nL own ret rm) (d : decode cc pc = .ok (.invokestatic idx, 3)) (hk1 : Cond.methodLink own idx Lib.Math.min.name ∈ wsL_law) (hk2 : Cond.static Lib.Math.min.name ∈ wsL_law) (hk3 : Cond.initialized "java/lang/Math" ∈ wsL_law) (hk4 : Cond.code Lib.Math.min.name Lib.Math.min.code 2 (some .int) ∈ wsL_law) (h1 : rg x) (h2 : rg y) (hr1 : 1 ≤ rm.frames) (hr2 : (st.map fun v => v.category).sum + 13 ≤ rm.locals) (hq : pc + 3 = q)
    (kk : AW G K Q q L (.int (zI (min x y)) :: st) c) : AW G K Q pc L (.int (zI y) :: .int (zI x) :: st) c := by
  subst hq
  obtain ⟨p, l1, e, R, s, m, args, below, meth, cd⟩ := K
  obtain ⟨hx, hb, hml, hown, hts, hK, hinj, hr, hlocks, hR, hl1, hns⟩ := X
  intro H locs ls hP hS hl
  subst hR
  have hsz : cd.maxLocals = ls.size := by obtain ⟨l2, g1, -⟩ := hl; exact g1.1.symm
  refine va_mmin hx hb hsz hown (hts _ hk1) (hts _ hk2) (hts _ hk3) (hts _ hk4) hr1 hr2 (Nat.zero_le _) (Nat.zero_le _) d ?_
  rw [zI_min h1 h2]
  exact kk H locs ls hP hS hl
theorem cpy_zI (F E : Nat → Int) (sp dp n : Nat) : va_cpy (fun k => zI (F k)) (fun k => zI (E k)) sp dp n = fun k => zI (va_cpy F E sp dp n k) := by
  funext k
  unfold va_cpy
  split <;> rfl
theorem A_copy {idx h0 h1 n0 n1 : Nat} {F E : Nat → Int} {i j len : Int} (sp dp n : Nat) (X : Fx l G K cc nL own ret rm) (d : decode cc pc = .ok (.invokestatic idx, 3)) (hk1 : Cond.methodLink own idx arraycopyName ∈ wsL_law) (hk2 : Cond.native arraycopyName ∈ wsL_law) (hk3 : Cond.static arraycopyName ∈ wsL_law) (hk4 : Cond.initialized "java/lang/System" ∈ wsL_law)
    (hN0 : h0 < G.2.1) (hN1 : h1 < G.2.1) (hc0 : c h0 = aI G n0 F) (hc1 : c h1 = aI G n1 E) (hi : i = (sp : Int)) (hj : j = (dp : Int)) (hn : len = (n : Int)) (hs0 : sp + n ≤ n0) (hs1 : dp + n ≤ n1) (hn0 : n0 < 2147483648) (hn1 : n1 < 2147483648) (hr1 : 1 ≤ rm.frames) (hr2 : (st.map fun v => v.category).sum + (nativeFrameWords "java/lang/System" "arraycopy" 5 + 11) ≤ rm.locals) (hq : pc + 3 = q)
    (kk : AW G K Q q L st (va_up c h1 (aI G n1 (va_cpy F E sp dp n)))) : AW G K Q pc L (.int (zI len) :: .int (zI j) :: .ref (G.1 h1) :: .int (zI i) :: .ref (G.1 h0) :: st) c := by
  subst hq
  subst hi
  subst hj
  subst hn
  obtain ⟨p, l1, e, R, s, m, args, below, meth, cd⟩ := K
  obtain ⟨hx, hb, hml, hown, hts, hK, hinj, hr, hlocks, hR, hl1, hns⟩ := X
  intro H locs ls hP hS hl
  subst hR
  have hsz : cd.maxLocals = ls.size := by obtain ⟨l2, g1, -⟩ := hl; exact g1.1.symm
  have e1 : (zI sp).toNatClampNeg = sp := zI_cl (by omega)
  have e2 : (zI dp).toNatClampNeg = dp := zI_cl (by omega)
  have e3 : (zI n).toNatClampNeg = n := zI_cl (by omega)
  have e4 : ∀ u : Nat, u < 2147483648 → ¬ zI u < 0 := fun u hu => by rw [zI_0, zI_lt ⟨by omega, by omega⟩ rg_0]; omega
  refine va_copyi (q0 := h0) (q1 := h1) (t0 := 0) (t1 := 0) (ty := .int) hx hb hsz hown (hts _ hk1) (hts _ hk2) (hts _ hk3) (hts _ hk4) hK hP (layG_D hinj c) hS (by rw [layG_get hN0, hc0]) (by rw [layG_get hN1, hc1]) rfl rfl rfl (e4 sp (by omega)) (e4 dp (by omega)) (e4 n (by omega)) (by rw [e1, e3]; exact hs0) (by rw [e2, e3]; exact hs1) (fun _ _ => rfl) hr1 hr2 d (fun H1 locs1 hP1 _ hS1 => ?_)
  rw [layG_set hN1, e1, e2, e3, cpy_zI] at hP1
  exact kk H1 locs1 ls hP1 hS1 hl
end AL
end
section
/-! calls, and a method from its entry -/
theorem gw_all : wsL_law.all goodWord = true := by decide +kernel
theorem gw_in {y : MethodName} {cc : ByteArray} {nL : Nat} {ret : Option FieldType} (h : Cond.code y cc nL ret ∈ wsL_law) : GoodIn wsL_law (.code y cc nL ret :: wsL_law) := fun w hw => by
  have hm : w ∈ wsL_law := by
    rcases List.mem_cons.mp hw with e | e
    · rw [e]; exact h
    · exact e
  exact ⟨hm, good_of_word (List.all_eq_true.mp gw_all w hm)⟩
/-- what the tables say of a method that is called: as an object's method, as a static one -/
def MV (y : MethodName) (cc : ByteArray) (nL : Nat) (ret : Option FieldType) (n : Nat) : Prop := Cond.code y cc nL ret ∈ wsL_law ∧ Cond.initialized y.cls ∈ wsL_law ∧ Cond.instanceMethod y ∈ wsL_law ∧ Cond.selects y.cls y y ∈ wsL_law ∧ y.cls ≠ "java/lang/invoke/MethodHandle" ∧ y.cls ≠ "java/lang/invoke/VarHandle" ∧ (parseMethodDescriptor y.desc).map (fun d => d.parameters.length) = some n
def MS (y : MethodName) (cc : ByteArray) (nL : Nat) (ret : Option FieldType) (n : Nat) : Prop := Cond.code y cc nL ret ∈ wsL_law ∧ Cond.initialized y.cls ∈ wsL_law ∧ Cond.static y ∈ wsL_law ∧ y.cls ≠ "java/lang/invoke/MethodHandle" ∧ y.cls ≠ "java/lang/invoke/VarHandle" ∧ (parseMethodDescriptor y.desc).map (fun d => d.parameters.length) = some n
theorem pre_blind {G : Gm} {args : List Value} {c : HP} : FrameBlind (va_Pc args (fun U => va_P G.2.2.1 vwCl (layG G c) U.heap ∧ va_K G.2.2.1 vwCl (tyG G) U ∧ nsK U)) := by
  intro a U g mk h
  obtain ⟨h0, h1, h2, h3⟩ := h
  exact ⟨h0, h1, va_K.moved (u := U) (U := U.calling g mk a) (Vm.Alike.refl U.vm) h2, nsK.same rfl h3⟩
section AC
variable {l : Launch} {G : Gm} {K : Cx} {cc : ByteArray} {nL : Nat} {own : String} {ret : Option FieldType} {rm : Room} {Q : Option Value → HP → Prop} {pc q : Nat} {L : Nat → Option Value} {st : List Value} {c : HP}
theorem A_run {p : Program} {e : Env} {R : Room} {s : State} {m : MethodId} {args : Array Value} {below : List Frame} {meth : Method} {cd : Code} {H : Heap} {locs : List Loc} {ls : Array Slot} {st0 rest : List Value} {Qm : Option Value → HP → Prop} {a : Array Value} {QQ : State → Prop}
    (hr : va_Run p l e R s m args below meth cd H locs 0 0 0 0 (F0 m pc ls st0) rest (PQ G Qm a) (FA G)) (hS : va_S (FA G) s.heap H locs)
    (kk : ∀ (r : Option Value) (c' : HP) (H1 : Heap) (locs1 : List Loc), Qm r c' → va_P G.2.2.1 vwCl (layG G c') H1 → va_S (FA G) s.heap H1 locs1 → W p l e R s m args below meth cd H1 locs1 0 0 QQ (F0 m (pc + 3) ls (r.toList ++ rest))) :
    W p l e R s m args below meth cd H locs 0 0 QQ (F0 m pc ls st0) := by
  intro T hT X
  obtain ⟨v, st₀, t, T', L1, h0, X', hL, e1, e2, ⟨r, c', hv, hq, hp, hz, hk⟩, st1⟩ := hr T hT X
  cases hv
  rw [h0] at hz hk
  obtain ⟨t2, a1, b1⟩ := kk v c' T'.heap (locs ++ L1) hq (by rw [e1]; exact hp)
    ⟨Nat.le_trans hS.1 (by rw [e1]; exact hz), fun q h1 h2 => by rw [e1, hk q (Nat.lt_of_lt_of_le h1 hS.1) h2]; exact hS.2.1 q h1 h2, fun q hq => by
      rcases List.mem_append.mp hq with h | h
      · exact hS.2.2 q h
      · exact hL q h⟩ T' rfl X'
  exact ⟨t2, st1 t2 a1, b1⟩
variable {y : MethodName} {cy : ByteArray} {nY f0 l0 : Nat} {rY : Option FieldType} {idx : Nat} {Qm : Option Value → HP → Prop} {n : Nat}
theorem A_callV {b ci : Nat} {fs : List Value} {T : u_T} {N : Nat} {As rest st0 : List Value} (X : Fx l G K cc nL own ret rm) (hM : AMet l G y cy nY rY (rmR f0 l0) (.ref (G.1 b) :: As) c Qm) (mv : MV y cy nY rY n) (lk : Cond.methodLink own idx y ∈ wsL_law) (hN : b < G.2.1) (hc : c b = .inr (ci, fs)) (hcl : vwCl[ci]? = some (y.cls, T, N)) (hR : f0 + 1 ≤ rm.frames ∧ 8 + (nY + 11) + l0 ≤ rm.locals)
    (hn : As.length = n) (hst : st0 = As.reverse ++ .ref (G.1 b) :: rest) (hW : (rest.map fun v => v.category).sum ≤ 8) (d : decode cc pc = .ok (.invokevirtual idx, 3)) (hq : pc + 3 = q)
    (kk : ∀ (r : Option Value) (c' : HP), Qm r c' → AW G K Q q L (r.toList ++ rest) c') : AW G K Q pc L st0 c := by
  subst hq
  obtain ⟨p, l1, e, R, s, m, args, below, meth, cd⟩ := K
  obtain ⟨hx, hb, hml, hown, hts, hK, hinj, hr, hlocks, hR1, hl1, hns⟩ := X
  subst hl1
  subst hR1
  obtain ⟨v1, v2, v3, v4, v5, v6, v7⟩ := mv
  intro H locs ls hP hS hl
  have hsz : ls.size = nL := by obtain ⟨l2, g1, -⟩ := hl; rw [g1.1]; exact hml
  refine A_run (va_runV (C := y.cls) (As := As) (b := G.1 b) (rest := rest) (Ts := wsL_law) (n := n) ⟨hx, hb, hml, hown, hts⟩ hM
    ⟨callB_of (rm := rmR f0 l0) (mc := 0) (ms := 0) n hts (gw_in v1) rfl rfl rfl (hts _ v2) (hts _ lk) ⟨v5, v6, v7⟩ hR, hts _ v3, hts _ v4⟩
    ⟨pre_blind, va_recv hK hP hcl (q0 := b) (by rw [layG_get hN, hc]), fun U hU hW => ⟨rfl, by rw [hU]; exact hP, va_K.moved hW.alike hK, hns.warm hW⟩⟩
    rfl hn hsz hst (lv_room hW) d ⟨Nat.zero_le _, Nat.zero_le _⟩) hS (fun r c' H1 locs1 hq hP1 hS1 => kk r c' hq H1 locs1 ls hP1 hS1 hl)
theorem A_callS {As rest st0 : List Value} (X : Fx l G K cc nL own ret rm) (hM : AMet l G y cy nY rY (rmR f0 l0) As c Qm) (mv : MS y cy nY rY n) (lk : Cond.methodLink own idx y ∈ wsL_law) (hR : f0 + 1 ≤ rm.frames ∧ 8 + (nY + 11) + l0 ≤ rm.locals)
    (hn : As.length = n) (hst : st0 = As.reverse ++ rest) (hW : (rest.map fun v => v.category).sum ≤ 8) (d : decode cc pc = .ok (.invokestatic idx, 3)) (hq : pc + 3 = q)
    (kk : ∀ (r : Option Value) (c' : HP), Qm r c' → AW G K Q q L (r.toList ++ rest) c') : AW G K Q pc L st0 c := by
  subst hq
  obtain ⟨p, l1, e, R, s, m, args, below, meth, cd⟩ := K
  obtain ⟨hx, hb, hml, hown, hts, hK, hinj, hr, hlocks, hR1, hl1, hns⟩ := X
  subst hl1
  subst hR1
  obtain ⟨v1, v2, v3, v5, v6, v7⟩ := mv
  intro H locs ls hP hS hl
  have hsz : ls.size = nL := by obtain ⟨l2, g1, -⟩ := hl; rw [g1.1]; exact hml
  refine A_run (va_runS (As := As) (rest := rest) (Ts := wsL_law) (n := n) ⟨hx, hb, hml, hown, hts⟩ hM
    ⟨callB_of (rm := rmR f0 l0) (mc := 0) (ms := 0) n hts (gw_in v1) rfl rfl rfl (hts _ v2) (hts _ lk) ⟨v5, v6, v7⟩ hR, hts _ v3⟩
    ⟨pre_blind, fun U hU hW => ⟨rfl, by rw [hU]; exact hP, va_K.moved hW.alike hK, hns.warm hW⟩⟩
    rfl hn hsz hst (lv_room hW) d ⟨Nat.zero_le _, Nat.zero_le _⟩) hS (fun r c' H1 locs1 hq hP1 hS1 => kk r c' hq H1 locs1 ls hP1 hS1 hl)
/-- a nest mate's private static method -/
theorem A_callN {As rest st0 : List Value} (X : Fx l G K cc nL own ret rm) (hM : AMet l G y cy nY rY (rmR f0 l0) As c Qm) (mv : MS y cy nY rY n) (lk : (own, idx, y) ∈ nsts) (hR : f0 + 1 ≤ rm.frames ∧ 8 + (nY + 11) + l0 ≤ rm.locals)
    (hn : As.length = n) (hst : st0 = As.reverse ++ rest) (hW : (rest.map fun v => v.category).sum ≤ 8) (d : decode cc pc = .ok (.invokestatic idx, 3)) (hq : pc + 3 = q)
    (kk : ∀ (r : Option Value) (c' : HP), Qm r c' → AW G K Q q L (r.toList ++ rest) c') : AW G K Q pc L st0 c := by
  subst hq
  obtain ⟨p, l1, e, R, s, m, args, below, meth, cd⟩ := K
  obtain ⟨hx, hb, hml, hown, hts, hK, hinj, hr, hlocks, hR1, hl1, hns⟩ := X
  subst hl1
  subst hR1
  obtain ⟨v1, v2, v3, v5, v6, v7⟩ := mv
  intro H locs ls hP hS hl
  have hsz : ls.size = nL := by obtain ⟨l2, g1, -⟩ := hl; rw [g1.1]; exact hml
  refine A_run (va_runSN (host := RX8) (As := As) (rest := rest) (Ts := wsL_law) (n := n) ⟨hx, hb, hml, hown, hts⟩ hM
    ⟨va_cnB (rm := rmR f0 l0) (mc := 0) (ms := 0) n hts (gw_in v1) rfl rfl rfl (hns _ lk) (hts _ v2) ⟨v5, v6, v7⟩ hR, hts _ v3, trivial⟩
    ⟨pre_blind, fun U hU hW => ⟨rfl, by rw [hU]; exact hP, va_K.moved hW.alike hK, hns.warm hW⟩⟩
    rfl hn hsz hst (lv_room hW) d ⟨Nat.zero_le _, Nat.zero_le _⟩) hS (fun r c' H1 locs1 hq hP1 hS1 => kk r c' hq H1 locs1 ls hP1 hS1 hl)

theorem A_V0i {b ci : Nat} {fs : List Value} {T : u_T} {N : Nat} {Qn : Int32 → HP → Prop} (X : Fx l G K cc nL own ret rm) (hM : AMet l G y cy nY rY (rmR f0 l0) (.ref (G.1 b) :: []) c (Qi Qn)) (mv : MV y cy nY rY 0) (lk : Cond.methodLink own idx y ∈ wsL_law) (d : decode cc pc = .ok (.invokevirtual idx, 3)) (hN : b < G.2.1) (hc : c b = .inr (ci, fs)) (hcl : vwCl[ci]? = some (y.cls, T, N)) (hR : f0 + 1 ≤ rm.frames ∧ 8 + (nY + 11) + l0 ≤ rm.locals) (hW : (st.map fun v => v.category).sum ≤ 8) (hq : pc + 3 = q)
    (kk : ∀ (v : Int32) (c' : HP), Qn v c' → AW G K Q q L (.int v :: st) c') : AW G K Q pc L (.ref (G.1 b) :: st) c :=
  A_callV (As := []) X hM mv lk hN hc hcl hR rfl rfl hW d hq (fun r c' h => by obtain ⟨v, rfl, h⟩ := h; exact kk v c' h)
theorem A_V0v {b ci : Nat} {fs : List Value} {T : u_T} {N : Nat} {Qn : HP → Prop} (X : Fx l G K cc nL own ret rm) (hM : AMet l G y cy nY rY (rmR f0 l0) (.ref (G.1 b) :: []) c (Qv Qn)) (mv : MV y cy nY rY 0) (lk : Cond.methodLink own idx y ∈ wsL_law) (d : decode cc pc = .ok (.invokevirtual idx, 3)) (hN : b < G.2.1) (hc : c b = .inr (ci, fs)) (hcl : vwCl[ci]? = some (y.cls, T, N)) (hR : f0 + 1 ≤ rm.frames ∧ 8 + (nY + 11) + l0 ≤ rm.locals) (hW : (st.map fun v => v.category).sum ≤ 8) (hq : pc + 3 = q)
    (kk : ∀ c' : HP, Qn c' → AW G K Q q L st c') : AW G K Q pc L (.ref (G.1 b) :: st) c :=
  A_callV (As := []) X hM mv lk hN hc hcl hR rfl rfl hW d hq (fun r c' h => by obtain ⟨rfl, h⟩ := h; exact kk c' h)
theorem A_V1i {b ci : Nat} {fs : List Value} {T : u_T} {N : Nat} {a1 : Value} {Qn : Int32 → HP → Prop} (X : Fx l G K cc nL own ret rm) (hM : AMet l G y cy nY rY (rmR f0 l0) (.ref (G.1 b) :: [a1]) c (Qi Qn)) (mv : MV y cy nY rY 1) (lk : Cond.methodLink own idx y ∈ wsL_law) (d : decode cc pc = .ok (.invokevirtual idx, 3)) (hN : b < G.2.1) (hc : c b = .inr (ci, fs)) (hcl : vwCl[ci]? = some (y.cls, T, N)) (hR : f0 + 1 ≤ rm.frames ∧ 8 + (nY + 11) + l0 ≤ rm.locals) (hW : (st.map fun v => v.category).sum ≤ 8) (hq : pc + 3 = q)
    (kk : ∀ (v : Int32) (c' : HP), Qn v c' → AW G K Q q L (.int v :: st) c') : AW G K Q pc L (a1 :: .ref (G.1 b) :: st) c :=
  A_callV (As := [a1]) X hM mv lk hN hc hcl hR rfl rfl hW d hq (fun r c' h => by obtain ⟨v, rfl, h⟩ := h; exact kk v c' h)
theorem A_V1v {b ci : Nat} {fs : List Value} {T : u_T} {N : Nat} {a1 : Value} {Qn : HP → Prop} (X : Fx l G K cc nL own ret rm) (hM : AMet l G y cy nY rY (rmR f0 l0) (.ref (G.1 b) :: [a1]) c (Qv Qn)) (mv : MV y cy nY rY 1) (lk : Cond.methodLink own idx y ∈ wsL_law) (d : decode cc pc = .ok (.invokevirtual idx, 3)) (hN : b < G.2.1) (hc : c b = .inr (ci, fs)) (hcl : vwCl[ci]? = some (y.cls, T, N)) (hR : f0 + 1 ≤ rm.frames ∧ 8 + (nY + 11) + l0 ≤ rm.locals) (hW : (st.map fun v => v.category).sum ≤ 8) (hq : pc + 3 = q)
    (kk : ∀ c' : HP, Qn c' → AW G K Q q L st c') : AW G K Q pc L (a1 :: .ref (G.1 b) :: st) c :=
  A_callV (As := [a1]) X hM mv lk hN hc hcl hR rfl rfl hW d hq (fun r c' h => by obtain ⟨rfl, h⟩ := h; exact kk c' h)
theorem A_V2i {b ci : Nat} {fs : List Value} {T : u_T} {N : Nat} {a1 a2 : Value} {Qn : Int32 → HP → Prop} (X : Fx l G K cc nL own ret rm) (hM : AMet l G y cy nY rY (rmR f0 l0) (.ref (G.1 b) :: [a1, a2]) c (Qi Qn)) (mv : MV y cy nY rY 2) (lk : Cond.methodLink own idx y ∈ wsL_law) (d : decode cc pc = .ok (.invokevirtual idx, 3)) (hN : b < G.2.1) (hc : c b = .inr (ci, fs)) (hcl : vwCl[ci]? = some (y.cls, T, N)) (hR : f0 + 1 ≤ rm.frames ∧ 8 + (nY + 11) + l0 ≤ rm.locals) (hW : (st.map fun v => v.category).sum ≤ 8) (hq : pc + 3 = q)
    (kk : ∀ (v : Int32) (c' : HP), Qn v c' → AW G K Q q L (.int v :: st) c') : AW G K Q pc L (a2 :: a1 :: .ref (G.1 b) :: st) c :=
  A_callV (As := [a1, a2]) X hM mv lk hN hc hcl hR rfl rfl hW d hq (fun r c' h => by obtain ⟨v, rfl, h⟩ := h; exact kk v c' h)
theorem A_V2v {b ci : Nat} {fs : List Value} {T : u_T} {N : Nat} {a1 a2 : Value} {Qn : HP → Prop} (X : Fx l G K cc nL own ret rm) (hM : AMet l G y cy nY rY (rmR f0 l0) (.ref (G.1 b) :: [a1, a2]) c (Qv Qn)) (mv : MV y cy nY rY 2) (lk : Cond.methodLink own idx y ∈ wsL_law) (d : decode cc pc = .ok (.invokevirtual idx, 3)) (hN : b < G.2.1) (hc : c b = .inr (ci, fs)) (hcl : vwCl[ci]? = some (y.cls, T, N)) (hR : f0 + 1 ≤ rm.frames ∧ 8 + (nY + 11) + l0 ≤ rm.locals) (hW : (st.map fun v => v.category).sum ≤ 8) (hq : pc + 3 = q)
    (kk : ∀ c' : HP, Qn c' → AW G K Q q L st c') : AW G K Q pc L (a2 :: a1 :: .ref (G.1 b) :: st) c :=
  A_callV (As := [a1, a2]) X hM mv lk hN hc hcl hR rfl rfl hW d hq (fun r c' h => by obtain ⟨rfl, h⟩ := h; exact kk c' h)
theorem A_V3i {b ci : Nat} {fs : List Value} {T : u_T} {N : Nat} {a1 a2 a3 : Value} {Qn : Int32 → HP → Prop} (X : Fx l G K cc nL own ret rm) (hM : AMet l G y cy nY rY (rmR f0 l0) (.ref (G.1 b) :: [a1, a2, a3]) c (Qi Qn)) (mv : MV y cy nY rY 3) (lk : Cond.methodLink own idx y ∈ wsL_law) (d : decode cc pc = .ok (.invokevirtual idx, 3)) (hN : b < G.2.1) (hc : c b = .inr (ci, fs)) (hcl : vwCl[ci]? = some (y.cls, T, N)) (hR : f0 + 1 ≤ rm.frames ∧ 8 + (nY + 11) + l0 ≤ rm.locals) (hW : (st.map fun v => v.category).sum ≤ 8) (hq : pc + 3 = q)
    (kk : ∀ (v : Int32) (c' : HP), Qn v c' → AW G K Q q L (.int v :: st) c') : AW G K Q pc L (a3 :: a2 :: a1 :: .ref (G.1 b) :: st) c :=
  A_callV (As := [a1, a2, a3]) X hM mv lk hN hc hcl hR rfl rfl hW d hq (fun r c' h => by obtain ⟨v, rfl, h⟩ := h; exact kk v c' h)
theorem A_V3v {b ci : Nat} {fs : List Value} {T : u_T} {N : Nat} {a1 a2 a3 : Value} {Qn : HP → Prop} (X : Fx l G K cc nL own ret rm) (hM : AMet l G y cy nY rY (rmR f0 l0) (.ref (G.1 b) :: [a1, a2, a3]) c (Qv Qn)) (mv : MV y cy nY rY 3) (lk : Cond.methodLink own idx y ∈ wsL_law) (d : decode cc pc = .ok (.invokevirtual idx, 3)) (hN : b < G.2.1) (hc : c b = .inr (ci, fs)) (hcl : vwCl[ci]? = some (y.cls, T, N)) (hR : f0 + 1 ≤ rm.frames ∧ 8 + (nY + 11) + l0 ≤ rm.locals) (hW : (st.map fun v => v.category).sum ≤ 8) (hq : pc + 3 = q)
    (kk : ∀ c' : HP, Qn c' → AW G K Q q L st c') : AW G K Q pc L (a3 :: a2 :: a1 :: .ref (G.1 b) :: st) c :=
  A_callV (As := [a1, a2, a3]) X hM mv lk hN hc hcl hR rfl rfl hW d hq (fun r c' h => by obtain ⟨rfl, h⟩ := h; exact kk c' h)
theorem A_V4i {b ci : Nat} {fs : List Value} {T : u_T} {N : Nat} {a1 a2 a3 a4 : Value} {Qn : Int32 → HP → Prop} (X : Fx l G K cc nL own ret rm) (hM : AMet l G y cy nY rY (rmR f0 l0) (.ref (G.1 b) :: [a1, a2, a3, a4]) c (Qi Qn)) (mv : MV y cy nY rY 4) (lk : Cond.methodLink own idx y ∈ wsL_law) (d : decode cc pc = .ok (.invokevirtual idx, 3)) (hN : b < G.2.1) (hc : c b = .inr (ci, fs)) (hcl : vwCl[ci]? = some (y.cls, T, N)) (hR : f0 + 1 ≤ rm.frames ∧ 8 + (nY + 11) + l0 ≤ rm.locals) (hW : (st.map fun v => v.category).sum ≤ 8) (hq : pc + 3 = q)
    (kk : ∀ (v : Int32) (c' : HP), Qn v c' → AW G K Q q L (.int v :: st) c') : AW G K Q pc L (a4 :: a3 :: a2 :: a1 :: .ref (G.1 b) :: st) c :=
  A_callV (As := [a1, a2, a3, a4]) X hM mv lk hN hc hcl hR rfl rfl hW d hq (fun r c' h => by obtain ⟨v, rfl, h⟩ := h; exact kk v c' h)
theorem A_V4v {b ci : Nat} {fs : List Value} {T : u_T} {N : Nat} {a1 a2 a3 a4 : Value} {Qn : HP → Prop} (X : Fx l G K cc nL own ret rm) (hM : AMet l G y cy nY rY (rmR f0 l0) (.ref (G.1 b) :: [a1, a2, a3, a4]) c (Qv Qn)) (mv : MV y cy nY rY 4) (lk : Cond.methodLink own idx y ∈ wsL_law) (d : decode cc pc = .ok (.invokevirtual idx, 3)) (hN : b < G.2.1) (hc : c b = .inr (ci, fs)) (hcl : vwCl[ci]? = some (y.cls, T, N)) (hR : f0 + 1 ≤ rm.frames ∧ 8 + (nY + 11) + l0 ≤ rm.locals) (hW : (st.map fun v => v.category).sum ≤ 8) (hq : pc + 3 = q)
    (kk : ∀ c' : HP, Qn c' → AW G K Q q L st c') : AW G K Q pc L (a4 :: a3 :: a2 :: a1 :: .ref (G.1 b) :: st) c :=
  A_callV (As := [a1, a2, a3, a4]) X hM mv lk hN hc hcl hR rfl rfl hW d hq (fun r c' h => by obtain ⟨rfl, h⟩ := h; exact kk c' h)
theorem A_V5i {b ci : Nat} {fs : List Value} {T : u_T} {N : Nat} {a1 a2 a3 a4 a5 : Value} {Qn : Int32 → HP → Prop} (X : Fx l G K cc nL own ret rm) (hM : AMet l G y cy nY rY (rmR f0 l0) (.ref (G.1 b) :: [a1, a2, a3, a4, a5]) c (Qi Qn)) (mv : MV y cy nY rY 5) (lk : Cond.methodLink own idx y ∈ wsL_law) (d : decode cc pc = .ok (.invokevirtual idx, 3)) (hN : b < G.2.1) (hc : c b = .inr (ci, fs)) (hcl : vwCl[ci]? = some (y.cls, T, N)) (hR : f0 + 1 ≤ rm.frames ∧ 8 + (nY + 11) + l0 ≤ rm.locals) (hW : (st.map fun v => v.category).sum ≤ 8) (hq : pc + 3 = q)
    (kk : ∀ (v : Int32) (c' : HP), Qn v c' → AW G K Q q L (.int v :: st) c') : AW G K Q pc L (a5 :: a4 :: a3 :: a2 :: a1 :: .ref (G.1 b) :: st) c :=
  A_callV (As := [a1, a2, a3, a4, a5]) X hM mv lk hN hc hcl hR rfl rfl hW d hq (fun r c' h => by obtain ⟨v, rfl, h⟩ := h; exact kk v c' h)
theorem A_V5v {b ci : Nat} {fs : List Value} {T : u_T} {N : Nat} {a1 a2 a3 a4 a5 : Value} {Qn : HP → Prop} (X : Fx l G K cc nL own ret rm) (hM : AMet l G y cy nY rY (rmR f0 l0) (.ref (G.1 b) :: [a1, a2, a3, a4, a5]) c (Qv Qn)) (mv : MV y cy nY rY 5) (lk : Cond.methodLink own idx y ∈ wsL_law) (d : decode cc pc = .ok (.invokevirtual idx, 3)) (hN : b < G.2.1) (hc : c b = .inr (ci, fs)) (hcl : vwCl[ci]? = some (y.cls, T, N)) (hR : f0 + 1 ≤ rm.frames ∧ 8 + (nY + 11) + l0 ≤ rm.locals) (hW : (st.map fun v => v.category).sum ≤ 8) (hq : pc + 3 = q)
    (kk : ∀ c' : HP, Qn c' → AW G K Q q L st c') : AW G K Q pc L (a5 :: a4 :: a3 :: a2 :: a1 :: .ref (G.1 b) :: st) c :=
  A_callV (As := [a1, a2, a3, a4, a5]) X hM mv lk hN hc hcl hR rfl rfl hW d hq (fun r c' h => by obtain ⟨rfl, h⟩ := h; exact kk c' h)
theorem A_V0l {b ci : Nat} {fs : List Value} {T : u_T} {N : Nat} {Qn : Int64 → HP → Prop} (X : Fx l G K cc nL own ret rm) (hM : AMet l G y cy nY rY (rmR f0 l0) (.ref (G.1 b) :: []) c (Ql Qn)) (mv : MV y cy nY rY 0) (lk : Cond.methodLink own idx y ∈ wsL_law) (d : decode cc pc = .ok (.invokevirtual idx, 3)) (hN : b < G.2.1) (hc : c b = .inr (ci, fs)) (hcl : vwCl[ci]? = some (y.cls, T, N)) (hR : f0 + 1 ≤ rm.frames ∧ 8 + (nY + 11) + l0 ≤ rm.locals) (hW : (st.map fun v => v.category).sum ≤ 8) (hq : pc + 3 = q)
    (kk : ∀ (v : Int64) (c' : HP), Qn v c' → AW G K Q q L (.long v :: st) c') : AW G K Q pc L (.ref (G.1 b) :: st) c :=
  A_callV (As := []) X hM mv lk hN hc hcl hR rfl rfl hW d hq (fun r c' h => by obtain ⟨v, rfl, h⟩ := h; exact kk v c' h)
theorem A_V1l {b ci : Nat} {fs : List Value} {T : u_T} {N : Nat} {a1 : Value} {Qn : Int64 → HP → Prop} (X : Fx l G K cc nL own ret rm) (hM : AMet l G y cy nY rY (rmR f0 l0) (.ref (G.1 b) :: [a1]) c (Ql Qn)) (mv : MV y cy nY rY 1) (lk : Cond.methodLink own idx y ∈ wsL_law) (d : decode cc pc = .ok (.invokevirtual idx, 3)) (hN : b < G.2.1) (hc : c b = .inr (ci, fs)) (hcl : vwCl[ci]? = some (y.cls, T, N)) (hR : f0 + 1 ≤ rm.frames ∧ 8 + (nY + 11) + l0 ≤ rm.locals) (hW : (st.map fun v => v.category).sum ≤ 8) (hq : pc + 3 = q)
    (kk : ∀ (v : Int64) (c' : HP), Qn v c' → AW G K Q q L (.long v :: st) c') : AW G K Q pc L (a1 :: .ref (G.1 b) :: st) c :=
  A_callV (As := [a1]) X hM mv lk hN hc hcl hR rfl rfl hW d hq (fun r c' h => by obtain ⟨v, rfl, h⟩ := h; exact kk v c' h)
theorem A_V1r {b ci : Nat} {fs : List Value} {T : u_T} {N : Nat} {a1 : Value} {Qn : Nat → HP → Prop} (X : Fx l G K cc nL own ret rm) (hM : AMet l G y cy nY rY (rmR f0 l0) (.ref (G.1 b) :: [a1]) c (Qr G Qn)) (mv : MV y cy nY rY 1) (lk : Cond.methodLink own idx y ∈ wsL_law) (d : decode cc pc = .ok (.invokevirtual idx, 3)) (hN : b < G.2.1) (hc : c b = .inr (ci, fs)) (hcl : vwCl[ci]? = some (y.cls, T, N)) (hR : f0 + 1 ≤ rm.frames ∧ 8 + (nY + 11) + l0 ≤ rm.locals) (hW : (st.map fun v => v.category).sum ≤ 8) (hq : pc + 3 = q)
    (kk : ∀ (k : Nat) (c' : HP), Qn k c' → AW G K Q q L (.ref (G.1 k) :: st) c') : AW G K Q pc L (a1 :: .ref (G.1 b) :: st) c :=
  A_callV (As := [a1]) X hM mv lk hN hc hcl hR rfl rfl hW d hq (fun r c' h => by obtain ⟨v, rfl, h⟩ := h; exact kk v c' h)
theorem A_S1i {a1 : Value} {Qn : Int32 → HP → Prop} (X : Fx l G K cc nL own ret rm) (hM : AMet l G y cy nY rY (rmR f0 l0) [a1] c (Qi Qn)) (mv : MS y cy nY rY 1) (lk : Cond.methodLink own idx y ∈ wsL_law) (d : decode cc pc = .ok (.invokestatic idx, 3)) (hR : f0 + 1 ≤ rm.frames ∧ 8 + (nY + 11) + l0 ≤ rm.locals) (hW : (st.map fun v => v.category).sum ≤ 8) (hq : pc + 3 = q)
    (kk : ∀ (v : Int32) (c' : HP), Qn v c' → AW G K Q q L (.int v :: st) c') : AW G K Q pc L (a1 :: st) c :=
  A_callS (As := [a1]) X hM mv lk hR rfl rfl hW d hq (fun r c' h => by obtain ⟨v, rfl, h⟩ := h; exact kk v c' h)
theorem A_S1v {a1 : Value} {Qn : HP → Prop} (X : Fx l G K cc nL own ret rm) (hM : AMet l G y cy nY rY (rmR f0 l0) [a1] c (Qv Qn)) (mv : MS y cy nY rY 1) (lk : Cond.methodLink own idx y ∈ wsL_law) (d : decode cc pc = .ok (.invokestatic idx, 3)) (hR : f0 + 1 ≤ rm.frames ∧ 8 + (nY + 11) + l0 ≤ rm.locals) (hW : (st.map fun v => v.category).sum ≤ 8) (hq : pc + 3 = q)
    (kk : ∀ c' : HP, Qn c' → AW G K Q q L st c') : AW G K Q pc L (a1 :: st) c :=
  A_callS (As := [a1]) X hM mv lk hR rfl rfl hW d hq (fun r c' h => by obtain ⟨rfl, h⟩ := h; exact kk c' h)
theorem A_S2i {a1 a2 : Value} {Qn : Int32 → HP → Prop} (X : Fx l G K cc nL own ret rm) (hM : AMet l G y cy nY rY (rmR f0 l0) [a1, a2] c (Qi Qn)) (mv : MS y cy nY rY 2) (lk : Cond.methodLink own idx y ∈ wsL_law) (d : decode cc pc = .ok (.invokestatic idx, 3)) (hR : f0 + 1 ≤ rm.frames ∧ 8 + (nY + 11) + l0 ≤ rm.locals) (hW : (st.map fun v => v.category).sum ≤ 8) (hq : pc + 3 = q)
    (kk : ∀ (v : Int32) (c' : HP), Qn v c' → AW G K Q q L (.int v :: st) c') : AW G K Q pc L (a2 :: a1 :: st) c :=
  A_callS (As := [a1, a2]) X hM mv lk hR rfl rfl hW d hq (fun r c' h => by obtain ⟨v, rfl, h⟩ := h; exact kk v c' h)
theorem A_S2v {a1 a2 : Value} {Qn : HP → Prop} (X : Fx l G K cc nL own ret rm) (hM : AMet l G y cy nY rY (rmR f0 l0) [a1, a2] c (Qv Qn)) (mv : MS y cy nY rY 2) (lk : Cond.methodLink own idx y ∈ wsL_law) (d : decode cc pc = .ok (.invokestatic idx, 3)) (hR : f0 + 1 ≤ rm.frames ∧ 8 + (nY + 11) + l0 ≤ rm.locals) (hW : (st.map fun v => v.category).sum ≤ 8) (hq : pc + 3 = q)
    (kk : ∀ c' : HP, Qn c' → AW G K Q q L st c') : AW G K Q pc L (a2 :: a1 :: st) c :=
  A_callS (As := [a1, a2]) X hM mv lk hR rfl rfl hW d hq (fun r c' h => by obtain ⟨rfl, h⟩ := h; exact kk c' h)
theorem A_S3i {a1 a2 a3 : Value} {Qn : Int32 → HP → Prop} (X : Fx l G K cc nL own ret rm) (hM : AMet l G y cy nY rY (rmR f0 l0) [a1, a2, a3] c (Qi Qn)) (mv : MS y cy nY rY 3) (lk : Cond.methodLink own idx y ∈ wsL_law) (d : decode cc pc = .ok (.invokestatic idx, 3)) (hR : f0 + 1 ≤ rm.frames ∧ 8 + (nY + 11) + l0 ≤ rm.locals) (hW : (st.map fun v => v.category).sum ≤ 8) (hq : pc + 3 = q)
    (kk : ∀ (v : Int32) (c' : HP), Qn v c' → AW G K Q q L (.int v :: st) c') : AW G K Q pc L (a3 :: a2 :: a1 :: st) c :=
  A_callS (As := [a1, a2, a3]) X hM mv lk hR rfl rfl hW d hq (fun r c' h => by obtain ⟨v, rfl, h⟩ := h; exact kk v c' h)
theorem A_S3v {a1 a2 a3 : Value} {Qn : HP → Prop} (X : Fx l G K cc nL own ret rm) (hM : AMet l G y cy nY rY (rmR f0 l0) [a1, a2, a3] c (Qv Qn)) (mv : MS y cy nY rY 3) (lk : Cond.methodLink own idx y ∈ wsL_law) (d : decode cc pc = .ok (.invokestatic idx, 3)) (hR : f0 + 1 ≤ rm.frames ∧ 8 + (nY + 11) + l0 ≤ rm.locals) (hW : (st.map fun v => v.category).sum ≤ 8) (hq : pc + 3 = q)
    (kk : ∀ c' : HP, Qn c' → AW G K Q q L st c') : AW G K Q pc L (a3 :: a2 :: a1 :: st) c :=
  A_callS (As := [a1, a2, a3]) X hM mv lk hR rfl rfl hW d hq (fun r c' h => by obtain ⟨rfl, h⟩ := h; exact kk c' h)
theorem A_S1l {a1 : Value} {Qn : Int64 → HP → Prop} (X : Fx l G K cc nL own ret rm) (hM : AMet l G y cy nY rY (rmR f0 l0) [a1] c (Ql Qn)) (mv : MS y cy nY rY 1) (lk : Cond.methodLink own idx y ∈ wsL_law) (d : decode cc pc = .ok (.invokestatic idx, 3)) (hR : f0 + 1 ≤ rm.frames ∧ 8 + (nY + 11) + l0 ≤ rm.locals) (hW : (st.map fun v => v.category).sum ≤ 8) (hq : pc + 3 = q)
    (kk : ∀ (v : Int64) (c' : HP), Qn v c' → AW G K Q q L (.long v :: st) c') : AW G K Q pc L (a1 :: st) c :=
  A_callS (As := [a1]) X hM mv lk hR rfl rfl hW d hq (fun r c' h => by obtain ⟨v, rfl, h⟩ := h; exact kk v c' h)
theorem A_S2l {a1 a2 : Value} {Qn : Int64 → HP → Prop} (X : Fx l G K cc nL own ret rm) (hM : AMet l G y cy nY rY (rmR f0 l0) [a1, a2] c (Ql Qn)) (mv : MS y cy nY rY 2) (lk : Cond.methodLink own idx y ∈ wsL_law) (d : decode cc pc = .ok (.invokestatic idx, 3)) (hR : f0 + 1 ≤ rm.frames ∧ 8 + (nY + 11) + l0 ≤ rm.locals) (hW : (st.map fun v => v.category).sum ≤ 8) (hq : pc + 3 = q)
    (kk : ∀ (v : Int64) (c' : HP), Qn v c' → AW G K Q q L (.long v :: st) c') : AW G K Q pc L (a2 :: a1 :: st) c :=
  A_callS (As := [a1, a2]) X hM mv lk hR rfl rfl hW d hq (fun r c' h => by obtain ⟨v, rfl, h⟩ := h; exact kk v c' h)
theorem A_N1i {a1 : Value} {Qn : Int32 → HP → Prop} (X : Fx l G K cc nL own ret rm) (hM : AMet l G y cy nY rY (rmR f0 l0) [a1] c (Qi Qn)) (mv : MS y cy nY rY 1) (lk : (own, idx, y) ∈ nsts) (d : decode cc pc = .ok (.invokestatic idx, 3)) (hR : f0 + 1 ≤ rm.frames ∧ 8 + (nY + 11) + l0 ≤ rm.locals) (hW : (st.map fun v => v.category).sum ≤ 8) (hq : pc + 3 = q)
    (kk : ∀ (v : Int32) (c' : HP), Qn v c' → AW G K Q q L (.int v :: st) c') : AW G K Q pc L (a1 :: st) c :=
  A_callN (As := [a1]) X hM mv lk hR rfl rfl hW d hq (fun r c' h => by obtain ⟨v, rfl, h⟩ := h; exact kk v c' h)
end AC
def mkArgs : List Value → List (Option Value)
  | [] => []
  | v :: vs => if v.category = 2 then some v :: none :: mkArgs vs else some v :: mkArgs vs
theorem mkArgs_get : ∀ (vs : List Value) (k i : Nat) (v : Value), mkL (mkArgs vs) i = some v → (k + i, v) ∈ lv_args k vs
  | [], k, i, v, h => by simp [mkL, mkArgs] at h
  | w :: vs, k, i, v, h => by
    unfold mkArgs at h
    unfold lv_args
    split at h
    · rename_i h2
      match i, h with
      | 0, h =>
        have : w = v := by simpa [mkL] using h
        subst this
        exact List.mem_cons_self
      | 1, h => simp [mkL] at h
      | i + 2, h =>
        have h3 := mkArgs_get vs (k + 2) i v (by simpa [mkL] using h)
        rw [if_pos h2, show k + (i + 2) = k + 2 + i by omega]
        exact List.mem_cons_of_mem _ h3
    · rename_i h2
      match i, h with
      | 0, h =>
        have : w = v := by simpa [mkL] using h
        subst this
        exact List.mem_cons_self
      | i + 1, h =>
        have h3 := mkArgs_get vs (k + 1) i v (by simpa [mkL] using h)
        rw [if_neg h2, show k + (i + 1) = k + 1 + i by omega]
        exact List.mem_cons_of_mem _ h3
theorem AMet.of {l : Launch} {G : Gm} {y : MethodName} {cc : ByteArray} {nL : Nat} {ret : Option FieldType} {rm : Room} {args : List Value} {c : HP} {Q : Option Value → HP → Prop} {vl : List (Option Value)} (hy : plainName y.cls = true) (hin : injG G) (hlen : (lg_sl args).length ≤ nL) (hv : mkArgs args = vl)
    (body : ∀ K : Cx, Fx l G K cc nL y.cls ret rm → AW G K Q 0 (mkL vl) [] c) : AMet l G y cc nL ret rm args c Q := by
  subst hv
  refine Met.ofW (cc := cc) (maxL := nL) (ret := ret) hy rfl ?_
  intro p e s m args1 below meth cd s₁ B hml hv
  obtain ⟨rfl, hP, hK, hns⟩ := hv
  have hts := atoms_spec (ws := Cond.code y cc nL ret :: wsL_law) B.pre
  have X : Fx l G (p, l, e, rm, s, m, args.toArray, below, meth, cd) cc nL y.cls ret rm := ⟨B.exec, B.bytes, hml, findClass_of_methodNamed B.named, fun w hw => hts w (List.mem_cons_of_mem _ hw), hK, hin, B.returns, B.notSynchronized, rfl, rfl, hns⟩
  have h := body _ X
  rw [lg_entry_eq]
  refine h s.heap [] _ hP va_S.rf ?_
  have hl := lv_entry args (n := nL) hlen
  exact ⟨lv_args 0 args, by rw [hml]; exact hl, fun i v hv => by have := mkArgs_get args 0 i v hv; rwa [Nat.zero_add] at this⟩
end
section
theorem nL_108 : Cond.constantLong RL 108 (4294967295) ∈ wsL_law := List.mem_of_getElem? (i := 6) (by decide +kernel)
theorem kL_9 : Cond.methodLink RL 9 yX8_init ∈ wsL_law := List.mem_of_getElem? (i := 7) (by decide +kernel)
theorem kX8_1 : Cond.methodLink RX8 1 objectInit ∈ wsL_law := List.mem_of_getElem? (i := 10) (by decide +kernel)
theorem fX8_10 : FL RX8 10 8 0 := ⟨RX8, TX8, 12, tyX8, rfl, by decide, inlX8, List.mem_of_getElem? (i := 16) (by decide +kernel), tyX8_ok, nmX8⟩
theorem fX8_16 : FL RX8 16 8 1 := ⟨RX8, TX8, 12, tyX8, rfl, by decide, inlX8, List.mem_of_getElem? (i := 17) (by decide +kernel), tyX8_ok, nmX8⟩
theorem fX8_19 : FL RX8 19 8 2 := ⟨RX8, TX8, 12, tyX8, rfl, by decide, inlX8, List.mem_of_getElem? (i := 18) (by decide +kernel), tyX8_ok, nmX8⟩
theorem fX8_22 : FL RX8 22 8 3 := ⟨RX8, TX8, 12, tyX8, rfl, by decide, inlX8, List.mem_of_getElem? (i := 19) (by decide +kernel), tyX8_ok, nmX8⟩
theorem fX8_25 : FL RX8 25 8 4 := ⟨RX8, TX8, 12, tyX8, rfl, by decide, inlX8, List.mem_of_getElem? (i := 20) (by decide +kernel), tyX8_ok, nmX8⟩
theorem fX8_31 : FL RX8 31 8 5 := ⟨RX8, TX8, 12, tyX8, rfl, by decide, inlX8, List.mem_of_getElem? (i := 24) (by decide +kernel), tyX8_ok, nmX8⟩
theorem fX8_38 : FL RX8 38 8 6 := ⟨RX8, TX8, 12, tyX8, rfl, by decide, inlX8, List.mem_of_getElem? (i := 28) (by decide +kernel), tyX8_ok, nmX8⟩
theorem fX8_45 : FL RX8 45 8 7 := ⟨RX8, TX8, 12, tyX8, rfl, by decide, inlX8, List.mem_of_getElem? (i := 32) (by decide +kernel), tyX8_ok, nmX8⟩
theorem fX8_52 : FL RX8 52 8 8 := ⟨RX8, TX8, 12, tyX8, rfl, by decide, inlX8, List.mem_of_getElem? (i := 36) (by decide +kernel), tyX8_ok, nmX8⟩
theorem fX8_59 : FL RX8 59 8 9 := ⟨RX8, TX8, 12, tyX8, rfl, by decide, inlX8, List.mem_of_getElem? (i := 40) (by decide +kernel), tyX8_ok, nmX8⟩
theorem fX8_66 : FL RX8 66 8 10 := ⟨RX8, TX8, 12, tyX8, rfl, by decide, inlX8, List.mem_of_getElem? (i := 44) (by decide +kernel), tyX8_ok, nmX8⟩
theorem fX8_70 : FL RX8 70 8 11 := ⟨RX8, TX8, 12, tyX8, rfl, by decide, inlX8, List.mem_of_getElem? (i := 45) (by decide +kernel), tyX8_ok, nmX8⟩
theorem pX8_70 : FP RX8 70 8 11 (.long) := ⟨RX8, TX8, 12, tyX8, rfl, by decide, inlX8, List.mem_of_getElem? (i := 45) (by decide +kernel), tyX8_ok, nmX8, rfl, rfl⟩
theorem kX6_3 : Cond.methodLink RX6 3 objectInit ∈ wsL_law := List.mem_of_getElem? (i := 48) (by decide +kernel)
theorem fX6_9 : FL RX6 9 6 0 := ⟨RX6, TX6, 3, tyX6, rfl, by decide, inlX6, List.mem_of_getElem? (i := 50) (by decide +kernel), tyX6_ok, nmX6⟩
theorem fX6_15 : FL RX6 15 6 1 := ⟨RX6, TX6, 3, tyX6, rfl, by decide, inlX6, List.mem_of_getElem? (i := 51) (by decide +kernel), tyX6_ok, nmX6⟩
theorem pX6_15 : FP RX6 15 6 1 (.int) := ⟨RX6, TX6, 3, tyX6, rfl, by decide, inlX6, List.mem_of_getElem? (i := 51) (by decide +kernel), tyX6_ok, nmX6, rfl, rfl⟩
theorem fX6_19 : FL RX6 19 6 2 := ⟨RX6, TX6, 3, tyX6, rfl, by decide, inlX6, List.mem_of_getElem? (i := 52) (by decide +kernel), tyX6_ok, nmX6⟩
theorem pX6_19 : FP RX6 19 6 2 (.boolean) := ⟨RX6, TX6, 3, tyX6, rfl, by decide, inlX6, List.mem_of_getElem? (i := 52) (by decide +kernel), tyX6_ok, nmX6, rfl, rfl⟩
theorem kX4_3 : Cond.methodLink RX4 3 objectInit ∈ wsL_law := List.mem_of_getElem? (i := 55) (by decide +kernel)
theorem fX4_9 : FL RX4 9 4 0 := ⟨RX4, TX4, 3, tyX4, rfl, by decide, inlX4, List.mem_of_getElem? (i := 56) (by decide +kernel), tyX4_ok, nmX4⟩
theorem fX4_15 : FL RX4 15 4 1 := ⟨RX4, TX4, 3, tyX4, rfl, by decide, inlX4, List.mem_of_getElem? (i := 57) (by decide +kernel), tyX4_ok, nmX4⟩
theorem fX4_18 : FL RX4 18 4 2 := ⟨RX4, TX4, 3, tyX4, rfl, by decide, inlX4, List.mem_of_getElem? (i := 58) (by decide +kernel), tyX4_ok, nmX4⟩
theorem pX4_18 : FP RX4 18 4 2 (.int) := ⟨RX4, TX4, 3, tyX4, rfl, by decide, inlX4, List.mem_of_getElem? (i := 58) (by decide +kernel), tyX4_ok, nmX4, rfl, rfl⟩
theorem kX5_3 : Cond.methodLink RX5 3 objectInit ∈ wsL_law := List.mem_of_getElem? (i := 61) (by decide +kernel)
theorem fX5_12 : FL RX5 12 5 0 := ⟨RX5, TX5, 3, tyX5, rfl, by decide, inlX5, List.mem_of_getElem? (i := 63) (by decide +kernel), tyX5_ok, nmX5⟩
theorem fX5_18 : FL RX5 18 5 1 := ⟨RX5, TX5, 3, tyX5, rfl, by decide, inlX5, List.mem_of_getElem? (i := 64) (by decide +kernel), tyX5_ok, nmX5⟩
theorem fX5_24 : FL RX5 24 5 2 := ⟨RX5, TX5, 3, tyX5, rfl, by decide, inlX5, List.mem_of_getElem? (i := 66) (by decide +kernel), tyX5_ok, nmX5⟩
theorem kX2_3 : Cond.methodLink RX2 3 objectInit ∈ wsL_law := List.mem_of_getElem? (i := 69) (by decide +kernel)
theorem fX2_12 : FL RX2 12 2 0 := ⟨RX2, TX2, 4, tyX2, rfl, by decide, inlX2, List.mem_of_getElem? (i := 73) (by decide +kernel), tyX2_ok, nmX2⟩
theorem pX2_12 : FP RX2 12 2 0 (.object "SubstitutionMachine$Extended") := ⟨RX2, TX2, 4, tyX2, rfl, by decide, inlX2, List.mem_of_getElem? (i := 73) (by decide +kernel), tyX2_ok, nmX2, rfl, rfl⟩
theorem fX2_18 : FL RX2 18 2 1 := ⟨RX2, TX2, 4, tyX2, rfl, by decide, inlX2, List.mem_of_getElem? (i := 74) (by decide +kernel), tyX2_ok, nmX2⟩
theorem pX2_18 : FP RX2 18 2 1 (.object "SubstitutionMachine$Extended") := ⟨RX2, TX2, 4, tyX2, rfl, by decide, inlX2, List.mem_of_getElem? (i := 74) (by decide +kernel), tyX2_ok, nmX2, rfl, rfl⟩
theorem fX2_21 : FL RX2 21 2 2 := ⟨RX2, TX2, 4, tyX2, rfl, by decide, inlX2, List.mem_of_getElem? (i := 75) (by decide +kernel), tyX2_ok, nmX2⟩
theorem fX2_25 : FL RX2 25 2 3 := ⟨RX2, TX2, 4, tyX2, rfl, by decide, inlX2, List.mem_of_getElem? (i := 76) (by decide +kernel), tyX2_ok, nmX2⟩
theorem pX2_25 : FP RX2 25 2 3 (.int) := ⟨RX2, TX2, 4, tyX2, rfl, by decide, inlX2, List.mem_of_getElem? (i := 76) (by decide +kernel), tyX2_ok, nmX2, rfl, rfl⟩
theorem kX0_3 : Cond.methodLink RX0 3 objectInit ∈ wsL_law := List.mem_of_getElem? (i := 79) (by decide +kernel)
theorem fX0_9 : FL RX0 9 0 0 := ⟨RX0, TX0, 5, tyX0, rfl, by decide, inlX0, List.mem_of_getElem? (i := 80) (by decide +kernel), tyX0_ok, nmX0⟩
theorem fX0_15 : FL RX0 15 0 1 := ⟨RX0, TX0, 5, tyX0, rfl, by decide, inlX0, List.mem_of_getElem? (i := 81) (by decide +kernel), tyX0_ok, nmX0⟩
theorem fX0_18 : FL RX0 18 0 2 := ⟨RX0, TX0, 5, tyX0, rfl, by decide, inlX0, List.mem_of_getElem? (i := 82) (by decide +kernel), tyX0_ok, nmX0⟩
theorem fX0_21 : FL RX0 21 0 3 := ⟨RX0, TX0, 5, tyX0, rfl, by decide, inlX0, List.mem_of_getElem? (i := 83) (by decide +kernel), tyX0_ok, nmX0⟩
theorem pX0_21 : FP RX0 21 0 3 (.int) := ⟨RX0, TX0, 5, tyX0, rfl, by decide, inlX0, List.mem_of_getElem? (i := 83) (by decide +kernel), tyX0_ok, nmX0, rfl, rfl⟩
theorem fX0_25 : FL RX0 25 0 4 := ⟨RX0, TX0, 5, tyX0, rfl, by decide, inlX0, List.mem_of_getElem? (i := 84) (by decide +kernel), tyX0_ok, nmX0⟩
theorem pX0_25 : FP RX0 25 0 4 (.boolean) := ⟨RX0, TX0, 5, tyX0, rfl, by decide, inlX0, List.mem_of_getElem? (i := 84) (by decide +kernel), tyX0_ok, nmX0, rfl, rfl⟩
theorem kX1_3 : Cond.methodLink RX1 3 objectInit ∈ wsL_law := List.mem_of_getElem? (i := 87) (by decide +kernel)
theorem fX1_11 : FL RX1 11 1 0 := ⟨RX1, TX1, 4, tyX1, rfl, by decide, inlX1, List.mem_of_getElem? (i := 89) (by decide +kernel), tyX1_ok, nmX1⟩
theorem fX1_16 : FL RX1 16 1 1 := ⟨RX1, TX1, 4, tyX1, rfl, by decide, inlX1, List.mem_of_getElem? (i := 90) (by decide +kernel), tyX1_ok, nmX1⟩
theorem fX1_20 : FL RX1 20 1 2 := ⟨RX1, TX1, 4, tyX1, rfl, by decide, inlX1, List.mem_of_getElem? (i := 91) (by decide +kernel), tyX1_ok, nmX1⟩
theorem pX1_20 : FP RX1 20 1 2 (.int) := ⟨RX1, TX1, 4, tyX1, rfl, by decide, inlX1, List.mem_of_getElem? (i := 91) (by decide +kernel), tyX1_ok, nmX1, rfl, rfl⟩
theorem fX1_24 : FL RX1 24 1 3 := ⟨RX1, TX1, 4, tyX1, rfl, by decide, inlX1, List.mem_of_getElem? (i := 92) (by decide +kernel), tyX1_ok, nmX1⟩
theorem pX1_24 : FP RX1 24 1 3 (.int) := ⟨RX1, TX1, 4, tyX1, rfl, by decide, inlX1, List.mem_of_getElem? (i := 92) (by decide +kernel), tyX1_ok, nmX1, rfl, rfl⟩
theorem kX7_3 : Cond.methodLink RX7 3 objectInit ∈ wsL_law := List.mem_of_getElem? (i := 95) (by decide +kernel)
theorem fX7_9 : FL RX7 9 7 0 := ⟨RX7, TX7, 2, tyX7, rfl, by decide, inlX7, List.mem_of_getElem? (i := 96) (by decide +kernel), tyX7_ok, nmX7⟩
theorem fX7_15 : FL RX7 15 7 1 := ⟨RX7, TX7, 2, tyX7, rfl, by decide, inlX7, List.mem_of_getElem? (i := 97) (by decide +kernel), tyX7_ok, nmX7⟩
theorem pX7_15 : FP RX7 15 7 1 (.int) := ⟨RX7, TX7, 2, tyX7, rfl, by decide, inlX7, List.mem_of_getElem? (i := 97) (by decide +kernel), tyX7_ok, nmX7, rfl, rfl⟩
theorem kX3_3 : Cond.methodLink RX3 3 objectInit ∈ wsL_law := List.mem_of_getElem? (i := 100) (by decide +kernel)
theorem fX3_9 : FL RX3 9 3 0 := ⟨RX3, TX3, 3, tyX3, rfl, by decide, inlX3, List.mem_of_getElem? (i := 101) (by decide +kernel), tyX3_ok, nmX3⟩
theorem fX3_15 : FL RX3 15 3 1 := ⟨RX3, TX3, 3, tyX3, rfl, by decide, inlX3, List.mem_of_getElem? (i := 102) (by decide +kernel), tyX3_ok, nmX3⟩
theorem fX3_18 : FL RX3 18 3 2 := ⟨RX3, TX3, 3, tyX3, rfl, by decide, inlX3, List.mem_of_getElem? (i := 103) (by decide +kernel), tyX3_ok, nmX3⟩
theorem pX3_18 : FP RX3 18 3 2 (.int) := ⟨RX3, TX3, 3, tyX3, rfl, by decide, inlX3, List.mem_of_getElem? (i := 103) (by decide +kernel), tyX3_ok, nmX3, rfl, rfl⟩
theorem kX8_74 : Cond.methodLink RX8 74 yX6_add ∈ wsL_law := List.mem_of_getElem? (i := 104) (by decide +kernel)
theorem kL_12 : Cond.methodLink RL 12 yX9_init ∈ wsL_law := List.mem_of_getElem? (i := 108) (by decide +kernel)
theorem kX9_1 : Cond.methodLink RX9 1 objectInit ∈ wsL_law := List.mem_of_getElem? (i := 111) (by decide +kernel)
theorem fX9_7 : FL RX9 7 9 1 := ⟨RX9, TX9, 23, tyX9, rfl, by decide, inlX9, List.mem_of_getElem? (i := 112) (by decide +kernel), tyX9_ok, nmX9⟩
theorem fX9_13 : FL RX9 13 9 3 := ⟨RX9, TX9, 23, tyX9, rfl, by decide, inlX9, List.mem_of_getElem? (i := 113) (by decide +kernel), tyX9_ok, nmX9⟩
theorem fX9_16 : FL RX9 16 9 4 := ⟨RX9, TX9, 23, tyX9, rfl, by decide, inlX9, List.mem_of_getElem? (i := 114) (by decide +kernel), tyX9_ok, nmX9⟩
theorem fX9_19 : FL RX9 19 9 5 := ⟨RX9, TX9, 23, tyX9, rfl, by decide, inlX9, List.mem_of_getElem? (i := 115) (by decide +kernel), tyX9_ok, nmX9⟩
theorem fX9_22 : FL RX9 22 9 6 := ⟨RX9, TX9, 23, tyX9, rfl, by decide, inlX9, List.mem_of_getElem? (i := 116) (by decide +kernel), tyX9_ok, nmX9⟩
theorem fX9_25 : FL RX9 25 9 7 := ⟨RX9, TX9, 23, tyX9, rfl, by decide, inlX9, List.mem_of_getElem? (i := 117) (by decide +kernel), tyX9_ok, nmX9⟩
theorem fX9_28 : FL RX9 28 9 9 := ⟨RX9, TX9, 23, tyX9, rfl, by decide, inlX9, List.mem_of_getElem? (i := 118) (by decide +kernel), tyX9_ok, nmX9⟩
theorem fX9_31 : FL RX9 31 9 10 := ⟨RX9, TX9, 23, tyX9, rfl, by decide, inlX9, List.mem_of_getElem? (i := 120) (by decide +kernel), tyX9_ok, nmX9⟩
theorem fX9_35 : FL RX9 35 9 12 := ⟨RX9, TX9, 23, tyX9, rfl, by decide, inlX9, List.mem_of_getElem? (i := 121) (by decide +kernel), tyX9_ok, nmX9⟩
theorem fX9_38 : FL RX9 38 9 13 := ⟨RX9, TX9, 23, tyX9, rfl, by decide, inlX9, List.mem_of_getElem? (i := 122) (by decide +kernel), tyX9_ok, nmX9⟩
theorem fX9_41 : FL RX9 41 9 15 := ⟨RX9, TX9, 23, tyX9, rfl, by decide, inlX9, List.mem_of_getElem? (i := 123) (by decide +kernel), tyX9_ok, nmX9⟩
theorem fX9_44 : FL RX9 44 9 16 := ⟨RX9, TX9, 23, tyX9, rfl, by decide, inlX9, List.mem_of_getElem? (i := 124) (by decide +kernel), tyX9_ok, nmX9⟩
theorem fX9_47 : FL RX9 47 9 17 := ⟨RX9, TX9, 23, tyX9, rfl, by decide, inlX9, List.mem_of_getElem? (i := 125) (by decide +kernel), tyX9_ok, nmX9⟩
theorem fX9_50 : FL RX9 50 9 18 := ⟨RX9, TX9, 23, tyX9, rfl, by decide, inlX9, List.mem_of_getElem? (i := 126) (by decide +kernel), tyX9_ok, nmX9⟩
theorem fX9_53 : FL RX9 53 9 19 := ⟨RX9, TX9, 23, tyX9, rfl, by decide, inlX9, List.mem_of_getElem? (i := 127) (by decide +kernel), tyX9_ok, nmX9⟩
theorem fX9_56 : FL RX9 56 9 21 := ⟨RX9, TX9, 23, tyX9, rfl, by decide, inlX9, List.mem_of_getElem? (i := 128) (by decide +kernel), tyX9_ok, nmX9⟩
theorem kL_13 : Cond.methodLink RL 13 yX8_append ∈ wsL_law := List.mem_of_getElem? (i := 129) (by decide +kernel)
theorem kX8_78 : Cond.methodLink RX8 78 yX7_put ∈ wsL_law := List.mem_of_getElem? (i := 133) (by decide +kernel)
theorem kX8_82 : Cond.methodLink RX8 82 yX7_length ∈ wsL_law := List.mem_of_getElem? (i := 137) (by decide +kernel)
theorem kL_17 : Cond.methodLink RL 17 yX9_append ∈ wsL_law := List.mem_of_getElem? (i := 141) (by decide +kernel)
theorem fX9_59 : FL RX9 59 9 0 := ⟨RX9, TX9, 23, tyX9, rfl, by decide, inlX9, List.mem_of_getElem? (i := 145) (by decide +kernel), tyX9_ok, nmX9⟩
theorem pX9_59 : FP RX9 59 9 0 (.int) := ⟨RX9, TX9, 23, tyX9, rfl, by decide, inlX9, List.mem_of_getElem? (i := 145) (by decide +kernel), tyX9_ok, nmX9, rfl, rfl⟩
theorem nX9_112 : Cond.constantLong RX9 112 (255) ∈ wsL_law := List.mem_of_getElem? (i := 146) (by decide +kernel)
theorem fX9_118 : FL RX9 118 9 2 := ⟨RX9, TX9, 23, tyX9, rfl, by decide, inlX9, List.mem_of_getElem? (i := 147) (by decide +kernel), tyX9_ok, nmX9⟩
theorem pX9_118 : FP RX9 118 9 2 (.int) := ⟨RX9, TX9, 23, tyX9, rfl, by decide, inlX9, List.mem_of_getElem? (i := 147) (by decide +kernel), tyX9_ok, nmX9, rfl, rfl⟩
theorem kX9_114 : Cond.methodLink RX9 114 yX9_in ∈ wsL_law := List.mem_of_getElem? (i := 148) (by decide +kernel)
theorem kL_18 : Cond.methodLink RL 18 yX8_clearText ∈ wsL_law := List.mem_of_getElem? (i := 151) (by decide +kernel)
theorem kX8_86 : Cond.methodLink RX8 86 yX7_clear ∈ wsL_law := List.mem_of_getElem? (i := 155) (by decide +kernel)
theorem kL_22 : Cond.methodLink RL 22 yX9_clearText ∈ wsL_law := List.mem_of_getElem? (i := 159) (by decide +kernel)
theorem kL_23 : Cond.methodLink RL 23 yX8_errorPosition ∈ wsL_law := List.mem_of_getElem? (i := 163) (by decide +kernel)
theorem kX8_89 : Cond.methodLink RX8 89 yX7_firstError ∈ wsL_law := List.mem_of_getElem? (i := 167) (by decide +kernel)
theorem kX7_19 : Cond.methodLink RX7 19 yX7_tokenOf ∈ wsL_law := List.mem_of_getElem? (i := 171) (by decide +kernel)
theorem kL_26 : Cond.methodLink RL 26 yX9_errorPosition ∈ wsL_law := List.mem_of_getElem? (i := 176) (by decide +kernel)
theorem kX9_125 : Cond.methodLink RX9 125 yX9_tokenOf ∈ wsL_law := List.mem_of_getElem? (i := 180) (by decide +kernel)
theorem nX9_121 : Cond.constantLong RX9 121 (48) ∈ wsL_law := List.mem_of_getElem? (i := 183) (by decide +kernel)
theorem nX9_123 : Cond.constantLong RX9 123 (57) ∈ wsL_law := List.mem_of_getElem? (i := 184) (by decide +kernel)
theorem kX9_64 : Cond.methodLink RX9 64 yX9_parts ∈ wsL_law := List.mem_of_getElem? (i := 185) (by decide +kernel)
theorem nX9_63 : Cond.constant RX9 63 (1000000) ∈ wsL_law := List.mem_of_getElem? (i := 188) (by decide +kernel)
theorem kL_27 : Cond.methodLink RL 27 yX8_load ∈ wsL_law := List.mem_of_getElem? (i := 189) (by decide +kernel)
theorem kX8_92 : Cond.methodLink RX8 92 yX7_writeTo ∈ wsL_law := List.mem_of_getElem? (i := 193) (by decide +kernel)
theorem kX7_26 : Cond.methodLink RX7 26 yX6_clear ∈ wsL_law := List.mem_of_getElem? (i := 197) (by decide +kernel)
theorem kX7_31 : Cond.methodLink RX7 31 yX6_add ∈ wsL_law := List.mem_of_getElem? (i := 201) (by decide +kernel)
theorem kX8_96 : Cond.methodLink RX8 96 yX1_forgetAll ∈ wsL_law := List.mem_of_getElem? (i := 202) (by decide +kernel)
theorem kX8_99 : Cond.methodLink RX8 99 yX6_clear ∈ wsL_law := List.mem_of_getElem? (i := 206) (by decide +kernel)
theorem kX8_100 : Cond.methodLink RX8 100 yX6_length ∈ wsL_law := List.mem_of_getElem? (i := 207) (by decide +kernel)
theorem kL_30 : Cond.methodLink RL 30 yX9_load ∈ wsL_law := List.mem_of_getElem? (i := 211) (by decide +kernel)
theorem fX9_132 : FL RX9 132 9 8 := ⟨RX9, TX9, 23, tyX9, rfl, by decide, inlX9, List.mem_of_getElem? (i := 215) (by decide +kernel), tyX9_ok, nmX9⟩
theorem pX9_132 : FP RX9 132 9 8 (.int) := ⟨RX9, TX9, 23, tyX9, rfl, by decide, inlX9, List.mem_of_getElem? (i := 215) (by decide +kernel), tyX9_ok, nmX9, rfl, rfl⟩
theorem kX9_128 : Cond.methodLink RX9 128 yX9_errorPosition ∈ wsL_law := List.mem_of_getElem? (i := 216) (by decide +kernel)
theorem kL_31 : Cond.methodLink RL 31 yX8_size ∈ wsL_law := List.mem_of_getElem? (i := 217) (by decide +kernel)
theorem kL_34 : Cond.methodLink RL 34 yX9_size ∈ wsL_law := List.mem_of_getElem? (i := 221) (by decide +kernel)
theorem kL_35 : Cond.methodLink RL 35 yX8_tokenAt ∈ wsL_law := List.mem_of_getElem? (i := 225) (by decide +kernel)
theorem kX8_101 : Cond.methodLink RX8 101 yX6_has ∈ wsL_law := List.mem_of_getElem? (i := 229) (by decide +kernel)
theorem kX8_104 : Cond.methodLink RX8 104 yX6_token ∈ wsL_law := List.mem_of_getElem? (i := 233) (by decide +kernel)
theorem kL_38 : Cond.methodLink RL 38 yX9_tokenAt ∈ wsL_law := List.mem_of_getElem? (i := 237) (by decide +kernel)
theorem kL_39 : Cond.methodLink RL 39 yX8_nameAt ∈ wsL_law := List.mem_of_getElem? (i := 241) (by decide +kernel)
theorem kX8_108 : Cond.methodLink RX8 108 yX4_measure ∈ wsL_law := List.mem_of_getElem? (i := 245) (by decide +kernel)
theorem kX4_27 : Cond.methodLink RX4 27 Lib.Math.min.name ∈ wsL_law := List.mem_of_getElem? (i := 249) (by decide +kernel)
theorem kX4_22 : Cond.methodLink RX4 22 yX6_length ∈ wsL_law := List.mem_of_getElem? (i := 253) (by decide +kernel)
theorem kX4_33 : Cond.methodLink RX4 33 yX4_measureEnds ∈ wsL_law := List.mem_of_getElem? (i := 254) (by decide +kernel)
theorem kX4_40 : Cond.methodLink RX4 40 yX6_token ∈ wsL_law := List.mem_of_getElem? (i := 258) (by decide +kernel)
theorem kX4_44 : Cond.methodLink RX4 44 yX4_endAt ∈ wsL_law := List.mem_of_getElem? (i := 259) (by decide +kernel)
theorem kX4_37 : Cond.methodLink RX4 37 yX4_measureDepths ∈ wsL_law := List.mem_of_getElem? (i := 263) (by decide +kernel)
theorem kX4_47 : Cond.methodLink RX4 47 yX4_setDepth ∈ wsL_law := List.mem_of_getElem? (i := 267) (by decide +kernel)
theorem kX8_111 : Cond.methodLink RX8 111 yX4_depthAt ∈ wsL_law := List.mem_of_getElem? (i := 271) (by decide +kernel)
theorem kL_42 : Cond.methodLink RL 42 yX9_nameAt ∈ wsL_law := List.mem_of_getElem? (i := 275) (by decide +kernel)
theorem kX9_86 : Cond.methodLink RX9 86 yX9_layDepths ∈ wsL_law := List.mem_of_getElem? (i := 279) (by decide +kernel)
theorem kX9_68 : Cond.methodLink RX9 68 yX9_isVariable ∈ wsL_law := List.mem_of_getElem? (i := 283) (by decide +kernel)
theorem kL_43 : Cond.methodLink RL 43 yX8_redexCount ∈ wsL_law := List.mem_of_getElem? (i := 286) (by decide +kernel)
theorem kX8_114 : Cond.methodLink RX8 114 yX5_countRedexes ∈ wsL_law := List.mem_of_getElem? (i := 290) (by decide +kernel)
theorem kX5_32 : Cond.methodLink RX5 32 yX6_length ∈ wsL_law := List.mem_of_getElem? (i := 293) (by decide +kernel)
theorem kX5_36 : Cond.methodLink RX5 36 yX5_isRedex ∈ wsL_law := List.mem_of_getElem? (i := 294) (by decide +kernel)
theorem kX5_28 : Cond.methodLink RX5 28 yX6_token ∈ wsL_law := List.mem_of_getElem? (i := 297) (by decide +kernel)
theorem kL_46 : Cond.methodLink RL 46 yX9_redexCount ∈ wsL_law := List.mem_of_getElem? (i := 298) (by decide +kernel)
theorem kX9_108 : Cond.methodLink RX9 108 yX9_redexes ∈ wsL_law := List.mem_of_getElem? (i := 302) (by decide +kernel)
theorem kX9_72 : Cond.methodLink RX9 72 yX9_isRedex ∈ wsL_law := List.mem_of_getElem? (i := 305) (by decide +kernel)
theorem kL_47 : Cond.methodLink RL 47 yX8_chosenRedex ∈ wsL_law := List.mem_of_getElem? (i := 308) (by decide +kernel)
theorem kX8_118 : Cond.methodLink RX8 118 yX8_isStrategy ∈ wsL_law := List.mem_of_getElem? (i := 312) (by decide +kernel)
theorem kX8_121 : Cond.methodLink RX8 121 yX5_choose ∈ wsL_law := List.mem_of_getElem? (i := 315) (by decide +kernel)
theorem kX5_40 : Cond.methodLink RX5 40 yX5_nextRedex ∈ wsL_law := List.mem_of_getElem? (i := 318) (by decide +kernel)
theorem kX5_44 : Cond.methodLink RX5 44 yX5_leftmostInnermost ∈ wsL_law := List.mem_of_getElem? (i := 321) (by decide +kernel)
theorem kX5_48 : Cond.methodLink RX5 48 yX5_lastRedex ∈ wsL_law := List.mem_of_getElem? (i := 324) (by decide +kernel)
theorem kX5_51 : Cond.methodLink RX5 51 yX5_weakHead ∈ wsL_law := List.mem_of_getElem? (i := 327) (by decide +kernel)
theorem kL_50 : Cond.methodLink RL 50 yX9_chosenRedex ∈ wsL_law := List.mem_of_getElem? (i := 330) (by decide +kernel)
theorem nX9_135 : Cond.constantLong RX9 135 (3) ∈ wsL_law := List.mem_of_getElem? (i := 334) (by decide +kernel)
theorem kX9_94 : Cond.methodLink RX9 94 yX9_choose ∈ wsL_law := List.mem_of_getElem? (i := 335) (by decide +kernel)
theorem kX9_80 : Cond.methodLink RX9 80 yX9_isInnermost ∈ wsL_law := List.mem_of_getElem? (i := 338) (by decide +kernel)
theorem kX9_76 : Cond.methodLink RX9 76 yX9_end ∈ wsL_law := List.mem_of_getElem? (i := 341) (by decide +kernel)
theorem kL_51 : Cond.methodLink RL 51 yX8_freeVariables ∈ wsL_law := List.mem_of_getElem? (i := 344) (by decide +kernel)
theorem kX8_125 : Cond.methodLink RX8 125 yX8_isVariable ∈ wsL_law := List.mem_of_getElem? (i := 348) (by decide +kernel)
theorem kL_54 : Cond.methodLink RL 54 yX9_freeVariables ∈ wsL_law := List.mem_of_getElem? (i := 351) (by decide +kernel)
theorem kL_55 : Cond.methodLink RL 55 yX8_step ∈ wsL_law := List.mem_of_getElem? (i := 355) (by decide +kernel)
theorem kX8_128 : Cond.methodLink RX8 128 yX6_copyFrom ∈ wsL_law := List.mem_of_getElem? (i := 359) (by decide +kernel)
theorem kX6_23 : Cond.methodLink RX6 23 arraycopyName ∈ wsL_law := List.mem_of_getElem? (i := 363) (by decide +kernel)
theorem kX8_131 : Cond.methodLink RX8 131 yX5_contract ∈ wsL_law := List.mem_of_getElem? (i := 367) (by decide +kernel)
theorem kX5_63 : Cond.methodLink RX5 63 yX4_measure ∈ wsL_law := List.mem_of_getElem? (i := 371) (by decide +kernel)
theorem kX5_67 : Cond.methodLink RX5 67 yX4_endAt ∈ wsL_law := List.mem_of_getElem? (i := 372) (by decide +kernel)
theorem kX5_70 : Cond.methodLink RX5 70 yX6_clear ∈ wsL_law := List.mem_of_getElem? (i := 373) (by decide +kernel)
theorem kX5_73 : Cond.methodLink RX5 73 yX6_addRange ∈ wsL_law := List.mem_of_getElem? (i := 374) (by decide +kernel)
theorem kX5_77 : Cond.methodLink RX5 77 yX5_addContracted ∈ wsL_law := List.mem_of_getElem? (i := 378) (by decide +kernel)
theorem kX5_85 : Cond.methodLink RX5 85 yX4_depthAt ∈ wsL_law := List.mem_of_getElem? (i := 382) (by decide +kernel)
theorem kX5_88 : Cond.methodLink RX5 88 yX6_isTooLarge ∈ wsL_law := List.mem_of_getElem? (i := 383) (by decide +kernel)
theorem kX5_96 : Cond.methodLink RX5 96 yX6_add ∈ wsL_law := List.mem_of_getElem? (i := 387) (by decide +kernel)
theorem kX5_100 : Cond.methodLink RX5 100 yX5_addShifted ∈ wsL_law := List.mem_of_getElem? (i := 388) (by decide +kernel)
theorem kX5_81 : Cond.methodLink RX5 81 yX5_takeResult ∈ wsL_law := List.mem_of_getElem? (i := 392) (by decide +kernel)
theorem kX5_104 : Cond.methodLink RX5 104 yX6_copyFrom ∈ wsL_law := List.mem_of_getElem? (i := 396) (by decide +kernel)
theorem kX8_135 : Cond.methodLink RX8 135 yX8_actWithCopy ∈ wsL_law := List.mem_of_getElem? (i := 397) (by decide +kernel)
theorem kX8_218 : Cond.methodLink RX8 218 yX1_remember ∈ wsL_law := List.mem_of_getElem? (i := 401) (by decide +kernel)
theorem kX1_33 : Cond.methodLink RX1 33 Lib.Math.min.name ∈ wsL_law := List.mem_of_getElem? (i := 405) (by decide +kernel)
theorem kX1_27 : Cond.methodLink RX1 27 yX6_length ∈ wsL_law := List.mem_of_getElem? (i := 406) (by decide +kernel)
theorem kX1_39 : Cond.methodLink RX1 39 yX6_token ∈ wsL_law := List.mem_of_getElem? (i := 407) (by decide +kernel)
theorem kL_58 : Cond.methodLink RL 58 yX9_step ∈ wsL_law := List.mem_of_getElem? (i := 408) (by decide +kernel)
theorem kX9_97 : Cond.methodLink RX9 97 yX9_contract ∈ wsL_law := List.mem_of_getElem? (i := 412) (by decide +kernel)
theorem kX9_83 : Cond.methodLink RX9 83 yX9_put ∈ wsL_law := List.mem_of_getElem? (i := 416) (by decide +kernel)
theorem kX9_90 : Cond.methodLink RX9 90 yX9_putShifted ∈ wsL_law := List.mem_of_getElem? (i := 420) (by decide +kernel)
theorem kX9_140 : Cond.methodLink RX9 140 yX9_commit ∈ wsL_law := List.mem_of_getElem? (i := 424) (by decide +kernel)
theorem kX9_137 : Cond.methodLink RX9 137 yX9_remember ∈ wsL_law := List.mem_of_getElem? (i := 428) (by decide +kernel)
theorem kX9_100 : Cond.methodLink RX9 100 yX9_assign ∈ wsL_law := List.mem_of_getElem? (i := 432) (by decide +kernel)
theorem kL_59 : Cond.methodLink RL 59 yX8_run ∈ wsL_law := List.mem_of_getElem? (i := 435) (by decide +kernel)
theorem kX8_138 : Cond.methodLink RX8 138 yX5_perform ∈ wsL_law := List.mem_of_getElem? (i := 439) (by decide +kernel)
theorem kX5_57 : Cond.methodLink RX5 57 yX5_choose ∈ wsL_law := List.mem_of_getElem? (i := 443) (by decide +kernel)
theorem kX5_60 : Cond.methodLink RX5 60 yX5_contract ∈ wsL_law := List.mem_of_getElem? (i := 444) (by decide +kernel)
theorem kL_63 : Cond.methodLink RL 63 yX9_run ∈ wsL_law := List.mem_of_getElem? (i := 445) (by decide +kernel)
theorem nX9_143 : Cond.constantLong RX9 143 (50) ∈ wsL_law := List.mem_of_getElem? (i := 449) (by decide +kernel)
theorem kX9_104 : Cond.methodLink RX9 104 yX9_runOn ∈ wsL_law := List.mem_of_getElem? (i := 450) (by decide +kernel)
theorem kL_64 : Cond.methodLink RL 64 yX8_abstractTerm ∈ wsL_law := List.mem_of_getElem? (i := 454) (by decide +kernel)
theorem kX8_142 : Cond.methodLink RX8 142 yX6_wrapInAbstraction ∈ wsL_law := List.mem_of_getElem? (i := 458) (by decide +kernel)
theorem kL_67 : Cond.methodLink RL 67 yX9_abstractTerm ∈ wsL_law := List.mem_of_getElem? (i := 462) (by decide +kernel)
theorem kX9_145 : Cond.methodLink RX9 145 yX9_putBehind ∈ wsL_law := List.mem_of_getElem? (i := 466) (by decide +kernel)
theorem kL_68 : Cond.methodLink RL 68 yX8_applyTo ∈ wsL_law := List.mem_of_getElem? (i := 470) (by decide +kernel)
theorem kX8_146 : Cond.methodLink RX8 146 yX8_isSlot ∈ wsL_law := List.mem_of_getElem? (i := 474) (by decide +kernel)
theorem kX8_149 : Cond.methodLink RX8 149 yX8_slotTerm ∈ wsL_law := List.mem_of_getElem? (i := 477) (by decide +kernel)
theorem kX8_153 : Cond.methodLink RX8 153 yX6_addRange ∈ wsL_law := List.mem_of_getElem? (i := 481) (by decide +kernel)
theorem kX8_157 : Cond.methodLink RX8 157 yX6_isTooLarge ∈ wsL_law := List.mem_of_getElem? (i := 482) (by decide +kernel)
theorem kL_71 : Cond.methodLink RL 71 yX9_applyTo ∈ wsL_law := List.mem_of_getElem? (i := 483) (by decide +kernel)
theorem kX9_149 : Cond.methodLink RX9 149 yX9_takeSlot ∈ wsL_law := List.mem_of_getElem? (i := 487) (by decide +kernel)
theorem kL_72 : Cond.methodLink RL 72 yX8_substitute ∈ wsL_law := List.mem_of_getElem? (i := 491) (by decide +kernel)
theorem kX8_160 : Cond.methodLink RX8 160 yX5_replaceFree ∈ wsL_law := List.mem_of_getElem? (i := 495) (by decide +kernel)
theorem kL_75 : Cond.methodLink RL 75 yX9_substitute ∈ wsL_law := List.mem_of_getElem? (i := 499) (by decide +kernel)
theorem nX9_153 : Cond.constantLong RX9 153 (9) ∈ wsL_law := List.mem_of_getElem? (i := 503) (by decide +kernel)
theorem kL_76 : Cond.methodLink RL 76 yX8_undo ∈ wsL_law := List.mem_of_getElem? (i := 504) (by decide +kernel)
theorem kX8_164 : Cond.methodLink RX8 164 yX1_takeBack ∈ wsL_law := List.mem_of_getElem? (i := 508) (by decide +kernel)
theorem kX1_43 : Cond.methodLink RX1 43 yX6_clear ∈ wsL_law := List.mem_of_getElem? (i := 512) (by decide +kernel)
theorem kX1_46 : Cond.methodLink RX1 46 yX6_add ∈ wsL_law := List.mem_of_getElem? (i := 513) (by decide +kernel)
theorem kX8_168 : Cond.methodLink RX8 168 yX1_count ∈ wsL_law := List.mem_of_getElem? (i := 514) (by decide +kernel)
theorem kL_79 : Cond.methodLink RL 79 yX9_undo ∈ wsL_law := List.mem_of_getElem? (i := 518) (by decide +kernel)
theorem kL_80 : Cond.methodLink RL 80 yX8_stepsOfRun ∈ wsL_law := List.mem_of_getElem? (i := 522) (by decide +kernel)
theorem kX8_171 : Cond.methodLink RX8 171 yX8_isPrediction ∈ wsL_law := List.mem_of_getElem? (i := 526) (by decide +kernel)
theorem kX8_175 : Cond.methodLink RX8 175 yX8_performOnCopy ∈ wsL_law := List.mem_of_getElem? (i := 529) (by decide +kernel)
theorem kL_83 : Cond.methodLink RL 83 yX9_stepsOfRun ∈ wsL_law := List.mem_of_getElem? (i := 533) (by decide +kernel)
theorem nX9_155 : Cond.constantLong RX9 155 (200) ∈ wsL_law := List.mem_of_getElem? (i := 537) (by decide +kernel)
theorem kL_84 : Cond.methodLink RL 84 yX8_sizeAfterRun ∈ wsL_law := List.mem_of_getElem? (i := 538) (by decide +kernel)
theorem kL_87 : Cond.methodLink RL 87 yX9_sizeAfterRun ∈ wsL_law := List.mem_of_getElem? (i := 542) (by decide +kernel)
theorem kL_88 : Cond.methodLink RL 88 yX8_normalSize ∈ wsL_law := List.mem_of_getElem? (i := 546) (by decide +kernel)
theorem kX8_179 : Cond.methodLink RX8 179 yX8_normaliseInto ∈ wsL_law := List.mem_of_getElem? (i := 550) (by decide +kernel)
theorem kX8_221 : Cond.methodLink RX8 221 yX5_nextRedex ∈ wsL_law := List.mem_of_getElem? (i := 554) (by decide +kernel)
theorem kL_91 : Cond.methodLink RL 91 yX9_normalSize ∈ wsL_law := List.mem_of_getElem? (i := 555) (by decide +kernel)
theorem kX9_157 : Cond.methodLink RX9 157 yX9_normalize ∈ wsL_law := List.mem_of_getElem? (i := 559) (by decide +kernel)
theorem kL_92 : Cond.methodLink RL 92 yX8_normalTokenAt ∈ wsL_law := List.mem_of_getElem? (i := 563) (by decide +kernel)
theorem kL_95 : Cond.methodLink RL 95 yX9_normalTokenAt ∈ wsL_law := List.mem_of_getElem? (i := 567) (by decide +kernel)
theorem kL_96 : Cond.methodLink RL 96 yX8_isEquivalent ∈ wsL_law := List.mem_of_getElem? (i := 571) (by decide +kernel)
theorem kX8_183 : Cond.methodLink RX8 183 yX6_hasSameTokens ∈ wsL_law := List.mem_of_getElem? (i := 575) (by decide +kernel)
theorem kL_99 : Cond.methodLink RL 99 yX9_isEquivalent ∈ wsL_law := List.mem_of_getElem? (i := 579) (by decide +kernel)
theorem kL_100 : Cond.methodLink RL 100 yX8_machineSteps ∈ wsL_law := List.mem_of_getElem? (i := 583) (by decide +kernel)
theorem kX8_186 : Cond.methodLink RX8 186 yX2_work ∈ wsL_law := List.mem_of_getElem? (i := 587) (by decide +kernel)
theorem kX2_53 : Cond.methodLink RX2 53 Lib.Math.max.name ∈ wsL_law := List.mem_of_getElem? (i := 591) (by decide +kernel)
theorem kX2_29 : Cond.methodLink RX2 29 yX2_start ∈ wsL_law := List.mem_of_getElem? (i := 594) (by decide +kernel)
theorem kX2_59 : Cond.methodLink RX2 59 yX0_clear ∈ wsL_law := List.mem_of_getElem? (i := 598) (by decide +kernel)
theorem kX2_62 : Cond.methodLink RX2 62 yX6_length ∈ wsL_law := List.mem_of_getElem? (i := 602) (by decide +kernel)
theorem kX2_65 : Cond.methodLink RX2 65 yX6_token ∈ wsL_law := List.mem_of_getElem? (i := 603) (by decide +kernel)
theorem kX2_69 : Cond.methodLink RX2 69 yX0_add ∈ wsL_law := List.mem_of_getElem? (i := 604) (by decide +kernel)
theorem kX0_29 : Cond.methodLink RX0 29 yX0_put ∈ wsL_law := List.mem_of_getElem? (i := 608) (by decide +kernel)
theorem kX2_49 : Cond.methodLink RX2 49 yX0_length ∈ wsL_law := List.mem_of_getElem? (i := 612) (by decide +kernel)
theorem kX2_33 : Cond.methodLink RX2 33 yX2_firstPlace ∈ wsL_law := List.mem_of_getElem? (i := 616) (by decide +kernel)
theorem kX2_37 : Cond.methodLink RX2 37 yX2_ruleAt ∈ wsL_law := List.mem_of_getElem? (i := 620) (by decide +kernel)
theorem kX2_73 : Cond.methodLink RX2 73 yX0_token ∈ wsL_law := List.mem_of_getElem? (i := 624) (by decide +kernel)
theorem kX2_41 : Cond.methodLink RX2 41 yX2_rewrite ∈ wsL_law := List.mem_of_getElem? (i := 628) (by decide +kernel)
theorem kX2_74 : Cond.methodLink RX2 74 yX0_addRange ∈ wsL_law := List.mem_of_getElem? (i := 632) (by decide +kernel)
theorem kX0_33 : Cond.methodLink RX0 33 arraycopyName ∈ wsL_law := List.mem_of_getElem? (i := 636) (by decide +kernel)
theorem kX2_78 : Cond.methodLink RX2 78 yX2_writeBeta ∈ wsL_law := List.mem_of_getElem? (i := 637) (by decide +kernel)
theorem kX2_96 : Cond.methodLink RX2 96 yX0_addClosure ∈ wsL_law := List.mem_of_getElem? (i := 641) (by decide +kernel)
theorem kX2_93 : Cond.methodLink RX2 93 yX0_behind ∈ wsL_law := List.mem_of_getElem? (i := 645) (by decide +kernel)
theorem kX0_39 : Cond.methodLink RX0 39 yX0_token ∈ wsL_law := List.mem_of_getElem? (i := 649) (by decide +kernel)
theorem kX0_46 : Cond.methodLink RX0 46 yX0_entriesAt ∈ wsL_law := List.mem_of_getElem? (i := 650) (by decide +kernel)
theorem kX2_81 : Cond.methodLink RX2 81 yX2_writeApply ∈ wsL_law := List.mem_of_getElem? (i := 654) (by decide +kernel)
theorem kX2_99 : Cond.methodLink RX2 99 yX0_entriesAt ∈ wsL_law := List.mem_of_getElem? (i := 658) (by decide +kernel)
theorem kX2_102 : Cond.methodLink RX2 102 yX0_shiftAt ∈ wsL_law := List.mem_of_getElem? (i := 659) (by decide +kernel)
theorem kX2_84 : Cond.methodLink RX2 84 yX2_writeAbstract ∈ wsL_law := List.mem_of_getElem? (i := 663) (by decide +kernel)
theorem kX2_45 : Cond.methodLink RX2 45 yX0_isTooLarge ∈ wsL_law := List.mem_of_getElem? (i := 667) (by decide +kernel)
theorem kX2_87 : Cond.methodLink RX2 87 yX2_writeLookup ∈ wsL_law := List.mem_of_getElem? (i := 671) (by decide +kernel)
theorem kX2_90 : Cond.methodLink RX2 90 yX2_writeMerge ∈ wsL_law := List.mem_of_getElem? (i := 675) (by decide +kernel)
theorem kX2_105 : Cond.methodLink RX2 105 Lib.Math.min.name ∈ wsL_law := List.mem_of_getElem? (i := 679) (by decide +kernel)
theorem kX8_190 : Cond.methodLink RX8 190 yX2_applications ∈ wsL_law := List.mem_of_getElem? (i := 680) (by decide +kernel)
theorem kL_103 : Cond.methodLink RL 103 yX9_machineSteps ∈ wsL_law := List.mem_of_getElem? (i := 684) (by decide +kernel)
theorem nX9_189 : Cond.constantLong RX9 189 (4) ∈ wsL_law := List.mem_of_getElem? (i := 688) (by decide +kernel)
theorem kX9_191 : Cond.methodLink RX9 191 yX9_machine ∈ wsL_law := List.mem_of_getElem? (i := 689) (by decide +kernel)
theorem fX9_179 : FL RX9 179 9 22 := ⟨RX9, TX9, 23, tyX9, rfl, by decide, inlX9, List.mem_of_getElem? (i := 693) (by decide +kernel), tyX9_ok, nmX9⟩
theorem pX9_179 : FP RX9 179 9 22 (.int) := ⟨RX9, TX9, 23, tyX9, rfl, by decide, inlX9, List.mem_of_getElem? (i := 693) (by decide +kernel), tyX9_ok, nmX9, rfl, rfl⟩
theorem fX9_161 : FL RX9 161 9 20 := ⟨RX9, TX9, 23, tyX9, rfl, by decide, inlX9, List.mem_of_getElem? (i := 694) (by decide +kernel), tyX9_ok, nmX9⟩
theorem pX9_161 : FP RX9 161 9 20 (.boolean) := ⟨RX9, TX9, 23, tyX9, rfl, by decide, inlX9, List.mem_of_getElem? (i := 694) (by decide +kernel), tyX9_ok, nmX9, rfl, rfl⟩
theorem kX9_182 : Cond.methodLink RX9 182 yX9_ruleAt ∈ wsL_law := List.mem_of_getElem? (i := 695) (by decide +kernel)
theorem kX9_186 : Cond.methodLink RX9 186 yX9_apply ∈ wsL_law := List.mem_of_getElem? (i := 699) (by decide +kernel)
theorem nX9_173 : Cond.constant RX9 173 (1001000) ∈ wsL_law := List.mem_of_getElem? (i := 703) (by decide +kernel)
theorem nX9_174 : Cond.constant RX9 174 (1000001) ∈ wsL_law := List.mem_of_getElem? (i := 704) (by decide +kernel)
theorem kX9_169 : Cond.methodLink RX9 169 yX9_addPart ∈ wsL_law := List.mem_of_getElem? (i := 705) (by decide +kernel)
theorem kX9_165 : Cond.methodLink RX9 165 yX9_add ∈ wsL_law := List.mem_of_getElem? (i := 709) (by decide +kernel)
theorem kX9_175 : Cond.methodLink RX9 175 yX9_merge ∈ wsL_law := List.mem_of_getElem? (i := 713) (by decide +kernel)
theorem kL_104 : Cond.methodLink RL 104 yX8_machinePeak ∈ wsL_law := List.mem_of_getElem? (i := 717) (by decide +kernel)
theorem kX8_193 : Cond.methodLink RX8 193 yX2_peak ∈ wsL_law := List.mem_of_getElem? (i := 721) (by decide +kernel)
theorem kL_107 : Cond.methodLink RL 107 yX9_machinePeak ∈ wsL_law := List.mem_of_getElem? (i := 725) (by decide +kernel)
theorem kL_110 : Cond.methodLink RL 110 yX8_runScript ∈ wsL_law := List.mem_of_getElem? (i := 729) (by decide +kernel)
theorem nX8_200 : Cond.constantLong RX8 200 (1000) ∈ wsL_law := List.mem_of_getElem? (i := 733) (by decide +kernel)
theorem kX8_196 : Cond.methodLink RX8 196 yX8_withoutLowGroups ∈ wsL_law := List.mem_of_getElem? (i := 734) (by decide +kernel)
theorem kX8_202 : Cond.methodLink RX8 202 yX8_commandSucceeds ∈ wsL_law := List.mem_of_getElem? (i := 737) (by decide +kernel)
theorem kL_114 : Cond.methodLink RL 114 yX9_runScript ∈ wsL_law := List.mem_of_getElem? (i := 741) (by decide +kernel)
theorem nX9_195 : Cond.constantLong RX9 195 (1000) ∈ wsL_law := List.mem_of_getElem? (i := 745) (by decide +kernel)
theorem kX9_197 : Cond.methodLink RX9 197 yX9_thousands ∈ wsL_law := List.mem_of_getElem? (i := 746) (by decide +kernel)
theorem kX9_201 : Cond.methodLink RX9 201 yX9_command ∈ wsL_law := List.mem_of_getElem? (i := 749) (by decide +kernel)
theorem kL_115 : Cond.methodLink RL 115 yX8_observe ∈ wsL_law := List.mem_of_getElem? (i := 753) (by decide +kernel)
theorem kX8_205 : Cond.methodLink RX8 205 yX3_add ∈ wsL_law := List.mem_of_getElem? (i := 757) (by decide +kernel)
theorem kX3_22 : Cond.methodLink RX3 22 yX3_dropOldest ∈ wsL_law := List.mem_of_getElem? (i := 761) (by decide +kernel)
theorem kX8_208 : Cond.methodLink RX8 208 yX3_count ∈ wsL_law := List.mem_of_getElem? (i := 765) (by decide +kernel)
theorem kL_118 : Cond.methodLink RL 118 yX9_observe ∈ wsL_law := List.mem_of_getElem? (i := 769) (by decide +kernel)
theorem fX9_205 : FL RX9 205 9 11 := ⟨RX9, TX9, 23, tyX9, rfl, by decide, inlX9, List.mem_of_getElem? (i := 773) (by decide +kernel), tyX9_ok, nmX9⟩
theorem pX9_205 : FP RX9 205 9 11 (.int) := ⟨RX9, TX9, 23, tyX9, rfl, by decide, inlX9, List.mem_of_getElem? (i := 773) (by decide +kernel), tyX9_ok, nmX9, rfl, rfl⟩
theorem kL_119 : Cond.methodLink RL 119 yX8_forgetAfter ∈ wsL_law := List.mem_of_getElem? (i := 774) (by decide +kernel)
theorem kX8_209 : Cond.methodLink RX8 209 yX3_keepUpTo ∈ wsL_law := List.mem_of_getElem? (i := 778) (by decide +kernel)
theorem kL_122 : Cond.methodLink RL 122 yX9_forgetAfter ∈ wsL_law := List.mem_of_getElem? (i := 782) (by decide +kernel)
theorem kL_123 : Cond.methodLink RL 123 yX8_possibleStrategies ∈ wsL_law := List.mem_of_getElem? (i := 786) (by decide +kernel)
theorem kX8_212 : Cond.methodLink RX8 212 yX8_observationsHold ∈ wsL_law := List.mem_of_getElem? (i := 790) (by decide +kernel)
theorem kX8_227 : Cond.methodLink RX8 227 Lib.Math.min.name ∈ wsL_law := List.mem_of_getElem? (i := 794) (by decide +kernel)
theorem kX8_224 : Cond.methodLink RX8 224 yX3_greatestLimit ∈ wsL_law := List.mem_of_getElem? (i := 795) (by decide +kernel)
theorem kX3_25 : Cond.methodLink RX3 25 Lib.Math.max.name ∈ wsL_law := List.mem_of_getElem? (i := 799) (by decide +kernel)
theorem kX8_232 : Cond.methodLink RX8 232 yX3_allow ∈ wsL_law := List.mem_of_getElem? (i := 800) (by decide +kernel)
theorem kL_126 : Cond.methodLink RL 126 yX9_possibleStrategies ∈ wsL_law := List.mem_of_getElem? (i := 804) (by decide +kernel)
theorem kL_127 : Cond.methodLink RL 127 yX8_setSeed ∈ wsL_law := List.mem_of_getElem? (i := 808) (by decide +kernel)
theorem kL_131 : Cond.methodLink RL 131 yX9_setSeed ∈ wsL_law := List.mem_of_getElem? (i := 812) (by decide +kernel)
theorem fX9_208 : FL RX9 208 9 14 := ⟨RX9, TX9, 23, tyX9, rfl, by decide, inlX9, List.mem_of_getElem? (i := 816) (by decide +kernel), tyX9_ok, nmX9⟩
theorem pX9_208 : FP RX9 208 9 14 (.long) := ⟨RX9, TX9, 23, tyX9, rfl, by decide, inlX9, List.mem_of_getElem? (i := 816) (by decide +kernel), tyX9_ok, nmX9, rfl, rfl⟩
theorem kL_132 : Cond.methodLink RL 132 yX8_randomReduction ∈ wsL_law := List.mem_of_getElem? (i := 817) (by decide +kernel)
theorem kX8_215 : Cond.methodLink RX8 215 yX8_randomStepOnCopy ∈ wsL_law := List.mem_of_getElem? (i := 821) (by decide +kernel)
theorem nX8_235 : Cond.constantLong RX8 235 (6364136223846793005) ∈ wsL_law := List.mem_of_getElem? (i := 825) (by decide +kernel)
theorem nX8_237 : Cond.constantLong RX8 237 (1442695040888963407) ∈ wsL_law := List.mem_of_getElem? (i := 826) (by decide +kernel)
theorem kX8_239 : Cond.methodLink RX8 239 yX5_numberedRedex ∈ wsL_law := List.mem_of_getElem? (i := 827) (by decide +kernel)
theorem kL_135 : Cond.methodLink RL 135 yX9_randomReduction ∈ wsL_law := List.mem_of_getElem? (i := 830) (by decide +kernel)
theorem nX9_212 : Cond.constantLong RX9 212 (30) ∈ wsL_law := List.mem_of_getElem? (i := 834) (by decide +kernel)
theorem nX9_214 : Cond.constantLong RX9 214 (6364136223846793005) ∈ wsL_law := List.mem_of_getElem? (i := 835) (by decide +kernel)
theorem nX9_216 : Cond.constantLong RX9 216 (1442695040888963407) ∈ wsL_law := List.mem_of_getElem? (i := 836) (by decide +kernel)
theorem kX9_218 : Cond.methodLink RX9 218 yX9_redexNumber ∈ wsL_law := List.mem_of_getElem? (i := 837) (by decide +kernel)
theorem kL_136 : Cond.methodLink RL 136 yX8_save ∈ wsL_law := List.mem_of_getElem? (i := 840) (by decide +kernel)
theorem kL_139 : Cond.methodLink RL 139 yX9_save ∈ wsL_law := List.mem_of_getElem? (i := 844) (by decide +kernel)
theorem kL_140 : Cond.methodLink RL 140 yX8_restore ∈ wsL_law := List.mem_of_getElem? (i := 848) (by decide +kernel)
theorem kL_143 : Cond.methodLink RL 143 yX9_restore ∈ wsL_law := List.mem_of_getElem? (i := 852) (by decide +kernel)
-- yX8_init: no words of a call
-- yX6_init: no words of a call
-- yX4_init: no words of a call
-- yX5_init: no words of a call
-- yX2_init: no words of a call
-- yX0_init: no words of a call
-- yX1_init: no words of a call
-- yX7_init: no words of a call
-- yX3_init: no words of a call
theorem mX6_add : MV yX6_add cX6_add 2 (none) 1 := ⟨List.mem_of_getElem? (i := 107) (by decide +kernel), List.mem_of_getElem? (i := 15) (by decide +kernel), List.mem_of_getElem? (i := 105) (by decide +kernel), List.mem_of_getElem? (i := 106) (by decide +kernel), by decide +kernel, by decide +kernel, by decide +kernel⟩
-- yX9_init: no words of a call
theorem mX8_append : MV yX8_append cX8_append 2 ((some .int)) 1 := ⟨List.mem_of_getElem? (i := 132) (by decide +kernel), List.mem_of_getElem? (i := 2) (by decide +kernel), List.mem_of_getElem? (i := 130) (by decide +kernel), List.mem_of_getElem? (i := 131) (by decide +kernel), by decide +kernel, by decide +kernel, by decide +kernel⟩
theorem mX7_put : MV yX7_put cX7_put 2 ((some .boolean)) 1 := ⟨List.mem_of_getElem? (i := 136) (by decide +kernel), List.mem_of_getElem? (i := 39) (by decide +kernel), List.mem_of_getElem? (i := 134) (by decide +kernel), List.mem_of_getElem? (i := 135) (by decide +kernel), by decide +kernel, by decide +kernel, by decide +kernel⟩
theorem mX7_length : MV yX7_length cX7_length 1 ((some .int)) 0 := ⟨List.mem_of_getElem? (i := 140) (by decide +kernel), List.mem_of_getElem? (i := 39) (by decide +kernel), List.mem_of_getElem? (i := 138) (by decide +kernel), List.mem_of_getElem? (i := 139) (by decide +kernel), by decide +kernel, by decide +kernel, by decide +kernel⟩
theorem mX9_append : MV yX9_append cX9_append 2 ((some .int)) 1 := ⟨List.mem_of_getElem? (i := 144) (by decide +kernel), List.mem_of_getElem? (i := 5) (by decide +kernel), List.mem_of_getElem? (i := 142) (by decide +kernel), List.mem_of_getElem? (i := 143) (by decide +kernel), by decide +kernel, by decide +kernel, by decide +kernel⟩
theorem mX9_in : MS yX9_in cX9_in 6 ((some .boolean)) 3 := ⟨List.mem_of_getElem? (i := 150) (by decide +kernel), List.mem_of_getElem? (i := 5) (by decide +kernel), List.mem_of_getElem? (i := 149) (by decide +kernel), by decide +kernel, by decide +kernel, by decide +kernel⟩
theorem mX8_clearText : MV yX8_clearText cX8_clearText 2 ((some .int)) 0 := ⟨List.mem_of_getElem? (i := 154) (by decide +kernel), List.mem_of_getElem? (i := 2) (by decide +kernel), List.mem_of_getElem? (i := 152) (by decide +kernel), List.mem_of_getElem? (i := 153) (by decide +kernel), by decide +kernel, by decide +kernel, by decide +kernel⟩
theorem mX7_clear : MV yX7_clear cX7_clear 1 (none) 0 := ⟨List.mem_of_getElem? (i := 158) (by decide +kernel), List.mem_of_getElem? (i := 39) (by decide +kernel), List.mem_of_getElem? (i := 156) (by decide +kernel), List.mem_of_getElem? (i := 157) (by decide +kernel), by decide +kernel, by decide +kernel, by decide +kernel⟩
theorem mX9_clearText : MV yX9_clearText cX9_clearText 2 ((some .int)) 0 := ⟨List.mem_of_getElem? (i := 162) (by decide +kernel), List.mem_of_getElem? (i := 5) (by decide +kernel), List.mem_of_getElem? (i := 160) (by decide +kernel), List.mem_of_getElem? (i := 161) (by decide +kernel), by decide +kernel, by decide +kernel, by decide +kernel⟩
theorem mX8_errorPosition : MV yX8_errorPosition cX8_errorPosition 1 ((some .int)) 0 := ⟨List.mem_of_getElem? (i := 166) (by decide +kernel), List.mem_of_getElem? (i := 2) (by decide +kernel), List.mem_of_getElem? (i := 164) (by decide +kernel), List.mem_of_getElem? (i := 165) (by decide +kernel), by decide +kernel, by decide +kernel, by decide +kernel⟩
theorem mX7_firstError : MV yX7_firstError cX7_firstError 4 ((some .int)) 0 := ⟨List.mem_of_getElem? (i := 170) (by decide +kernel), List.mem_of_getElem? (i := 39) (by decide +kernel), List.mem_of_getElem? (i := 168) (by decide +kernel), List.mem_of_getElem? (i := 169) (by decide +kernel), by decide +kernel, by decide +kernel, by decide +kernel⟩
theorem mX7_tokenOf : MS yX7_tokenOf cX7_tokenOf 1 ((some .int)) 1 := ⟨List.mem_of_getElem? (i := 173) (by decide +kernel), List.mem_of_getElem? (i := 39) (by decide +kernel), List.mem_of_getElem? (i := 172) (by decide +kernel), by decide +kernel, by decide +kernel, by decide +kernel⟩
theorem mX8_parts : MS yX8_parts cX8_parts 1 ((some .int)) 1 := ⟨List.mem_of_getElem? (i := 175) (by decide +kernel), List.mem_of_getElem? (i := 2) (by decide +kernel), List.mem_of_getElem? (i := 174) (by decide +kernel), by decide +kernel, by decide +kernel, by decide +kernel⟩
theorem mX9_errorPosition : MV yX9_errorPosition cX9_errorPosition 4 ((some .int)) 0 := ⟨List.mem_of_getElem? (i := 179) (by decide +kernel), List.mem_of_getElem? (i := 5) (by decide +kernel), List.mem_of_getElem? (i := 177) (by decide +kernel), List.mem_of_getElem? (i := 178) (by decide +kernel), by decide +kernel, by decide +kernel, by decide +kernel⟩
theorem mX9_tokenOf : MS yX9_tokenOf cX9_tokenOf 1 ((some .int)) 1 := ⟨List.mem_of_getElem? (i := 182) (by decide +kernel), List.mem_of_getElem? (i := 5) (by decide +kernel), List.mem_of_getElem? (i := 181) (by decide +kernel), by decide +kernel, by decide +kernel, by decide +kernel⟩
theorem mX9_parts : MS yX9_parts cX9_parts 1 ((some .int)) 1 := ⟨List.mem_of_getElem? (i := 187) (by decide +kernel), List.mem_of_getElem? (i := 5) (by decide +kernel), List.mem_of_getElem? (i := 186) (by decide +kernel), by decide +kernel, by decide +kernel, by decide +kernel⟩
theorem mX8_load : MV yX8_load cX8_load 1 ((some .int)) 0 := ⟨List.mem_of_getElem? (i := 192) (by decide +kernel), List.mem_of_getElem? (i := 2) (by decide +kernel), List.mem_of_getElem? (i := 190) (by decide +kernel), List.mem_of_getElem? (i := 191) (by decide +kernel), by decide +kernel, by decide +kernel, by decide +kernel⟩
theorem mX7_writeTo : MV yX7_writeTo cX7_writeTo 3 (none) 1 := ⟨List.mem_of_getElem? (i := 196) (by decide +kernel), List.mem_of_getElem? (i := 39) (by decide +kernel), List.mem_of_getElem? (i := 194) (by decide +kernel), List.mem_of_getElem? (i := 195) (by decide +kernel), by decide +kernel, by decide +kernel, by decide +kernel⟩
theorem mX6_clear : MV yX6_clear cX6_clear 1 (none) 0 := ⟨List.mem_of_getElem? (i := 200) (by decide +kernel), List.mem_of_getElem? (i := 15) (by decide +kernel), List.mem_of_getElem? (i := 198) (by decide +kernel), List.mem_of_getElem? (i := 199) (by decide +kernel), by decide +kernel, by decide +kernel, by decide +kernel⟩
theorem mX1_forgetAll : MV yX1_forgetAll cX1_forgetAll 1 (none) 0 := ⟨List.mem_of_getElem? (i := 205) (by decide +kernel), List.mem_of_getElem? (i := 35) (by decide +kernel), List.mem_of_getElem? (i := 203) (by decide +kernel), List.mem_of_getElem? (i := 204) (by decide +kernel), by decide +kernel, by decide +kernel, by decide +kernel⟩
theorem mX6_length : MV yX6_length cX6_length 1 ((some .int)) 0 := ⟨List.mem_of_getElem? (i := 210) (by decide +kernel), List.mem_of_getElem? (i := 15) (by decide +kernel), List.mem_of_getElem? (i := 208) (by decide +kernel), List.mem_of_getElem? (i := 209) (by decide +kernel), by decide +kernel, by decide +kernel, by decide +kernel⟩
theorem mX9_load : MV yX9_load cX9_load 2 ((some .int)) 0 := ⟨List.mem_of_getElem? (i := 214) (by decide +kernel), List.mem_of_getElem? (i := 5) (by decide +kernel), List.mem_of_getElem? (i := 212) (by decide +kernel), List.mem_of_getElem? (i := 213) (by decide +kernel), by decide +kernel, by decide +kernel, by decide +kernel⟩
theorem mX8_size : MV yX8_size cX8_size 1 ((some .int)) 0 := ⟨List.mem_of_getElem? (i := 220) (by decide +kernel), List.mem_of_getElem? (i := 2) (by decide +kernel), List.mem_of_getElem? (i := 218) (by decide +kernel), List.mem_of_getElem? (i := 219) (by decide +kernel), by decide +kernel, by decide +kernel, by decide +kernel⟩
theorem mX9_size : MV yX9_size cX9_size 1 ((some .int)) 0 := ⟨List.mem_of_getElem? (i := 224) (by decide +kernel), List.mem_of_getElem? (i := 5) (by decide +kernel), List.mem_of_getElem? (i := 222) (by decide +kernel), List.mem_of_getElem? (i := 223) (by decide +kernel), by decide +kernel, by decide +kernel, by decide +kernel⟩
theorem mX8_tokenAt : MV yX8_tokenAt cX8_tokenAt 2 ((some .int)) 1 := ⟨List.mem_of_getElem? (i := 228) (by decide +kernel), List.mem_of_getElem? (i := 2) (by decide +kernel), List.mem_of_getElem? (i := 226) (by decide +kernel), List.mem_of_getElem? (i := 227) (by decide +kernel), by decide +kernel, by decide +kernel, by decide +kernel⟩
theorem mX6_has : MV yX6_has cX6_has 2 ((some .boolean)) 1 := ⟨List.mem_of_getElem? (i := 232) (by decide +kernel), List.mem_of_getElem? (i := 15) (by decide +kernel), List.mem_of_getElem? (i := 230) (by decide +kernel), List.mem_of_getElem? (i := 231) (by decide +kernel), by decide +kernel, by decide +kernel, by decide +kernel⟩
theorem mX6_token : MV yX6_token cX6_token 2 ((some .int)) 1 := ⟨List.mem_of_getElem? (i := 236) (by decide +kernel), List.mem_of_getElem? (i := 15) (by decide +kernel), List.mem_of_getElem? (i := 234) (by decide +kernel), List.mem_of_getElem? (i := 235) (by decide +kernel), by decide +kernel, by decide +kernel, by decide +kernel⟩
theorem mX9_tokenAt : MV yX9_tokenAt cX9_tokenAt 2 ((some .int)) 1 := ⟨List.mem_of_getElem? (i := 240) (by decide +kernel), List.mem_of_getElem? (i := 5) (by decide +kernel), List.mem_of_getElem? (i := 238) (by decide +kernel), List.mem_of_getElem? (i := 239) (by decide +kernel), by decide +kernel, by decide +kernel, by decide +kernel⟩
theorem mX8_nameAt : MV yX8_nameAt cX8_nameAt 4 ((some .int)) 1 := ⟨List.mem_of_getElem? (i := 244) (by decide +kernel), List.mem_of_getElem? (i := 2) (by decide +kernel), List.mem_of_getElem? (i := 242) (by decide +kernel), List.mem_of_getElem? (i := 243) (by decide +kernel), by decide +kernel, by decide +kernel, by decide +kernel⟩
theorem mX4_measure : MV yX4_measure cX4_measure 2 (none) 1 := ⟨List.mem_of_getElem? (i := 248) (by decide +kernel), List.mem_of_getElem? (i := 23) (by decide +kernel), List.mem_of_getElem? (i := 246) (by decide +kernel), List.mem_of_getElem? (i := 247) (by decide +kernel), by decide +kernel, by decide +kernel, by decide +kernel⟩
theorem mX4_measureEnds : MV yX4_measureEnds cX4_measureEnds 4 (none) 1 := ⟨List.mem_of_getElem? (i := 257) (by decide +kernel), List.mem_of_getElem? (i := 23) (by decide +kernel), List.mem_of_getElem? (i := 255) (by decide +kernel), List.mem_of_getElem? (i := 256) (by decide +kernel), by decide +kernel, by decide +kernel, by decide +kernel⟩
theorem mX4_endAt : MV yX4_endAt cX4_endAt 2 ((some .int)) 1 := ⟨List.mem_of_getElem? (i := 262) (by decide +kernel), List.mem_of_getElem? (i := 23) (by decide +kernel), List.mem_of_getElem? (i := 260) (by decide +kernel), List.mem_of_getElem? (i := 261) (by decide +kernel), by decide +kernel, by decide +kernel, by decide +kernel⟩
theorem mX4_measureDepths : MV yX4_measureDepths cX4_measureDepths 4 (none) 1 := ⟨List.mem_of_getElem? (i := 266) (by decide +kernel), List.mem_of_getElem? (i := 23) (by decide +kernel), List.mem_of_getElem? (i := 264) (by decide +kernel), List.mem_of_getElem? (i := 265) (by decide +kernel), by decide +kernel, by decide +kernel, by decide +kernel⟩
theorem mX4_setDepth : MV yX4_setDepth cX4_setDepth 3 (none) 2 := ⟨List.mem_of_getElem? (i := 270) (by decide +kernel), List.mem_of_getElem? (i := 23) (by decide +kernel), List.mem_of_getElem? (i := 268) (by decide +kernel), List.mem_of_getElem? (i := 269) (by decide +kernel), by decide +kernel, by decide +kernel, by decide +kernel⟩
theorem mX4_depthAt : MV yX4_depthAt cX4_depthAt 2 ((some .int)) 1 := ⟨List.mem_of_getElem? (i := 274) (by decide +kernel), List.mem_of_getElem? (i := 23) (by decide +kernel), List.mem_of_getElem? (i := 272) (by decide +kernel), List.mem_of_getElem? (i := 273) (by decide +kernel), by decide +kernel, by decide +kernel, by decide +kernel⟩
theorem mX9_nameAt : MV yX9_nameAt cX9_nameAt 4 ((some .int)) 1 := ⟨List.mem_of_getElem? (i := 278) (by decide +kernel), List.mem_of_getElem? (i := 5) (by decide +kernel), List.mem_of_getElem? (i := 276) (by decide +kernel), List.mem_of_getElem? (i := 277) (by decide +kernel), by decide +kernel, by decide +kernel, by decide +kernel⟩
theorem mX9_layDepths : MV yX9_layDepths cX9_layDepths 8 (none) 3 := ⟨List.mem_of_getElem? (i := 282) (by decide +kernel), List.mem_of_getElem? (i := 5) (by decide +kernel), List.mem_of_getElem? (i := 280) (by decide +kernel), List.mem_of_getElem? (i := 281) (by decide +kernel), by decide +kernel, by decide +kernel, by decide +kernel⟩
theorem mX9_isVariable : MS yX9_isVariable cX9_isVariable 1 ((some .boolean)) 1 := ⟨List.mem_of_getElem? (i := 285) (by decide +kernel), List.mem_of_getElem? (i := 5) (by decide +kernel), List.mem_of_getElem? (i := 284) (by decide +kernel), by decide +kernel, by decide +kernel, by decide +kernel⟩
theorem mX8_redexCount : MV yX8_redexCount cX8_redexCount 1 ((some .int)) 0 := ⟨List.mem_of_getElem? (i := 289) (by decide +kernel), List.mem_of_getElem? (i := 2) (by decide +kernel), List.mem_of_getElem? (i := 287) (by decide +kernel), List.mem_of_getElem? (i := 288) (by decide +kernel), by decide +kernel, by decide +kernel, by decide +kernel⟩
theorem mX5_countRedexes : MS yX5_countRedexes cX5_countRedexes 3 ((some .int)) 1 := ⟨List.mem_of_getElem? (i := 292) (by decide +kernel), List.mem_of_getElem? (i := 27) (by decide +kernel), List.mem_of_getElem? (i := 291) (by decide +kernel), by decide +kernel, by decide +kernel, by decide +kernel⟩
theorem mX5_isRedex : MS yX5_isRedex cX5_isRedex 2 ((some .boolean)) 2 := ⟨List.mem_of_getElem? (i := 296) (by decide +kernel), List.mem_of_getElem? (i := 27) (by decide +kernel), List.mem_of_getElem? (i := 295) (by decide +kernel), by decide +kernel, by decide +kernel, by decide +kernel⟩
theorem mX9_redexCount : MV yX9_redexCount cX9_redexCount 1 ((some .int)) 0 := ⟨List.mem_of_getElem? (i := 301) (by decide +kernel), List.mem_of_getElem? (i := 5) (by decide +kernel), List.mem_of_getElem? (i := 299) (by decide +kernel), List.mem_of_getElem? (i := 300) (by decide +kernel), by decide +kernel, by decide +kernel, by decide +kernel⟩
theorem mX9_redexes : MS yX9_redexes cX9_redexes 3 ((some .int)) 1 := ⟨List.mem_of_getElem? (i := 304) (by decide +kernel), List.mem_of_getElem? (i := 5) (by decide +kernel), List.mem_of_getElem? (i := 303) (by decide +kernel), by decide +kernel, by decide +kernel, by decide +kernel⟩
theorem mX9_isRedex : MS yX9_isRedex cX9_isRedex 2 ((some .boolean)) 2 := ⟨List.mem_of_getElem? (i := 307) (by decide +kernel), List.mem_of_getElem? (i := 5) (by decide +kernel), List.mem_of_getElem? (i := 306) (by decide +kernel), by decide +kernel, by decide +kernel, by decide +kernel⟩
theorem mX8_chosenRedex : MV yX8_chosenRedex cX8_chosenRedex 2 ((some .int)) 1 := ⟨List.mem_of_getElem? (i := 311) (by decide +kernel), List.mem_of_getElem? (i := 2) (by decide +kernel), List.mem_of_getElem? (i := 309) (by decide +kernel), List.mem_of_getElem? (i := 310) (by decide +kernel), by decide +kernel, by decide +kernel, by decide +kernel⟩
theorem mX8_isStrategy : MS yX8_isStrategy cX8_isStrategy 1 ((some .boolean)) 1 := ⟨List.mem_of_getElem? (i := 314) (by decide +kernel), List.mem_of_getElem? (i := 2) (by decide +kernel), List.mem_of_getElem? (i := 313) (by decide +kernel), by decide +kernel, by decide +kernel, by decide +kernel⟩
theorem mX5_choose : MS yX5_choose cX5_choose 2 ((some .int)) 2 := ⟨List.mem_of_getElem? (i := 317) (by decide +kernel), List.mem_of_getElem? (i := 27) (by decide +kernel), List.mem_of_getElem? (i := 316) (by decide +kernel), by decide +kernel, by decide +kernel, by decide +kernel⟩
theorem mX5_nextRedex : MS yX5_nextRedex cX5_nextRedex 3 ((some .int)) 2 := ⟨List.mem_of_getElem? (i := 320) (by decide +kernel), List.mem_of_getElem? (i := 27) (by decide +kernel), List.mem_of_getElem? (i := 319) (by decide +kernel), by decide +kernel, by decide +kernel, by decide +kernel⟩
theorem mX5_leftmostInnermost : MS yX5_leftmostInnermost cX5_leftmostInnermost 4 ((some .int)) 1 := ⟨List.mem_of_getElem? (i := 323) (by decide +kernel), List.mem_of_getElem? (i := 27) (by decide +kernel), List.mem_of_getElem? (i := 322) (by decide +kernel), by decide +kernel, by decide +kernel, by decide +kernel⟩
theorem mX5_lastRedex : MS yX5_lastRedex cX5_lastRedex 2 ((some .int)) 1 := ⟨List.mem_of_getElem? (i := 326) (by decide +kernel), List.mem_of_getElem? (i := 27) (by decide +kernel), List.mem_of_getElem? (i := 325) (by decide +kernel), by decide +kernel, by decide +kernel, by decide +kernel⟩
theorem mX5_weakHead : MS yX5_weakHead cX5_weakHead 2 ((some .int)) 1 := ⟨List.mem_of_getElem? (i := 329) (by decide +kernel), List.mem_of_getElem? (i := 27) (by decide +kernel), List.mem_of_getElem? (i := 328) (by decide +kernel), by decide +kernel, by decide +kernel, by decide +kernel⟩
theorem mX9_chosenRedex : MV yX9_chosenRedex cX9_chosenRedex 2 ((some .int)) 1 := ⟨List.mem_of_getElem? (i := 333) (by decide +kernel), List.mem_of_getElem? (i := 5) (by decide +kernel), List.mem_of_getElem? (i := 331) (by decide +kernel), List.mem_of_getElem? (i := 332) (by decide +kernel), by decide +kernel, by decide +kernel, by decide +kernel⟩
theorem mX9_choose : MS yX9_choose cX9_choose 7 ((some .int)) 2 := ⟨List.mem_of_getElem? (i := 337) (by decide +kernel), List.mem_of_getElem? (i := 5) (by decide +kernel), List.mem_of_getElem? (i := 336) (by decide +kernel), by decide +kernel, by decide +kernel, by decide +kernel⟩
theorem mX9_isInnermost : MS yX9_isInnermost cX9_isInnermost 4 ((some .boolean)) 2 := ⟨List.mem_of_getElem? (i := 340) (by decide +kernel), List.mem_of_getElem? (i := 5) (by decide +kernel), List.mem_of_getElem? (i := 339) (by decide +kernel), by decide +kernel, by decide +kernel, by decide +kernel⟩
theorem mX9_end : MS yX9_end cX9_end 4 ((some .int)) 2 := ⟨List.mem_of_getElem? (i := 343) (by decide +kernel), List.mem_of_getElem? (i := 5) (by decide +kernel), List.mem_of_getElem? (i := 342) (by decide +kernel), by decide +kernel, by decide +kernel, by decide +kernel⟩
theorem mX8_freeVariables : MV yX8_freeVariables cX8_freeVariables 4 ((some .int)) 0 := ⟨List.mem_of_getElem? (i := 347) (by decide +kernel), List.mem_of_getElem? (i := 2) (by decide +kernel), List.mem_of_getElem? (i := 345) (by decide +kernel), List.mem_of_getElem? (i := 346) (by decide +kernel), by decide +kernel, by decide +kernel, by decide +kernel⟩
theorem mX8_isVariable : MS yX8_isVariable cX8_isVariable 1 ((some .boolean)) 1 := ⟨List.mem_of_getElem? (i := 350) (by decide +kernel), List.mem_of_getElem? (i := 2) (by decide +kernel), List.mem_of_getElem? (i := 349) (by decide +kernel), by decide +kernel, by decide +kernel, by decide +kernel⟩
theorem mX9_freeVariables : MV yX9_freeVariables cX9_freeVariables 3 ((some .int)) 0 := ⟨List.mem_of_getElem? (i := 354) (by decide +kernel), List.mem_of_getElem? (i := 5) (by decide +kernel), List.mem_of_getElem? (i := 352) (by decide +kernel), List.mem_of_getElem? (i := 353) (by decide +kernel), by decide +kernel, by decide +kernel, by decide +kernel⟩
theorem mX8_step : MV yX8_step cX8_step 3 ((some .int)) 1 := ⟨List.mem_of_getElem? (i := 358) (by decide +kernel), List.mem_of_getElem? (i := 2) (by decide +kernel), List.mem_of_getElem? (i := 356) (by decide +kernel), List.mem_of_getElem? (i := 357) (by decide +kernel), by decide +kernel, by decide +kernel, by decide +kernel⟩
theorem mX6_copyFrom : MV yX6_copyFrom cX6_copyFrom 2 (none) 1 := ⟨List.mem_of_getElem? (i := 362) (by decide +kernel), List.mem_of_getElem? (i := 15) (by decide +kernel), List.mem_of_getElem? (i := 360) (by decide +kernel), List.mem_of_getElem? (i := 361) (by decide +kernel), by decide +kernel, by decide +kernel, by decide +kernel⟩
theorem mX5_contract : MV yX5_contract cX5_contract 5 ((some .boolean)) 2 := ⟨List.mem_of_getElem? (i := 370) (by decide +kernel), List.mem_of_getElem? (i := 27) (by decide +kernel), List.mem_of_getElem? (i := 368) (by decide +kernel), List.mem_of_getElem? (i := 369) (by decide +kernel), by decide +kernel, by decide +kernel, by decide +kernel⟩
theorem mX6_addRange : MV yX6_addRange cX6_addRange 5 (none) 3 := ⟨List.mem_of_getElem? (i := 377) (by decide +kernel), List.mem_of_getElem? (i := 15) (by decide +kernel), List.mem_of_getElem? (i := 375) (by decide +kernel), List.mem_of_getElem? (i := 376) (by decide +kernel), by decide +kernel, by decide +kernel, by decide +kernel⟩
theorem mX5_addContracted : MV yX5_addContracted cX5_addContracted 9 (none) 4 := ⟨List.mem_of_getElem? (i := 381) (by decide +kernel), List.mem_of_getElem? (i := 27) (by decide +kernel), List.mem_of_getElem? (i := 379) (by decide +kernel), List.mem_of_getElem? (i := 380) (by decide +kernel), by decide +kernel, by decide +kernel, by decide +kernel⟩
theorem mX6_isTooLarge : MV yX6_isTooLarge cX6_isTooLarge 1 ((some .boolean)) 0 := ⟨List.mem_of_getElem? (i := 386) (by decide +kernel), List.mem_of_getElem? (i := 15) (by decide +kernel), List.mem_of_getElem? (i := 384) (by decide +kernel), List.mem_of_getElem? (i := 385) (by decide +kernel), by decide +kernel, by decide +kernel, by decide +kernel⟩
theorem mX5_addShifted : MV yX5_addShifted cX5_addShifted 10 (none) 5 := ⟨List.mem_of_getElem? (i := 391) (by decide +kernel), List.mem_of_getElem? (i := 27) (by decide +kernel), List.mem_of_getElem? (i := 389) (by decide +kernel), List.mem_of_getElem? (i := 390) (by decide +kernel), by decide +kernel, by decide +kernel, by decide +kernel⟩
theorem mX5_takeResult : MV yX5_takeResult cX5_takeResult 2 ((some .boolean)) 1 := ⟨List.mem_of_getElem? (i := 395) (by decide +kernel), List.mem_of_getElem? (i := 27) (by decide +kernel), List.mem_of_getElem? (i := 393) (by decide +kernel), List.mem_of_getElem? (i := 394) (by decide +kernel), by decide +kernel, by decide +kernel, by decide +kernel⟩
theorem mX8_actWithCopy : MV yX8_actWithCopy cX8_actWithCopy 1 ((some .int)) 0 := ⟨List.mem_of_getElem? (i := 400) (by decide +kernel), List.mem_of_getElem? (i := 2) (by decide +kernel), List.mem_of_getElem? (i := 398) (by decide +kernel), List.mem_of_getElem? (i := 399) (by decide +kernel), by decide +kernel, by decide +kernel, by decide +kernel⟩
theorem mX1_remember : MV yX1_remember cX1_remember 4 (none) 1 := ⟨List.mem_of_getElem? (i := 404) (by decide +kernel), List.mem_of_getElem? (i := 35) (by decide +kernel), List.mem_of_getElem? (i := 402) (by decide +kernel), List.mem_of_getElem? (i := 403) (by decide +kernel), by decide +kernel, by decide +kernel, by decide +kernel⟩
theorem mX9_step : MV yX9_step cX9_step 3 ((some .int)) 1 := ⟨List.mem_of_getElem? (i := 411) (by decide +kernel), List.mem_of_getElem? (i := 5) (by decide +kernel), List.mem_of_getElem? (i := 409) (by decide +kernel), List.mem_of_getElem? (i := 410) (by decide +kernel), by decide +kernel, by decide +kernel, by decide +kernel⟩
theorem mX9_contract : MV yX9_contract cX9_contract 8 ((some .boolean)) 2 := ⟨List.mem_of_getElem? (i := 415) (by decide +kernel), List.mem_of_getElem? (i := 5) (by decide +kernel), List.mem_of_getElem? (i := 413) (by decide +kernel), List.mem_of_getElem? (i := 414) (by decide +kernel), by decide +kernel, by decide +kernel, by decide +kernel⟩
theorem mX9_put : MV yX9_put cX9_put 2 ((some .boolean)) 1 := ⟨List.mem_of_getElem? (i := 419) (by decide +kernel), List.mem_of_getElem? (i := 5) (by decide +kernel), List.mem_of_getElem? (i := 417) (by decide +kernel), List.mem_of_getElem? (i := 418) (by decide +kernel), by decide +kernel, by decide +kernel, by decide +kernel⟩
theorem mX9_putShifted : MV yX9_putShifted cX9_putShifted 8 ((some .boolean)) 4 := ⟨List.mem_of_getElem? (i := 423) (by decide +kernel), List.mem_of_getElem? (i := 5) (by decide +kernel), List.mem_of_getElem? (i := 421) (by decide +kernel), List.mem_of_getElem? (i := 422) (by decide +kernel), by decide +kernel, by decide +kernel, by decide +kernel⟩
theorem mX9_commit : MV yX9_commit cX9_commit 1 ((some .int)) 0 := ⟨List.mem_of_getElem? (i := 427) (by decide +kernel), List.mem_of_getElem? (i := 5) (by decide +kernel), List.mem_of_getElem? (i := 425) (by decide +kernel), List.mem_of_getElem? (i := 426) (by decide +kernel), by decide +kernel, by decide +kernel, by decide +kernel⟩
theorem mX9_remember : MV yX9_remember cX9_remember 2 (none) 0 := ⟨List.mem_of_getElem? (i := 431) (by decide +kernel), List.mem_of_getElem? (i := 5) (by decide +kernel), List.mem_of_getElem? (i := 429) (by decide +kernel), List.mem_of_getElem? (i := 430) (by decide +kernel), by decide +kernel, by decide +kernel, by decide +kernel⟩
theorem mX9_assign : MS yX9_assign cX9_assign 3 (none) 2 := ⟨List.mem_of_getElem? (i := 434) (by decide +kernel), List.mem_of_getElem? (i := 5) (by decide +kernel), List.mem_of_getElem? (i := 433) (by decide +kernel), by decide +kernel, by decide +kernel, by decide +kernel⟩
theorem mX8_run : MV yX8_run cX8_run 4 ((some .int)) 2 := ⟨List.mem_of_getElem? (i := 438) (by decide +kernel), List.mem_of_getElem? (i := 2) (by decide +kernel), List.mem_of_getElem? (i := 436) (by decide +kernel), List.mem_of_getElem? (i := 437) (by decide +kernel), by decide +kernel, by decide +kernel, by decide +kernel⟩
theorem mX5_perform : MV yX5_perform cX5_perform 5 ((some .int)) 3 := ⟨List.mem_of_getElem? (i := 442) (by decide +kernel), List.mem_of_getElem? (i := 27) (by decide +kernel), List.mem_of_getElem? (i := 440) (by decide +kernel), List.mem_of_getElem? (i := 441) (by decide +kernel), by decide +kernel, by decide +kernel, by decide +kernel⟩
theorem mX9_run : MV yX9_run cX9_run 3 ((some .int)) 2 := ⟨List.mem_of_getElem? (i := 448) (by decide +kernel), List.mem_of_getElem? (i := 5) (by decide +kernel), List.mem_of_getElem? (i := 446) (by decide +kernel), List.mem_of_getElem? (i := 447) (by decide +kernel), by decide +kernel, by decide +kernel, by decide +kernel⟩
theorem mX9_runOn : MV yX9_runOn cX9_runOn 6 ((some .int)) 3 := ⟨List.mem_of_getElem? (i := 453) (by decide +kernel), List.mem_of_getElem? (i := 5) (by decide +kernel), List.mem_of_getElem? (i := 451) (by decide +kernel), List.mem_of_getElem? (i := 452) (by decide +kernel), by decide +kernel, by decide +kernel, by decide +kernel⟩
theorem mX8_abstractTerm : MV yX8_abstractTerm cX8_abstractTerm 1 ((some .int)) 0 := ⟨List.mem_of_getElem? (i := 457) (by decide +kernel), List.mem_of_getElem? (i := 2) (by decide +kernel), List.mem_of_getElem? (i := 455) (by decide +kernel), List.mem_of_getElem? (i := 456) (by decide +kernel), by decide +kernel, by decide +kernel, by decide +kernel⟩
theorem mX6_wrapInAbstraction : MV yX6_wrapInAbstraction cX6_wrapInAbstraction 1 ((some .boolean)) 0 := ⟨List.mem_of_getElem? (i := 461) (by decide +kernel), List.mem_of_getElem? (i := 15) (by decide +kernel), List.mem_of_getElem? (i := 459) (by decide +kernel), List.mem_of_getElem? (i := 460) (by decide +kernel), by decide +kernel, by decide +kernel, by decide +kernel⟩
theorem mX9_abstractTerm : MV yX9_abstractTerm cX9_abstractTerm 1 ((some .int)) 0 := ⟨List.mem_of_getElem? (i := 465) (by decide +kernel), List.mem_of_getElem? (i := 5) (by decide +kernel), List.mem_of_getElem? (i := 463) (by decide +kernel), List.mem_of_getElem? (i := 464) (by decide +kernel), by decide +kernel, by decide +kernel, by decide +kernel⟩
theorem mX9_putBehind : MV yX9_putBehind cX9_putBehind 5 ((some .boolean)) 2 := ⟨List.mem_of_getElem? (i := 469) (by decide +kernel), List.mem_of_getElem? (i := 5) (by decide +kernel), List.mem_of_getElem? (i := 467) (by decide +kernel), List.mem_of_getElem? (i := 468) (by decide +kernel), by decide +kernel, by decide +kernel, by decide +kernel⟩
theorem mX8_applyTo : MV yX8_applyTo cX8_applyTo 3 ((some .int)) 1 := ⟨List.mem_of_getElem? (i := 473) (by decide +kernel), List.mem_of_getElem? (i := 2) (by decide +kernel), List.mem_of_getElem? (i := 471) (by decide +kernel), List.mem_of_getElem? (i := 472) (by decide +kernel), by decide +kernel, by decide +kernel, by decide +kernel⟩
theorem mX8_isSlot : MS yX8_isSlot cX8_isSlot 1 ((some .boolean)) 1 := ⟨List.mem_of_getElem? (i := 476) (by decide +kernel), List.mem_of_getElem? (i := 2) (by decide +kernel), List.mem_of_getElem? (i := 475) (by decide +kernel), by decide +kernel, by decide +kernel, by decide +kernel⟩
theorem mX8_slotTerm : MV yX8_slotTerm cX8_slotTerm 2 ((some (.object "SubstitutionMachine$Term"))) 1 := ⟨List.mem_of_getElem? (i := 480) (by decide +kernel), List.mem_of_getElem? (i := 2) (by decide +kernel), List.mem_of_getElem? (i := 478) (by decide +kernel), List.mem_of_getElem? (i := 479) (by decide +kernel), by decide +kernel, by decide +kernel, by decide +kernel⟩
theorem mX9_applyTo : MV yX9_applyTo cX9_applyTo 4 ((some .int)) 1 := ⟨List.mem_of_getElem? (i := 486) (by decide +kernel), List.mem_of_getElem? (i := 5) (by decide +kernel), List.mem_of_getElem? (i := 484) (by decide +kernel), List.mem_of_getElem? (i := 485) (by decide +kernel), by decide +kernel, by decide +kernel, by decide +kernel⟩
theorem mX9_takeSlot : MV yX9_takeSlot cX9_takeSlot 4 (none) 2 := ⟨List.mem_of_getElem? (i := 490) (by decide +kernel), List.mem_of_getElem? (i := 5) (by decide +kernel), List.mem_of_getElem? (i := 488) (by decide +kernel), List.mem_of_getElem? (i := 489) (by decide +kernel), by decide +kernel, by decide +kernel, by decide +kernel⟩
theorem mX8_substitute : MV yX8_substitute cX8_substitute 4 ((some .int)) 2 := ⟨List.mem_of_getElem? (i := 494) (by decide +kernel), List.mem_of_getElem? (i := 2) (by decide +kernel), List.mem_of_getElem? (i := 492) (by decide +kernel), List.mem_of_getElem? (i := 493) (by decide +kernel), by decide +kernel, by decide +kernel, by decide +kernel⟩
theorem mX5_replaceFree : MV yX5_replaceFree cX5_replaceFree 7 ((some .boolean)) 3 := ⟨List.mem_of_getElem? (i := 498) (by decide +kernel), List.mem_of_getElem? (i := 27) (by decide +kernel), List.mem_of_getElem? (i := 496) (by decide +kernel), List.mem_of_getElem? (i := 497) (by decide +kernel), by decide +kernel, by decide +kernel, by decide +kernel⟩
theorem mX9_substitute : MV yX9_substitute cX9_substitute 6 ((some .int)) 2 := ⟨List.mem_of_getElem? (i := 502) (by decide +kernel), List.mem_of_getElem? (i := 5) (by decide +kernel), List.mem_of_getElem? (i := 500) (by decide +kernel), List.mem_of_getElem? (i := 501) (by decide +kernel), by decide +kernel, by decide +kernel, by decide +kernel⟩
theorem mX8_undo : MV yX8_undo cX8_undo 1 ((some .int)) 0 := ⟨List.mem_of_getElem? (i := 507) (by decide +kernel), List.mem_of_getElem? (i := 2) (by decide +kernel), List.mem_of_getElem? (i := 505) (by decide +kernel), List.mem_of_getElem? (i := 506) (by decide +kernel), by decide +kernel, by decide +kernel, by decide +kernel⟩
theorem mX1_takeBack : MV yX1_takeBack cX1_takeBack 4 ((some .boolean)) 1 := ⟨List.mem_of_getElem? (i := 511) (by decide +kernel), List.mem_of_getElem? (i := 35) (by decide +kernel), List.mem_of_getElem? (i := 509) (by decide +kernel), List.mem_of_getElem? (i := 510) (by decide +kernel), by decide +kernel, by decide +kernel, by decide +kernel⟩
theorem mX1_count : MV yX1_count cX1_count 1 ((some .int)) 0 := ⟨List.mem_of_getElem? (i := 517) (by decide +kernel), List.mem_of_getElem? (i := 35) (by decide +kernel), List.mem_of_getElem? (i := 515) (by decide +kernel), List.mem_of_getElem? (i := 516) (by decide +kernel), by decide +kernel, by decide +kernel, by decide +kernel⟩
theorem mX9_undo : MV yX9_undo cX9_undo 2 ((some .int)) 0 := ⟨List.mem_of_getElem? (i := 521) (by decide +kernel), List.mem_of_getElem? (i := 5) (by decide +kernel), List.mem_of_getElem? (i := 519) (by decide +kernel), List.mem_of_getElem? (i := 520) (by decide +kernel), by decide +kernel, by decide +kernel, by decide +kernel⟩
theorem mX8_stepsOfRun : MV yX8_stepsOfRun cX8_stepsOfRun 3 ((some .int)) 2 := ⟨List.mem_of_getElem? (i := 525) (by decide +kernel), List.mem_of_getElem? (i := 2) (by decide +kernel), List.mem_of_getElem? (i := 523) (by decide +kernel), List.mem_of_getElem? (i := 524) (by decide +kernel), by decide +kernel, by decide +kernel, by decide +kernel⟩
theorem mX8_isPrediction : MS yX8_isPrediction cX8_isPrediction 2 ((some .boolean)) 2 := ⟨List.mem_of_getElem? (i := 528) (by decide +kernel), List.mem_of_getElem? (i := 2) (by decide +kernel), List.mem_of_getElem? (i := 527) (by decide +kernel), by decide +kernel, by decide +kernel, by decide +kernel⟩
theorem mX8_performOnCopy : MV yX8_performOnCopy cX8_performOnCopy 3 ((some .int)) 2 := ⟨List.mem_of_getElem? (i := 532) (by decide +kernel), List.mem_of_getElem? (i := 2) (by decide +kernel), List.mem_of_getElem? (i := 530) (by decide +kernel), List.mem_of_getElem? (i := 531) (by decide +kernel), by decide +kernel, by decide +kernel, by decide +kernel⟩
theorem mX9_stepsOfRun : MV yX9_stepsOfRun cX9_stepsOfRun 3 ((some .int)) 2 := ⟨List.mem_of_getElem? (i := 536) (by decide +kernel), List.mem_of_getElem? (i := 5) (by decide +kernel), List.mem_of_getElem? (i := 534) (by decide +kernel), List.mem_of_getElem? (i := 535) (by decide +kernel), by decide +kernel, by decide +kernel, by decide +kernel⟩
theorem mX8_sizeAfterRun : MV yX8_sizeAfterRun cX8_sizeAfterRun 3 ((some .int)) 2 := ⟨List.mem_of_getElem? (i := 541) (by decide +kernel), List.mem_of_getElem? (i := 2) (by decide +kernel), List.mem_of_getElem? (i := 539) (by decide +kernel), List.mem_of_getElem? (i := 540) (by decide +kernel), by decide +kernel, by decide +kernel, by decide +kernel⟩
theorem mX9_sizeAfterRun : MV yX9_sizeAfterRun cX9_sizeAfterRun 3 ((some .int)) 2 := ⟨List.mem_of_getElem? (i := 545) (by decide +kernel), List.mem_of_getElem? (i := 5) (by decide +kernel), List.mem_of_getElem? (i := 543) (by decide +kernel), List.mem_of_getElem? (i := 544) (by decide +kernel), by decide +kernel, by decide +kernel, by decide +kernel⟩
theorem mX8_normalSize : MV yX8_normalSize cX8_normalSize 1 ((some .int)) 0 := ⟨List.mem_of_getElem? (i := 549) (by decide +kernel), List.mem_of_getElem? (i := 2) (by decide +kernel), List.mem_of_getElem? (i := 547) (by decide +kernel), List.mem_of_getElem? (i := 548) (by decide +kernel), by decide +kernel, by decide +kernel, by decide +kernel⟩
theorem mX8_normaliseInto : MV yX8_normaliseInto cX8_normaliseInto 3 ((some .boolean)) 2 := ⟨List.mem_of_getElem? (i := 553) (by decide +kernel), List.mem_of_getElem? (i := 2) (by decide +kernel), List.mem_of_getElem? (i := 551) (by decide +kernel), List.mem_of_getElem? (i := 552) (by decide +kernel), by decide +kernel, by decide +kernel, by decide +kernel⟩
theorem mX9_normalSize : MV yX9_normalSize cX9_normalSize 1 ((some .int)) 0 := ⟨List.mem_of_getElem? (i := 558) (by decide +kernel), List.mem_of_getElem? (i := 5) (by decide +kernel), List.mem_of_getElem? (i := 556) (by decide +kernel), List.mem_of_getElem? (i := 557) (by decide +kernel), by decide +kernel, by decide +kernel, by decide +kernel⟩
theorem mX9_normalize : MV yX9_normalize cX9_normalize 2 ((some .boolean)) 1 := ⟨List.mem_of_getElem? (i := 562) (by decide +kernel), List.mem_of_getElem? (i := 5) (by decide +kernel), List.mem_of_getElem? (i := 560) (by decide +kernel), List.mem_of_getElem? (i := 561) (by decide +kernel), by decide +kernel, by decide +kernel, by decide +kernel⟩
theorem mX8_normalTokenAt : MV yX8_normalTokenAt cX8_normalTokenAt 2 ((some .int)) 1 := ⟨List.mem_of_getElem? (i := 566) (by decide +kernel), List.mem_of_getElem? (i := 2) (by decide +kernel), List.mem_of_getElem? (i := 564) (by decide +kernel), List.mem_of_getElem? (i := 565) (by decide +kernel), by decide +kernel, by decide +kernel, by decide +kernel⟩
theorem mX9_normalTokenAt : MV yX9_normalTokenAt cX9_normalTokenAt 2 ((some .int)) 1 := ⟨List.mem_of_getElem? (i := 570) (by decide +kernel), List.mem_of_getElem? (i := 5) (by decide +kernel), List.mem_of_getElem? (i := 568) (by decide +kernel), List.mem_of_getElem? (i := 569) (by decide +kernel), by decide +kernel, by decide +kernel, by decide +kernel⟩
theorem mX8_isEquivalent : MV yX8_isEquivalent cX8_isEquivalent 3 ((some .int)) 1 := ⟨List.mem_of_getElem? (i := 574) (by decide +kernel), List.mem_of_getElem? (i := 2) (by decide +kernel), List.mem_of_getElem? (i := 572) (by decide +kernel), List.mem_of_getElem? (i := 573) (by decide +kernel), by decide +kernel, by decide +kernel, by decide +kernel⟩
theorem mX6_hasSameTokens : MV yX6_hasSameTokens cX6_hasSameTokens 3 ((some .boolean)) 1 := ⟨List.mem_of_getElem? (i := 578) (by decide +kernel), List.mem_of_getElem? (i := 15) (by decide +kernel), List.mem_of_getElem? (i := 576) (by decide +kernel), List.mem_of_getElem? (i := 577) (by decide +kernel), by decide +kernel, by decide +kernel, by decide +kernel⟩
theorem mX9_isEquivalent : MV yX9_isEquivalent cX9_isEquivalent 4 ((some .int)) 1 := ⟨List.mem_of_getElem? (i := 582) (by decide +kernel), List.mem_of_getElem? (i := 5) (by decide +kernel), List.mem_of_getElem? (i := 580) (by decide +kernel), List.mem_of_getElem? (i := 581) (by decide +kernel), by decide +kernel, by decide +kernel, by decide +kernel⟩
theorem mX8_machineSteps : MV yX8_machineSteps cX8_machineSteps 3 ((some .int)) 2 := ⟨List.mem_of_getElem? (i := 586) (by decide +kernel), List.mem_of_getElem? (i := 2) (by decide +kernel), List.mem_of_getElem? (i := 584) (by decide +kernel), List.mem_of_getElem? (i := 585) (by decide +kernel), by decide +kernel, by decide +kernel, by decide +kernel⟩
theorem mX2_work : MV yX2_work cX2_work 5 ((some .boolean)) 2 := ⟨List.mem_of_getElem? (i := 590) (by decide +kernel), List.mem_of_getElem? (i := 31) (by decide +kernel), List.mem_of_getElem? (i := 588) (by decide +kernel), List.mem_of_getElem? (i := 589) (by decide +kernel), by decide +kernel, by decide +kernel, by decide +kernel⟩
theorem mX2_start : MV yX2_start cX2_start 3 (none) 1 := ⟨List.mem_of_getElem? (i := 597) (by decide +kernel), List.mem_of_getElem? (i := 31) (by decide +kernel), List.mem_of_getElem? (i := 595) (by decide +kernel), List.mem_of_getElem? (i := 596) (by decide +kernel), by decide +kernel, by decide +kernel, by decide +kernel⟩
theorem mX0_clear : MV yX0_clear cX0_clear 1 (none) 0 := ⟨List.mem_of_getElem? (i := 601) (by decide +kernel), List.mem_of_getElem? (i := 72) (by decide +kernel), List.mem_of_getElem? (i := 599) (by decide +kernel), List.mem_of_getElem? (i := 600) (by decide +kernel), by decide +kernel, by decide +kernel, by decide +kernel⟩
theorem mX0_add : MV yX0_add cX0_add 2 (none) 1 := ⟨List.mem_of_getElem? (i := 607) (by decide +kernel), List.mem_of_getElem? (i := 72) (by decide +kernel), List.mem_of_getElem? (i := 605) (by decide +kernel), List.mem_of_getElem? (i := 606) (by decide +kernel), by decide +kernel, by decide +kernel, by decide +kernel⟩
theorem mX0_put : MV yX0_put cX0_put 4 (none) 3 := ⟨List.mem_of_getElem? (i := 611) (by decide +kernel), List.mem_of_getElem? (i := 72) (by decide +kernel), List.mem_of_getElem? (i := 609) (by decide +kernel), List.mem_of_getElem? (i := 610) (by decide +kernel), by decide +kernel, by decide +kernel, by decide +kernel⟩
theorem mX0_length : MV yX0_length cX0_length 1 ((some .int)) 0 := ⟨List.mem_of_getElem? (i := 615) (by decide +kernel), List.mem_of_getElem? (i := 72) (by decide +kernel), List.mem_of_getElem? (i := 613) (by decide +kernel), List.mem_of_getElem? (i := 614) (by decide +kernel), by decide +kernel, by decide +kernel, by decide +kernel⟩
theorem mX2_firstPlace : MV yX2_firstPlace cX2_firstPlace 3 ((some .int)) 1 := ⟨List.mem_of_getElem? (i := 619) (by decide +kernel), List.mem_of_getElem? (i := 31) (by decide +kernel), List.mem_of_getElem? (i := 617) (by decide +kernel), List.mem_of_getElem? (i := 618) (by decide +kernel), by decide +kernel, by decide +kernel, by decide +kernel⟩
theorem mX2_ruleAt : MV yX2_ruleAt cX2_ruleAt 5 ((some .int)) 2 := ⟨List.mem_of_getElem? (i := 623) (by decide +kernel), List.mem_of_getElem? (i := 31) (by decide +kernel), List.mem_of_getElem? (i := 621) (by decide +kernel), List.mem_of_getElem? (i := 622) (by decide +kernel), by decide +kernel, by decide +kernel, by decide +kernel⟩
theorem mX0_token : MV yX0_token cX0_token 2 ((some .int)) 1 := ⟨List.mem_of_getElem? (i := 627) (by decide +kernel), List.mem_of_getElem? (i := 72) (by decide +kernel), List.mem_of_getElem? (i := 625) (by decide +kernel), List.mem_of_getElem? (i := 626) (by decide +kernel), by decide +kernel, by decide +kernel, by decide +kernel⟩
theorem mX2_rewrite : MV yX2_rewrite cX2_rewrite 4 (none) 2 := ⟨List.mem_of_getElem? (i := 631) (by decide +kernel), List.mem_of_getElem? (i := 31) (by decide +kernel), List.mem_of_getElem? (i := 629) (by decide +kernel), List.mem_of_getElem? (i := 630) (by decide +kernel), by decide +kernel, by decide +kernel, by decide +kernel⟩
theorem mX0_addRange : MV yX0_addRange cX0_addRange 5 (none) 3 := ⟨List.mem_of_getElem? (i := 635) (by decide +kernel), List.mem_of_getElem? (i := 72) (by decide +kernel), List.mem_of_getElem? (i := 633) (by decide +kernel), List.mem_of_getElem? (i := 634) (by decide +kernel), by decide +kernel, by decide +kernel, by decide +kernel⟩
theorem mX2_writeBeta : MV yX2_writeBeta cX2_writeBeta 2 (none) 1 := ⟨List.mem_of_getElem? (i := 640) (by decide +kernel), List.mem_of_getElem? (i := 31) (by decide +kernel), List.mem_of_getElem? (i := 638) (by decide +kernel), List.mem_of_getElem? (i := 639) (by decide +kernel), by decide +kernel, by decide +kernel, by decide +kernel⟩
theorem mX0_addClosure : MV yX0_addClosure cX0_addClosure 3 (none) 2 := ⟨List.mem_of_getElem? (i := 644) (by decide +kernel), List.mem_of_getElem? (i := 72) (by decide +kernel), List.mem_of_getElem? (i := 642) (by decide +kernel), List.mem_of_getElem? (i := 643) (by decide +kernel), by decide +kernel, by decide +kernel, by decide +kernel⟩
theorem mX0_behind : MV yX0_behind cX0_behind 5 ((some .int)) 2 := ⟨List.mem_of_getElem? (i := 648) (by decide +kernel), List.mem_of_getElem? (i := 72) (by decide +kernel), List.mem_of_getElem? (i := 646) (by decide +kernel), List.mem_of_getElem? (i := 647) (by decide +kernel), by decide +kernel, by decide +kernel, by decide +kernel⟩
theorem mX0_entriesAt : MV yX0_entriesAt cX0_entriesAt 2 ((some .int)) 1 := ⟨List.mem_of_getElem? (i := 653) (by decide +kernel), List.mem_of_getElem? (i := 72) (by decide +kernel), List.mem_of_getElem? (i := 651) (by decide +kernel), List.mem_of_getElem? (i := 652) (by decide +kernel), by decide +kernel, by decide +kernel, by decide +kernel⟩
theorem mX2_writeApply : MV yX2_writeApply cX2_writeApply 7 (none) 1 := ⟨List.mem_of_getElem? (i := 657) (by decide +kernel), List.mem_of_getElem? (i := 31) (by decide +kernel), List.mem_of_getElem? (i := 655) (by decide +kernel), List.mem_of_getElem? (i := 656) (by decide +kernel), by decide +kernel, by decide +kernel, by decide +kernel⟩
theorem mX0_shiftAt : MV yX0_shiftAt cX0_shiftAt 2 ((some .int)) 1 := ⟨List.mem_of_getElem? (i := 662) (by decide +kernel), List.mem_of_getElem? (i := 72) (by decide +kernel), List.mem_of_getElem? (i := 660) (by decide +kernel), List.mem_of_getElem? (i := 661) (by decide +kernel), by decide +kernel, by decide +kernel, by decide +kernel⟩
theorem mX2_writeAbstract : MV yX2_writeAbstract cX2_writeAbstract 6 (none) 1 := ⟨List.mem_of_getElem? (i := 666) (by decide +kernel), List.mem_of_getElem? (i := 31) (by decide +kernel), List.mem_of_getElem? (i := 664) (by decide +kernel), List.mem_of_getElem? (i := 665) (by decide +kernel), by decide +kernel, by decide +kernel, by decide +kernel⟩
theorem mX0_isTooLarge : MV yX0_isTooLarge cX0_isTooLarge 1 ((some .boolean)) 0 := ⟨List.mem_of_getElem? (i := 670) (by decide +kernel), List.mem_of_getElem? (i := 72) (by decide +kernel), List.mem_of_getElem? (i := 668) (by decide +kernel), List.mem_of_getElem? (i := 669) (by decide +kernel), by decide +kernel, by decide +kernel, by decide +kernel⟩
theorem mX2_writeLookup : MV yX2_writeLookup cX2_writeLookup 5 (none) 1 := ⟨List.mem_of_getElem? (i := 674) (by decide +kernel), List.mem_of_getElem? (i := 31) (by decide +kernel), List.mem_of_getElem? (i := 672) (by decide +kernel), List.mem_of_getElem? (i := 673) (by decide +kernel), by decide +kernel, by decide +kernel, by decide +kernel⟩
theorem mX2_writeMerge : MV yX2_writeMerge cX2_writeMerge 12 (none) 1 := ⟨List.mem_of_getElem? (i := 678) (by decide +kernel), List.mem_of_getElem? (i := 31) (by decide +kernel), List.mem_of_getElem? (i := 676) (by decide +kernel), List.mem_of_getElem? (i := 677) (by decide +kernel), by decide +kernel, by decide +kernel, by decide +kernel⟩
theorem mX2_applications : MV yX2_applications cX2_applications 2 ((some .int)) 1 := ⟨List.mem_of_getElem? (i := 683) (by decide +kernel), List.mem_of_getElem? (i := 31) (by decide +kernel), List.mem_of_getElem? (i := 681) (by decide +kernel), List.mem_of_getElem? (i := 682) (by decide +kernel), by decide +kernel, by decide +kernel, by decide +kernel⟩
theorem mX9_machineSteps : MV yX9_machineSteps cX9_machineSteps 3 ((some .int)) 2 := ⟨List.mem_of_getElem? (i := 687) (by decide +kernel), List.mem_of_getElem? (i := 5) (by decide +kernel), List.mem_of_getElem? (i := 685) (by decide +kernel), List.mem_of_getElem? (i := 686) (by decide +kernel), by decide +kernel, by decide +kernel, by decide +kernel⟩
theorem mX9_machine : MV yX9_machine cX9_machine 6 ((some .boolean)) 1 := ⟨List.mem_of_getElem? (i := 692) (by decide +kernel), List.mem_of_getElem? (i := 5) (by decide +kernel), List.mem_of_getElem? (i := 690) (by decide +kernel), List.mem_of_getElem? (i := 691) (by decide +kernel), by decide +kernel, by decide +kernel, by decide +kernel⟩
theorem mX9_ruleAt : MV yX9_ruleAt cX9_ruleAt 4 ((some .int)) 2 := ⟨List.mem_of_getElem? (i := 698) (by decide +kernel), List.mem_of_getElem? (i := 5) (by decide +kernel), List.mem_of_getElem? (i := 696) (by decide +kernel), List.mem_of_getElem? (i := 697) (by decide +kernel), by decide +kernel, by decide +kernel, by decide +kernel⟩
theorem mX9_apply : MV yX9_apply cX9_apply 12 (none) 2 := ⟨List.mem_of_getElem? (i := 702) (by decide +kernel), List.mem_of_getElem? (i := 5) (by decide +kernel), List.mem_of_getElem? (i := 700) (by decide +kernel), List.mem_of_getElem? (i := 701) (by decide +kernel), by decide +kernel, by decide +kernel, by decide +kernel⟩
theorem mX9_addPart : MV yX9_addPart cX9_addPart 4 (none) 2 := ⟨List.mem_of_getElem? (i := 708) (by decide +kernel), List.mem_of_getElem? (i := 5) (by decide +kernel), List.mem_of_getElem? (i := 706) (by decide +kernel), List.mem_of_getElem? (i := 707) (by decide +kernel), by decide +kernel, by decide +kernel, by decide +kernel⟩
theorem mX9_add : MV yX9_add cX9_add 2 (none) 1 := ⟨List.mem_of_getElem? (i := 712) (by decide +kernel), List.mem_of_getElem? (i := 5) (by decide +kernel), List.mem_of_getElem? (i := 710) (by decide +kernel), List.mem_of_getElem? (i := 711) (by decide +kernel), by decide +kernel, by decide +kernel, by decide +kernel⟩
theorem mX9_merge : MV yX9_merge cX9_merge 13 (none) 4 := ⟨List.mem_of_getElem? (i := 716) (by decide +kernel), List.mem_of_getElem? (i := 5) (by decide +kernel), List.mem_of_getElem? (i := 714) (by decide +kernel), List.mem_of_getElem? (i := 715) (by decide +kernel), by decide +kernel, by decide +kernel, by decide +kernel⟩
theorem mX8_machinePeak : MV yX8_machinePeak cX8_machinePeak 2 ((some .int)) 1 := ⟨List.mem_of_getElem? (i := 720) (by decide +kernel), List.mem_of_getElem? (i := 2) (by decide +kernel), List.mem_of_getElem? (i := 718) (by decide +kernel), List.mem_of_getElem? (i := 719) (by decide +kernel), by decide +kernel, by decide +kernel, by decide +kernel⟩
theorem mX2_peak : MV yX2_peak cX2_peak 1 ((some .int)) 0 := ⟨List.mem_of_getElem? (i := 724) (by decide +kernel), List.mem_of_getElem? (i := 31) (by decide +kernel), List.mem_of_getElem? (i := 722) (by decide +kernel), List.mem_of_getElem? (i := 723) (by decide +kernel), by decide +kernel, by decide +kernel, by decide +kernel⟩
theorem mX9_machinePeak : MV yX9_machinePeak cX9_machinePeak 2 ((some .int)) 1 := ⟨List.mem_of_getElem? (i := 728) (by decide +kernel), List.mem_of_getElem? (i := 5) (by decide +kernel), List.mem_of_getElem? (i := 726) (by decide +kernel), List.mem_of_getElem? (i := 727) (by decide +kernel), by decide +kernel, by decide +kernel, by decide +kernel⟩
theorem mX8_runScript : MV yX8_runScript cX8_runScript 6 ((some .int)) 2 := ⟨List.mem_of_getElem? (i := 732) (by decide +kernel), List.mem_of_getElem? (i := 2) (by decide +kernel), List.mem_of_getElem? (i := 730) (by decide +kernel), List.mem_of_getElem? (i := 731) (by decide +kernel), by decide +kernel, by decide +kernel, by decide +kernel⟩
theorem mX8_withoutLowGroups : MS yX8_withoutLowGroups cX8_withoutLowGroups 6 ((some .long)) 2 := ⟨List.mem_of_getElem? (i := 736) (by decide +kernel), List.mem_of_getElem? (i := 2) (by decide +kernel), List.mem_of_getElem? (i := 735) (by decide +kernel), by decide +kernel, by decide +kernel, by decide +kernel⟩
theorem mX8_commandSucceeds : MV yX8_commandSucceeds cX8_commandSucceeds 4 ((some .boolean)) 1 := ⟨List.mem_of_getElem? (i := 740) (by decide +kernel), List.mem_of_getElem? (i := 2) (by decide +kernel), List.mem_of_getElem? (i := 738) (by decide +kernel), List.mem_of_getElem? (i := 739) (by decide +kernel), by decide +kernel, by decide +kernel, by decide +kernel⟩
theorem mX9_runScript : MV yX9_runScript cX9_runScript 6 ((some .int)) 2 := ⟨List.mem_of_getElem? (i := 744) (by decide +kernel), List.mem_of_getElem? (i := 5) (by decide +kernel), List.mem_of_getElem? (i := 742) (by decide +kernel), List.mem_of_getElem? (i := 743) (by decide +kernel), by decide +kernel, by decide +kernel, by decide +kernel⟩
theorem mX9_thousands : MS yX9_thousands cX9_thousands 4 ((some .long)) 1 := ⟨List.mem_of_getElem? (i := 748) (by decide +kernel), List.mem_of_getElem? (i := 5) (by decide +kernel), List.mem_of_getElem? (i := 747) (by decide +kernel), by decide +kernel, by decide +kernel, by decide +kernel⟩
theorem mX9_command : MV yX9_command cX9_command 8 ((some .boolean)) 3 := ⟨List.mem_of_getElem? (i := 752) (by decide +kernel), List.mem_of_getElem? (i := 5) (by decide +kernel), List.mem_of_getElem? (i := 750) (by decide +kernel), List.mem_of_getElem? (i := 751) (by decide +kernel), by decide +kernel, by decide +kernel, by decide +kernel⟩
theorem mX8_observe : MV yX8_observe cX8_observe 3 ((some .int)) 2 := ⟨List.mem_of_getElem? (i := 756) (by decide +kernel), List.mem_of_getElem? (i := 2) (by decide +kernel), List.mem_of_getElem? (i := 754) (by decide +kernel), List.mem_of_getElem? (i := 755) (by decide +kernel), by decide +kernel, by decide +kernel, by decide +kernel⟩
theorem mX3_add : MV yX3_add cX3_add 3 (none) 2 := ⟨List.mem_of_getElem? (i := 760) (by decide +kernel), List.mem_of_getElem? (i := 43) (by decide +kernel), List.mem_of_getElem? (i := 758) (by decide +kernel), List.mem_of_getElem? (i := 759) (by decide +kernel), by decide +kernel, by decide +kernel, by decide +kernel⟩
theorem mX3_dropOldest : MV yX3_dropOldest cX3_dropOldest 2 (none) 0 := ⟨List.mem_of_getElem? (i := 764) (by decide +kernel), List.mem_of_getElem? (i := 43) (by decide +kernel), List.mem_of_getElem? (i := 762) (by decide +kernel), List.mem_of_getElem? (i := 763) (by decide +kernel), by decide +kernel, by decide +kernel, by decide +kernel⟩
theorem mX3_count : MV yX3_count cX3_count 1 ((some .int)) 0 := ⟨List.mem_of_getElem? (i := 768) (by decide +kernel), List.mem_of_getElem? (i := 43) (by decide +kernel), List.mem_of_getElem? (i := 766) (by decide +kernel), List.mem_of_getElem? (i := 767) (by decide +kernel), by decide +kernel, by decide +kernel, by decide +kernel⟩
theorem mX9_observe : MV yX9_observe cX9_observe 4 ((some .int)) 2 := ⟨List.mem_of_getElem? (i := 772) (by decide +kernel), List.mem_of_getElem? (i := 5) (by decide +kernel), List.mem_of_getElem? (i := 770) (by decide +kernel), List.mem_of_getElem? (i := 771) (by decide +kernel), by decide +kernel, by decide +kernel, by decide +kernel⟩
theorem mX8_forgetAfter : MV yX8_forgetAfter cX8_forgetAfter 2 ((some .int)) 1 := ⟨List.mem_of_getElem? (i := 777) (by decide +kernel), List.mem_of_getElem? (i := 2) (by decide +kernel), List.mem_of_getElem? (i := 775) (by decide +kernel), List.mem_of_getElem? (i := 776) (by decide +kernel), by decide +kernel, by decide +kernel, by decide +kernel⟩
theorem mX3_keepUpTo : MV yX3_keepUpTo cX3_keepUpTo 4 (none) 1 := ⟨List.mem_of_getElem? (i := 781) (by decide +kernel), List.mem_of_getElem? (i := 43) (by decide +kernel), List.mem_of_getElem? (i := 779) (by decide +kernel), List.mem_of_getElem? (i := 780) (by decide +kernel), by decide +kernel, by decide +kernel, by decide +kernel⟩
theorem mX9_forgetAfter : MV yX9_forgetAfter cX9_forgetAfter 4 ((some .int)) 1 := ⟨List.mem_of_getElem? (i := 785) (by decide +kernel), List.mem_of_getElem? (i := 5) (by decide +kernel), List.mem_of_getElem? (i := 783) (by decide +kernel), List.mem_of_getElem? (i := 784) (by decide +kernel), by decide +kernel, by decide +kernel, by decide +kernel⟩
theorem mX8_possibleStrategies : MV yX8_possibleStrategies cX8_possibleStrategies 3 ((some .int)) 0 := ⟨List.mem_of_getElem? (i := 789) (by decide +kernel), List.mem_of_getElem? (i := 2) (by decide +kernel), List.mem_of_getElem? (i := 787) (by decide +kernel), List.mem_of_getElem? (i := 788) (by decide +kernel), by decide +kernel, by decide +kernel, by decide +kernel⟩
theorem mX8_observationsHold : MV yX8_observationsHold cX8_observationsHold 4 ((some .boolean)) 1 := ⟨List.mem_of_getElem? (i := 793) (by decide +kernel), List.mem_of_getElem? (i := 2) (by decide +kernel), List.mem_of_getElem? (i := 791) (by decide +kernel), List.mem_of_getElem? (i := 792) (by decide +kernel), by decide +kernel, by decide +kernel, by decide +kernel⟩
theorem mX3_greatestLimit : MV yX3_greatestLimit cX3_greatestLimit 3 ((some .int)) 0 := ⟨List.mem_of_getElem? (i := 798) (by decide +kernel), List.mem_of_getElem? (i := 43) (by decide +kernel), List.mem_of_getElem? (i := 796) (by decide +kernel), List.mem_of_getElem? (i := 797) (by decide +kernel), by decide +kernel, by decide +kernel, by decide +kernel⟩
theorem mX3_allow : MV yX3_allow cX3_allow 4 ((some .boolean)) 2 := ⟨List.mem_of_getElem? (i := 803) (by decide +kernel), List.mem_of_getElem? (i := 43) (by decide +kernel), List.mem_of_getElem? (i := 801) (by decide +kernel), List.mem_of_getElem? (i := 802) (by decide +kernel), by decide +kernel, by decide +kernel, by decide +kernel⟩
theorem mX9_possibleStrategies : MV yX9_possibleStrategies cX9_possibleStrategies 5 ((some .int)) 0 := ⟨List.mem_of_getElem? (i := 807) (by decide +kernel), List.mem_of_getElem? (i := 5) (by decide +kernel), List.mem_of_getElem? (i := 805) (by decide +kernel), List.mem_of_getElem? (i := 806) (by decide +kernel), by decide +kernel, by decide +kernel, by decide +kernel⟩
theorem mX8_setSeed : MV yX8_setSeed cX8_setSeed 5 ((some .long)) 1 := ⟨List.mem_of_getElem? (i := 811) (by decide +kernel), List.mem_of_getElem? (i := 2) (by decide +kernel), List.mem_of_getElem? (i := 809) (by decide +kernel), List.mem_of_getElem? (i := 810) (by decide +kernel), by decide +kernel, by decide +kernel, by decide +kernel⟩
theorem mX9_setSeed : MV yX9_setSeed cX9_setSeed 5 ((some .long)) 1 := ⟨List.mem_of_getElem? (i := 815) (by decide +kernel), List.mem_of_getElem? (i := 5) (by decide +kernel), List.mem_of_getElem? (i := 813) (by decide +kernel), List.mem_of_getElem? (i := 814) (by decide +kernel), by decide +kernel, by decide +kernel, by decide +kernel⟩
theorem mX8_randomReduction : MV yX8_randomReduction cX8_randomReduction 4 ((some .int)) 1 := ⟨List.mem_of_getElem? (i := 820) (by decide +kernel), List.mem_of_getElem? (i := 2) (by decide +kernel), List.mem_of_getElem? (i := 818) (by decide +kernel), List.mem_of_getElem? (i := 819) (by decide +kernel), by decide +kernel, by decide +kernel, by decide +kernel⟩
theorem mX8_randomStepOnCopy : MV yX8_randomStepOnCopy cX8_randomStepOnCopy 3 (none) 0 := ⟨List.mem_of_getElem? (i := 824) (by decide +kernel), List.mem_of_getElem? (i := 2) (by decide +kernel), List.mem_of_getElem? (i := 822) (by decide +kernel), List.mem_of_getElem? (i := 823) (by decide +kernel), by decide +kernel, by decide +kernel, by decide +kernel⟩
theorem mX5_numberedRedex : MS yX5_numberedRedex cX5_numberedRedex 4 ((some .int)) 2 := ⟨List.mem_of_getElem? (i := 829) (by decide +kernel), List.mem_of_getElem? (i := 27) (by decide +kernel), List.mem_of_getElem? (i := 828) (by decide +kernel), by decide +kernel, by decide +kernel, by decide +kernel⟩
theorem mX9_randomReduction : MV yX9_randomReduction cX9_randomReduction 6 ((some .int)) 1 := ⟨List.mem_of_getElem? (i := 833) (by decide +kernel), List.mem_of_getElem? (i := 5) (by decide +kernel), List.mem_of_getElem? (i := 831) (by decide +kernel), List.mem_of_getElem? (i := 832) (by decide +kernel), by decide +kernel, by decide +kernel, by decide +kernel⟩
theorem mX9_redexNumber : MS yX9_redexNumber cX9_redexNumber 4 ((some .int)) 2 := ⟨List.mem_of_getElem? (i := 839) (by decide +kernel), List.mem_of_getElem? (i := 5) (by decide +kernel), List.mem_of_getElem? (i := 838) (by decide +kernel), by decide +kernel, by decide +kernel, by decide +kernel⟩
theorem mX8_save : MV yX8_save cX8_save 2 ((some .int)) 1 := ⟨List.mem_of_getElem? (i := 843) (by decide +kernel), List.mem_of_getElem? (i := 2) (by decide +kernel), List.mem_of_getElem? (i := 841) (by decide +kernel), List.mem_of_getElem? (i := 842) (by decide +kernel), by decide +kernel, by decide +kernel, by decide +kernel⟩
theorem mX9_save : MV yX9_save cX9_save 3 ((some .int)) 1 := ⟨List.mem_of_getElem? (i := 847) (by decide +kernel), List.mem_of_getElem? (i := 5) (by decide +kernel), List.mem_of_getElem? (i := 845) (by decide +kernel), List.mem_of_getElem? (i := 846) (by decide +kernel), by decide +kernel, by decide +kernel, by decide +kernel⟩
theorem mX8_restore : MV yX8_restore cX8_restore 3 ((some .int)) 1 := ⟨List.mem_of_getElem? (i := 851) (by decide +kernel), List.mem_of_getElem? (i := 2) (by decide +kernel), List.mem_of_getElem? (i := 849) (by decide +kernel), List.mem_of_getElem? (i := 850) (by decide +kernel), by decide +kernel, by decide +kernel, by decide +kernel⟩
theorem mX9_restore : MV yX9_restore cX9_restore 2 ((some .int)) 1 := ⟨List.mem_of_getElem? (i := 855) (by decide +kernel), List.mem_of_getElem? (i := 5) (by decide +kernel), List.mem_of_getElem? (i := 853) (by decide +kernel), List.mem_of_getElem? (i := 854) (by decide +kernel), by decide +kernel, by decide +kernel, by decide +kernel⟩
theorem q_min1 : Cond.static Lib.Math.min.name ∈ wsL_law := List.mem_of_getElem? (i := 250) (by decide +kernel)
theorem q_max1 : Cond.static Lib.Math.max.name ∈ wsL_law := List.mem_of_getElem? (i := 592) (by decide +kernel)
theorem q_min2 : Cond.code Lib.Math.min.name Lib.Math.min.code 2 (some .int) ∈ wsL_law := List.mem_of_getElem? (i := 252) (by decide +kernel)
theorem q_max2 : Cond.code Lib.Math.max.name Lib.Math.max.code 2 (some .int) ∈ wsL_law := List.mem_of_getElem? (i := 593) (by decide +kernel)
theorem q_math1 : Cond.initialized "java/lang/Math" ∈ wsL_law := List.mem_of_getElem? (i := 251) (by decide +kernel)
theorem q_cp1 : Cond.native arraycopyName ∈ wsL_law := List.mem_of_getElem? (i := 364) (by decide +kernel)
theorem q_cp2 : Cond.static arraycopyName ∈ wsL_law := List.mem_of_getElem? (i := 365) (by decide +kernel)
theorem q_cp3 : Cond.initialized "java/lang/System" ∈ wsL_law := List.mem_of_getElem? (i := 366) (by decide +kernel)
end
section
theorem dX0_init_0 : decode cX0_init 0 = .ok (.aload_n 0, 1) := by decide +kernel
theorem dX0_init_1 : decode cX0_init 1 = .ok (.invokespecial 3, 3) := by decide +kernel
theorem dX0_init_4 : decode cX0_init 4 = .ok (.aload_n 0, 1) := by decide +kernel
theorem dX0_init_5 : decode cX0_init 5 = .ok (.sipush 300, 3) := by decide +kernel
theorem dX0_init_8 : decode cX0_init 8 = .ok (.newarray .int, 2) := by decide +kernel
theorem dX0_init_10 : decode cX0_init 10 = .ok (.putfield 9, 3) := by decide +kernel
theorem dX0_init_13 : decode cX0_init 13 = .ok (.aload_n 0, 1) := by decide +kernel
theorem dX0_init_14 : decode cX0_init 14 = .ok (.sipush 300, 3) := by decide +kernel
theorem dX0_init_17 : decode cX0_init 17 = .ok (.newarray .int, 2) := by decide +kernel
theorem dX0_init_19 : decode cX0_init 19 = .ok (.putfield 15, 3) := by decide +kernel
theorem dX0_init_22 : decode cX0_init 22 = .ok (.aload_n 0, 1) := by decide +kernel
theorem dX0_init_23 : decode cX0_init 23 = .ok (.sipush 300, 3) := by decide +kernel
theorem dX0_init_26 : decode cX0_init 26 = .ok (.newarray .int, 2) := by decide +kernel
theorem dX0_init_28 : decode cX0_init 28 = .ok (.putfield 18, 3) := by decide +kernel
theorem dX0_init_31 : decode cX0_init 31 = .ok (.aload_n 0, 1) := by decide +kernel
theorem dX0_init_32 : decode cX0_init 32 = .ok (.iconst 0, 1) := by decide +kernel
theorem dX0_init_33 : decode cX0_init 33 = .ok (.putfield 21, 3) := by decide +kernel
theorem dX0_init_36 : decode cX0_init 36 = .ok (.aload_n 0, 1) := by decide +kernel
theorem dX0_init_37 : decode cX0_init 37 = .ok (.iconst 0, 1) := by decide +kernel
theorem dX0_init_38 : decode cX0_init 38 = .ok (.putfield 25, 3) := by decide +kernel
theorem dX0_init_41 : decode cX0_init 41 = .ok (.return_, 1) := by decide +kernel
theorem dX0_length_0 : decode cX0_length 0 = .ok (.aload_n 0, 1) := by decide +kernel
theorem dX0_length_1 : decode cX0_length 1 = .ok (.getfield 21, 3) := by decide +kernel
theorem dX0_length_4 : decode cX0_length 4 = .ok (.ireturn, 1) := by decide +kernel
theorem dX0_isTooLarge_0 : decode cX0_isTooLarge 0 = .ok (.aload_n 0, 1) := by decide +kernel
theorem dX0_isTooLarge_1 : decode cX0_isTooLarge 1 = .ok (.getfield 25, 3) := by decide +kernel
theorem dX0_isTooLarge_4 : decode cX0_isTooLarge 4 = .ok (.ireturn, 1) := by decide +kernel
theorem dX0_token_0 : decode cX0_token 0 = .ok (.iload_n 1, 1) := by decide +kernel
theorem dX0_token_1 : decode cX0_token 1 = .ok (.ifCond .lt 20, 3) := by decide +kernel
theorem dX0_token_4 : decode cX0_token 4 = .ok (.iload_n 1, 1) := by decide +kernel
theorem dX0_token_5 : decode cX0_token 5 = .ok (.aload_n 0, 1) := by decide +kernel
theorem dX0_token_6 : decode cX0_token 6 = .ok (.getfield 21, 3) := by decide +kernel
theorem dX0_token_9 : decode cX0_token 9 = .ok (.if_icmp .ge 12, 3) := by decide +kernel
theorem dX0_token_12 : decode cX0_token 12 = .ok (.aload_n 0, 1) := by decide +kernel
theorem dX0_token_13 : decode cX0_token 13 = .ok (.getfield 9, 3) := by decide +kernel
theorem dX0_token_16 : decode cX0_token 16 = .ok (.iload_n 1, 1) := by decide +kernel
theorem dX0_token_17 : decode cX0_token 17 = .ok (.iaload, 1) := by decide +kernel
theorem dX0_token_18 : decode cX0_token 18 = .ok (.goto 4, 3) := by decide +kernel
theorem dX0_token_21 : decode cX0_token 21 = .ok (.iconst (-1), 1) := by decide +kernel
theorem dX0_token_22 : decode cX0_token 22 = .ok (.ireturn, 1) := by decide +kernel
theorem dX0_entriesAt_0 : decode cX0_entriesAt 0 = .ok (.iload_n 1, 1) := by decide +kernel
theorem dX0_entriesAt_1 : decode cX0_entriesAt 1 = .ok (.ifCond .lt 20, 3) := by decide +kernel
theorem dX0_entriesAt_4 : decode cX0_entriesAt 4 = .ok (.iload_n 1, 1) := by decide +kernel
theorem dX0_entriesAt_5 : decode cX0_entriesAt 5 = .ok (.aload_n 0, 1) := by decide +kernel
theorem dX0_entriesAt_6 : decode cX0_entriesAt 6 = .ok (.getfield 21, 3) := by decide +kernel
theorem dX0_entriesAt_9 : decode cX0_entriesAt 9 = .ok (.if_icmp .ge 12, 3) := by decide +kernel
theorem dX0_entriesAt_12 : decode cX0_entriesAt 12 = .ok (.aload_n 0, 1) := by decide +kernel
theorem dX0_entriesAt_13 : decode cX0_entriesAt 13 = .ok (.getfield 15, 3) := by decide +kernel
theorem dX0_entriesAt_16 : decode cX0_entriesAt 16 = .ok (.iload_n 1, 1) := by decide +kernel
theorem dX0_entriesAt_17 : decode cX0_entriesAt 17 = .ok (.iaload, 1) := by decide +kernel
theorem dX0_entriesAt_18 : decode cX0_entriesAt 18 = .ok (.goto 4, 3) := by decide +kernel
theorem dX0_entriesAt_21 : decode cX0_entriesAt 21 = .ok (.iconst 0, 1) := by decide +kernel
theorem dX0_entriesAt_22 : decode cX0_entriesAt 22 = .ok (.ireturn, 1) := by decide +kernel
theorem dX0_shiftAt_0 : decode cX0_shiftAt 0 = .ok (.iload_n 1, 1) := by decide +kernel
theorem dX0_shiftAt_1 : decode cX0_shiftAt 1 = .ok (.ifCond .lt 20, 3) := by decide +kernel
theorem dX0_shiftAt_4 : decode cX0_shiftAt 4 = .ok (.iload_n 1, 1) := by decide +kernel
theorem dX0_shiftAt_5 : decode cX0_shiftAt 5 = .ok (.aload_n 0, 1) := by decide +kernel
theorem dX0_shiftAt_6 : decode cX0_shiftAt 6 = .ok (.getfield 21, 3) := by decide +kernel
theorem dX0_shiftAt_9 : decode cX0_shiftAt 9 = .ok (.if_icmp .ge 12, 3) := by decide +kernel
theorem dX0_shiftAt_12 : decode cX0_shiftAt 12 = .ok (.aload_n 0, 1) := by decide +kernel
theorem dX0_shiftAt_13 : decode cX0_shiftAt 13 = .ok (.getfield 18, 3) := by decide +kernel
theorem dX0_shiftAt_16 : decode cX0_shiftAt 16 = .ok (.iload_n 1, 1) := by decide +kernel
theorem dX0_shiftAt_17 : decode cX0_shiftAt 17 = .ok (.iaload, 1) := by decide +kernel
theorem dX0_shiftAt_18 : decode cX0_shiftAt 18 = .ok (.goto 4, 3) := by decide +kernel
theorem dX0_shiftAt_21 : decode cX0_shiftAt 21 = .ok (.iconst 0, 1) := by decide +kernel
theorem dX0_shiftAt_22 : decode cX0_shiftAt 22 = .ok (.ireturn, 1) := by decide +kernel
theorem dX0_clear_0 : decode cX0_clear 0 = .ok (.aload_n 0, 1) := by decide +kernel
theorem dX0_clear_1 : decode cX0_clear 1 = .ok (.iconst 0, 1) := by decide +kernel
theorem dX0_clear_2 : decode cX0_clear 2 = .ok (.putfield 21, 3) := by decide +kernel
theorem dX0_clear_5 : decode cX0_clear 5 = .ok (.aload_n 0, 1) := by decide +kernel
theorem dX0_clear_6 : decode cX0_clear 6 = .ok (.iconst 0, 1) := by decide +kernel
theorem dX0_clear_7 : decode cX0_clear 7 = .ok (.putfield 25, 3) := by decide +kernel
theorem dX0_clear_10 : decode cX0_clear 10 = .ok (.return_, 1) := by decide +kernel
theorem dX0_add_0 : decode cX0_add 0 = .ok (.aload_n 0, 1) := by decide +kernel
theorem dX0_add_1 : decode cX0_add 1 = .ok (.iload_n 1, 1) := by decide +kernel
theorem dX0_add_2 : decode cX0_add 2 = .ok (.iconst 0, 1) := by decide +kernel
theorem dX0_add_3 : decode cX0_add 3 = .ok (.iconst 0, 1) := by decide +kernel
theorem dX0_add_4 : decode cX0_add 4 = .ok (.invokevirtual 29, 3) := by decide +kernel
theorem dX0_add_7 : decode cX0_add 7 = .ok (.return_, 1) := by decide +kernel
theorem dX0_addClosure_0 : decode cX0_addClosure 0 = .ok (.aload_n 0, 1) := by decide +kernel
theorem dX0_addClosure_1 : decode cX0_addClosure 1 = .ok (.sipush 1002, 3) := by decide +kernel
theorem dX0_addClosure_4 : decode cX0_addClosure 4 = .ok (.iload_n 1, 1) := by decide +kernel
theorem dX0_addClosure_5 : decode cX0_addClosure 5 = .ok (.iload_n 2, 1) := by decide +kernel
theorem dX0_addClosure_6 : decode cX0_addClosure 6 = .ok (.invokevirtual 29, 3) := by decide +kernel
theorem dX0_addClosure_9 : decode cX0_addClosure 9 = .ok (.return_, 1) := by decide +kernel
theorem dX0_put_0 : decode cX0_put 0 = .ok (.aload_n 0, 1) := by decide +kernel
theorem dX0_put_1 : decode cX0_put 1 = .ok (.getfield 21, 3) := by decide +kernel
theorem dX0_put_4 : decode cX0_put 4 = .ok (.sipush 300, 3) := by decide +kernel
theorem dX0_put_7 : decode cX0_put 7 = .ok (.if_icmp .ge 46, 3) := by decide +kernel
theorem dX0_put_10 : decode cX0_put 10 = .ok (.aload_n 0, 1) := by decide +kernel
theorem dX0_put_11 : decode cX0_put 11 = .ok (.getfield 9, 3) := by decide +kernel
theorem dX0_put_14 : decode cX0_put 14 = .ok (.aload_n 0, 1) := by decide +kernel
theorem dX0_put_15 : decode cX0_put 15 = .ok (.getfield 21, 3) := by decide +kernel
theorem dX0_put_18 : decode cX0_put 18 = .ok (.iload_n 1, 1) := by decide +kernel
theorem dX0_put_19 : decode cX0_put 19 = .ok (.iastore, 1) := by decide +kernel
theorem dX0_put_20 : decode cX0_put 20 = .ok (.aload_n 0, 1) := by decide +kernel
theorem dX0_put_21 : decode cX0_put 21 = .ok (.getfield 15, 3) := by decide +kernel
theorem dX0_put_24 : decode cX0_put 24 = .ok (.aload_n 0, 1) := by decide +kernel
theorem dX0_put_25 : decode cX0_put 25 = .ok (.getfield 21, 3) := by decide +kernel
theorem dX0_put_28 : decode cX0_put 28 = .ok (.iload_n 2, 1) := by decide +kernel
theorem dX0_put_29 : decode cX0_put 29 = .ok (.iastore, 1) := by decide +kernel
theorem dX0_put_30 : decode cX0_put 30 = .ok (.aload_n 0, 1) := by decide +kernel
theorem dX0_put_31 : decode cX0_put 31 = .ok (.getfield 18, 3) := by decide +kernel
theorem dX0_put_34 : decode cX0_put 34 = .ok (.aload_n 0, 1) := by decide +kernel
theorem dX0_put_35 : decode cX0_put 35 = .ok (.getfield 21, 3) := by decide +kernel
theorem dX0_put_38 : decode cX0_put 38 = .ok (.iload_n 3, 1) := by decide +kernel
theorem dX0_put_39 : decode cX0_put 39 = .ok (.iastore, 1) := by decide +kernel
theorem dX0_put_40 : decode cX0_put 40 = .ok (.aload_n 0, 1) := by decide +kernel
theorem dX0_put_41 : decode cX0_put 41 = .ok (.dup, 1) := by decide +kernel
theorem dX0_put_42 : decode cX0_put 42 = .ok (.getfield 21, 3) := by decide +kernel
theorem dX0_put_45 : decode cX0_put 45 = .ok (.iconst 1, 1) := by decide +kernel
theorem dX0_put_46 : decode cX0_put 46 = .ok (.iadd, 1) := by decide +kernel
theorem dX0_put_47 : decode cX0_put 47 = .ok (.putfield 21, 3) := by decide +kernel
theorem dX0_put_50 : decode cX0_put 50 = .ok (.goto 8, 3) := by decide +kernel
theorem dX0_put_53 : decode cX0_put 53 = .ok (.aload_n 0, 1) := by decide +kernel
theorem dX0_put_54 : decode cX0_put 54 = .ok (.iconst 1, 1) := by decide +kernel
theorem dX0_put_55 : decode cX0_put 55 = .ok (.putfield 25, 3) := by decide +kernel
theorem dX0_put_58 : decode cX0_put 58 = .ok (.return_, 1) := by decide +kernel
theorem dX0_addRange_0 : decode cX0_addRange 0 = .ok (.iload_n 2, 1) := by decide +kernel
theorem dX0_addRange_1 : decode cX0_addRange 1 = .ok (.ifCond .lt 16, 3) := by decide +kernel
theorem dX0_addRange_4 : decode cX0_addRange 4 = .ok (.iload_n 2, 1) := by decide +kernel
theorem dX0_addRange_5 : decode cX0_addRange 5 = .ok (.iload_n 3, 1) := by decide +kernel
theorem dX0_addRange_6 : decode cX0_addRange 6 = .ok (.if_icmp .gt 11, 3) := by decide +kernel
theorem dX0_addRange_9 : decode cX0_addRange 9 = .ok (.iload_n 3, 1) := by decide +kernel
theorem dX0_addRange_10 : decode cX0_addRange 10 = .ok (.aload_n 1, 1) := by decide +kernel
theorem dX0_addRange_11 : decode cX0_addRange 11 = .ok (.getfield 21, 3) := by decide +kernel
theorem dX0_addRange_14 : decode cX0_addRange 14 = .ok (.if_icmp .le 4, 3) := by decide +kernel
theorem dX0_addRange_17 : decode cX0_addRange 17 = .ok (.return_, 1) := by decide +kernel
theorem dX0_addRange_18 : decode cX0_addRange 18 = .ok (.iload_n 3, 1) := by decide +kernel
theorem dX0_addRange_19 : decode cX0_addRange 19 = .ok (.iload_n 2, 1) := by decide +kernel
theorem dX0_addRange_20 : decode cX0_addRange 20 = .ok (.isub, 1) := by decide +kernel
theorem dX0_addRange_21 : decode cX0_addRange 21 = .ok (.istore 4, 2) := by decide +kernel
theorem dX0_addRange_23 : decode cX0_addRange 23 = .ok (.iload 4, 2) := by decide +kernel
theorem dX0_addRange_25 : decode cX0_addRange 25 = .ok (.sipush 300, 3) := by decide +kernel
theorem dX0_addRange_28 : decode cX0_addRange 28 = .ok (.aload_n 0, 1) := by decide +kernel
theorem dX0_addRange_29 : decode cX0_addRange 29 = .ok (.getfield 21, 3) := by decide +kernel
theorem dX0_addRange_32 : decode cX0_addRange 32 = .ok (.isub, 1) := by decide +kernel
theorem dX0_addRange_33 : decode cX0_addRange 33 = .ok (.if_icmp .le 9, 3) := by decide +kernel
theorem dX0_addRange_36 : decode cX0_addRange 36 = .ok (.aload_n 0, 1) := by decide +kernel
theorem dX0_addRange_37 : decode cX0_addRange 37 = .ok (.iconst 1, 1) := by decide +kernel
theorem dX0_addRange_38 : decode cX0_addRange 38 = .ok (.putfield 25, 3) := by decide +kernel
theorem dX0_addRange_41 : decode cX0_addRange 41 = .ok (.return_, 1) := by decide +kernel
theorem dX0_addRange_42 : decode cX0_addRange 42 = .ok (.aload_n 1, 1) := by decide +kernel
theorem dX0_addRange_43 : decode cX0_addRange 43 = .ok (.getfield 9, 3) := by decide +kernel
theorem dX0_addRange_46 : decode cX0_addRange 46 = .ok (.iload_n 2, 1) := by decide +kernel
theorem dX0_addRange_47 : decode cX0_addRange 47 = .ok (.aload_n 0, 1) := by decide +kernel
theorem dX0_addRange_48 : decode cX0_addRange 48 = .ok (.getfield 9, 3) := by decide +kernel
theorem dX0_addRange_51 : decode cX0_addRange 51 = .ok (.aload_n 0, 1) := by decide +kernel
theorem dX0_addRange_52 : decode cX0_addRange 52 = .ok (.getfield 21, 3) := by decide +kernel
theorem dX0_addRange_55 : decode cX0_addRange 55 = .ok (.iload 4, 2) := by decide +kernel
theorem dX0_addRange_57 : decode cX0_addRange 57 = .ok (.invokestatic 33, 3) := by decide +kernel
theorem dX0_addRange_60 : decode cX0_addRange 60 = .ok (.aload_n 1, 1) := by decide +kernel
theorem dX0_addRange_61 : decode cX0_addRange 61 = .ok (.getfield 15, 3) := by decide +kernel
theorem dX0_addRange_64 : decode cX0_addRange 64 = .ok (.iload_n 2, 1) := by decide +kernel
theorem dX0_addRange_65 : decode cX0_addRange 65 = .ok (.aload_n 0, 1) := by decide +kernel
theorem dX0_addRange_66 : decode cX0_addRange 66 = .ok (.getfield 15, 3) := by decide +kernel
theorem dX0_addRange_69 : decode cX0_addRange 69 = .ok (.aload_n 0, 1) := by decide +kernel
theorem dX0_addRange_70 : decode cX0_addRange 70 = .ok (.getfield 21, 3) := by decide +kernel
theorem dX0_addRange_73 : decode cX0_addRange 73 = .ok (.iload 4, 2) := by decide +kernel
theorem dX0_addRange_75 : decode cX0_addRange 75 = .ok (.invokestatic 33, 3) := by decide +kernel
theorem dX0_addRange_78 : decode cX0_addRange 78 = .ok (.aload_n 1, 1) := by decide +kernel
theorem dX0_addRange_79 : decode cX0_addRange 79 = .ok (.getfield 18, 3) := by decide +kernel
theorem dX0_addRange_82 : decode cX0_addRange 82 = .ok (.iload_n 2, 1) := by decide +kernel
theorem dX0_addRange_83 : decode cX0_addRange 83 = .ok (.aload_n 0, 1) := by decide +kernel
theorem dX0_addRange_84 : decode cX0_addRange 84 = .ok (.getfield 18, 3) := by decide +kernel
theorem dX0_addRange_87 : decode cX0_addRange 87 = .ok (.aload_n 0, 1) := by decide +kernel
theorem dX0_addRange_88 : decode cX0_addRange 88 = .ok (.getfield 21, 3) := by decide +kernel
theorem dX0_addRange_91 : decode cX0_addRange 91 = .ok (.iload 4, 2) := by decide +kernel
theorem dX0_addRange_93 : decode cX0_addRange 93 = .ok (.invokestatic 33, 3) := by decide +kernel
theorem dX0_addRange_96 : decode cX0_addRange 96 = .ok (.aload_n 0, 1) := by decide +kernel
theorem dX0_addRange_97 : decode cX0_addRange 97 = .ok (.dup, 1) := by decide +kernel
theorem dX0_addRange_98 : decode cX0_addRange 98 = .ok (.getfield 21, 3) := by decide +kernel
theorem dX0_addRange_101 : decode cX0_addRange 101 = .ok (.iload 4, 2) := by decide +kernel
theorem dX0_addRange_103 : decode cX0_addRange 103 = .ok (.iadd, 1) := by decide +kernel
theorem dX0_addRange_104 : decode cX0_addRange 104 = .ok (.putfield 21, 3) := by decide +kernel
theorem dX0_addRange_107 : decode cX0_addRange 107 = .ok (.return_, 1) := by decide +kernel
theorem dX0_behind_0 : decode cX0_behind 0 = .ok (.iload_n 2, 1) := by decide +kernel
theorem dX0_behind_1 : decode cX0_behind 1 = .ok (.istore_n 3, 1) := by decide +kernel
theorem dX0_behind_2 : decode cX0_behind 2 = .ok (.iload_n 1, 1) := by decide +kernel
theorem dX0_behind_3 : decode cX0_behind 3 = .ok (.istore 4, 2) := by decide +kernel
theorem dX0_behind_5 : decode cX0_behind 5 = .ok (.iload_n 3, 1) := by decide +kernel
theorem dX0_behind_6 : decode cX0_behind 6 = .ok (.ifCond .le 39, 3) := by decide +kernel
theorem dX0_behind_9 : decode cX0_behind 9 = .ok (.iload 4, 2) := by decide +kernel
theorem dX0_behind_11 : decode cX0_behind 11 = .ok (.aload_n 0, 1) := by decide +kernel
theorem dX0_behind_12 : decode cX0_behind 12 = .ok (.getfield 21, 3) := by decide +kernel
theorem dX0_behind_15 : decode cX0_behind 15 = .ok (.if_icmp .ge 30, 3) := by decide +kernel
theorem dX0_behind_18 : decode cX0_behind 18 = .ok (.iload_n 3, 1) := by decide +kernel
theorem dX0_behind_19 : decode cX0_behind 19 = .ok (.aload_n 0, 1) := by decide +kernel
theorem dX0_behind_20 : decode cX0_behind 20 = .ok (.iload 4, 2) := by decide +kernel
theorem dX0_behind_22 : decode cX0_behind 22 = .ok (.invokevirtual 39, 3) := by decide +kernel
theorem dX0_behind_25 : decode cX0_behind 25 = .ok (.invokestatic 43, 3) := by decide +kernel
theorem dX0_behind_28 : decode cX0_behind 28 = .ok (.aload_n 0, 1) := by decide +kernel
theorem dX0_behind_29 : decode cX0_behind 29 = .ok (.iload 4, 2) := by decide +kernel
theorem dX0_behind_31 : decode cX0_behind 31 = .ok (.invokevirtual 46, 3) := by decide +kernel
theorem dX0_behind_34 : decode cX0_behind 34 = .ok (.iadd, 1) := by decide +kernel
theorem dX0_behind_35 : decode cX0_behind 35 = .ok (.iconst 1, 1) := by decide +kernel
theorem dX0_behind_36 : decode cX0_behind 36 = .ok (.isub, 1) := by decide +kernel
theorem dX0_behind_37 : decode cX0_behind 37 = .ok (.iadd, 1) := by decide +kernel
theorem dX0_behind_38 : decode cX0_behind 38 = .ok (.istore_n 3, 1) := by decide +kernel
theorem dX0_behind_39 : decode cX0_behind 39 = .ok (.iinc 4 1, 3) := by decide +kernel
theorem dX0_behind_42 : decode cX0_behind 42 = .ok (.goto (-37), 3) := by decide +kernel
theorem dX0_behind_45 : decode cX0_behind 45 = .ok (.iload 4, 2) := by decide +kernel
theorem dX0_behind_47 : decode cX0_behind 47 = .ok (.ireturn, 1) := by decide +kernel
theorem dX1_init_0 : decode cX1_init 0 = .ok (.aload_n 0, 1) := by decide +kernel
theorem dX1_init_1 : decode cX1_init 1 = .ok (.invokespecial 3, 3) := by decide +kernel
theorem dX1_init_4 : decode cX1_init 4 = .ok (.aload_n 0, 1) := by decide +kernel
theorem dX1_init_5 : decode cX1_init 5 = .ok (.bipush 14, 2) := by decide +kernel
theorem dX1_init_7 : decode cX1_init 7 = .ok (.sipush 200, 3) := by decide +kernel
theorem dX1_init_10 : decode cX1_init 10 = .ok (.multianewarray 9 2, 4) := by decide +kernel
theorem dX1_init_14 : decode cX1_init 14 = .ok (.putfield 11, 3) := by decide +kernel
theorem dX1_init_17 : decode cX1_init 17 = .ok (.aload_n 0, 1) := by decide +kernel
theorem dX1_init_18 : decode cX1_init 18 = .ok (.bipush 14, 2) := by decide +kernel
theorem dX1_init_20 : decode cX1_init 20 = .ok (.newarray .int, 2) := by decide +kernel
theorem dX1_init_22 : decode cX1_init 22 = .ok (.putfield 16, 3) := by decide +kernel
theorem dX1_init_25 : decode cX1_init 25 = .ok (.aload_n 0, 1) := by decide +kernel
theorem dX1_init_26 : decode cX1_init 26 = .ok (.iconst 0, 1) := by decide +kernel
theorem dX1_init_27 : decode cX1_init 27 = .ok (.putfield 20, 3) := by decide +kernel
theorem dX1_init_30 : decode cX1_init 30 = .ok (.aload_n 0, 1) := by decide +kernel
theorem dX1_init_31 : decode cX1_init 31 = .ok (.iconst 0, 1) := by decide +kernel
theorem dX1_init_32 : decode cX1_init 32 = .ok (.putfield 24, 3) := by decide +kernel
theorem dX1_init_35 : decode cX1_init 35 = .ok (.return_, 1) := by decide +kernel
theorem dX1_count_0 : decode cX1_count 0 = .ok (.aload_n 0, 1) := by decide +kernel
theorem dX1_count_1 : decode cX1_count 1 = .ok (.getfield 20, 3) := by decide +kernel
theorem dX1_count_4 : decode cX1_count 4 = .ok (.ireturn, 1) := by decide +kernel
theorem dX1_forgetAll_0 : decode cX1_forgetAll 0 = .ok (.aload_n 0, 1) := by decide +kernel
theorem dX1_forgetAll_1 : decode cX1_forgetAll 1 = .ok (.iconst 0, 1) := by decide +kernel
theorem dX1_forgetAll_2 : decode cX1_forgetAll 2 = .ok (.putfield 20, 3) := by decide +kernel
theorem dX1_forgetAll_5 : decode cX1_forgetAll 5 = .ok (.return_, 1) := by decide +kernel
theorem dX1_remember_0 : decode cX1_remember 0 = .ok (.aload_n 0, 1) := by decide +kernel
theorem dX1_remember_1 : decode cX1_remember 1 = .ok (.getfield 24, 3) := by decide +kernel
theorem dX1_remember_4 : decode cX1_remember 4 = .ok (.ifCond .lt 12, 3) := by decide +kernel
theorem dX1_remember_7 : decode cX1_remember 7 = .ok (.aload_n 0, 1) := by decide +kernel
theorem dX1_remember_8 : decode cX1_remember 8 = .ok (.getfield 24, 3) := by decide +kernel
theorem dX1_remember_11 : decode cX1_remember 11 = .ok (.bipush 14, 2) := by decide +kernel
theorem dX1_remember_13 : decode cX1_remember 13 = .ok (.if_icmp .lt 8, 3) := by decide +kernel
theorem dX1_remember_16 : decode cX1_remember 16 = .ok (.aload_n 0, 1) := by decide +kernel
theorem dX1_remember_17 : decode cX1_remember 17 = .ok (.iconst 0, 1) := by decide +kernel
theorem dX1_remember_18 : decode cX1_remember 18 = .ok (.putfield 24, 3) := by decide +kernel
theorem dX1_remember_21 : decode cX1_remember 21 = .ok (.aload_n 1, 1) := by decide +kernel
theorem dX1_remember_22 : decode cX1_remember 22 = .ok (.invokevirtual 27, 3) := by decide +kernel
theorem dX1_remember_25 : decode cX1_remember 25 = .ok (.sipush 200, 3) := by decide +kernel
theorem dX1_remember_28 : decode cX1_remember 28 = .ok (.invokestatic 33, 3) := by decide +kernel
theorem dX1_remember_31 : decode cX1_remember 31 = .ok (.istore_n 2, 1) := by decide +kernel
theorem dX1_remember_32 : decode cX1_remember 32 = .ok (.iconst 0, 1) := by decide +kernel
theorem dX1_remember_33 : decode cX1_remember 33 = .ok (.istore_n 3, 1) := by decide +kernel
theorem dX1_remember_34 : decode cX1_remember 34 = .ok (.iload_n 3, 1) := by decide +kernel
theorem dX1_remember_35 : decode cX1_remember 35 = .ok (.iload_n 2, 1) := by decide +kernel
theorem dX1_remember_36 : decode cX1_remember 36 = .ok (.if_icmp .ge 25, 3) := by decide +kernel
theorem dX1_remember_39 : decode cX1_remember 39 = .ok (.aload_n 0, 1) := by decide +kernel
theorem dX1_remember_40 : decode cX1_remember 40 = .ok (.getfield 11, 3) := by decide +kernel
theorem dX1_remember_43 : decode cX1_remember 43 = .ok (.aload_n 0, 1) := by decide +kernel
theorem dX1_remember_44 : decode cX1_remember 44 = .ok (.getfield 24, 3) := by decide +kernel
theorem dX1_remember_47 : decode cX1_remember 47 = .ok (.aaload, 1) := by decide +kernel
theorem dX1_remember_48 : decode cX1_remember 48 = .ok (.iload_n 3, 1) := by decide +kernel
theorem dX1_remember_49 : decode cX1_remember 49 = .ok (.aload_n 1, 1) := by decide +kernel
theorem dX1_remember_50 : decode cX1_remember 50 = .ok (.iload_n 3, 1) := by decide +kernel
theorem dX1_remember_51 : decode cX1_remember 51 = .ok (.invokevirtual 39, 3) := by decide +kernel
theorem dX1_remember_54 : decode cX1_remember 54 = .ok (.iastore, 1) := by decide +kernel
theorem dX1_remember_55 : decode cX1_remember 55 = .ok (.iinc 3 1, 3) := by decide +kernel
theorem dX1_remember_58 : decode cX1_remember 58 = .ok (.goto (-24), 3) := by decide +kernel
theorem dX1_remember_61 : decode cX1_remember 61 = .ok (.aload_n 0, 1) := by decide +kernel
theorem dX1_remember_62 : decode cX1_remember 62 = .ok (.getfield 16, 3) := by decide +kernel
theorem dX1_remember_65 : decode cX1_remember 65 = .ok (.aload_n 0, 1) := by decide +kernel
theorem dX1_remember_66 : decode cX1_remember 66 = .ok (.getfield 24, 3) := by decide +kernel
theorem dX1_remember_69 : decode cX1_remember 69 = .ok (.iload_n 2, 1) := by decide +kernel
theorem dX1_remember_70 : decode cX1_remember 70 = .ok (.iastore, 1) := by decide +kernel
theorem dX1_remember_71 : decode cX1_remember 71 = .ok (.aload_n 0, 1) := by decide +kernel
theorem dX1_remember_72 : decode cX1_remember 72 = .ok (.aload_n 0, 1) := by decide +kernel
theorem dX1_remember_73 : decode cX1_remember 73 = .ok (.getfield 24, 3) := by decide +kernel
theorem dX1_remember_76 : decode cX1_remember 76 = .ok (.iconst 1, 1) := by decide +kernel
theorem dX1_remember_77 : decode cX1_remember 77 = .ok (.iadd, 1) := by decide +kernel
theorem dX1_remember_78 : decode cX1_remember 78 = .ok (.bipush 14, 2) := by decide +kernel
theorem dX1_remember_80 : decode cX1_remember 80 = .ok (.irem, 1) := by decide +kernel
theorem dX1_remember_81 : decode cX1_remember 81 = .ok (.putfield 24, 3) := by decide +kernel
theorem dX1_remember_84 : decode cX1_remember 84 = .ok (.aload_n 0, 1) := by decide +kernel
theorem dX1_remember_85 : decode cX1_remember 85 = .ok (.aload_n 0, 1) := by decide +kernel
theorem dX1_remember_86 : decode cX1_remember 86 = .ok (.getfield 20, 3) := by decide +kernel
theorem dX1_remember_89 : decode cX1_remember 89 = .ok (.iconst 1, 1) := by decide +kernel
theorem dX1_remember_90 : decode cX1_remember 90 = .ok (.iadd, 1) := by decide +kernel
theorem dX1_remember_91 : decode cX1_remember 91 = .ok (.bipush 14, 2) := by decide +kernel
theorem dX1_remember_93 : decode cX1_remember 93 = .ok (.invokestatic 33, 3) := by decide +kernel
theorem dX1_remember_96 : decode cX1_remember 96 = .ok (.putfield 20, 3) := by decide +kernel
theorem dX1_remember_99 : decode cX1_remember 99 = .ok (.return_, 1) := by decide +kernel
theorem dX1_takeBack_0 : decode cX1_takeBack 0 = .ok (.aload_n 0, 1) := by decide +kernel
theorem dX1_takeBack_1 : decode cX1_takeBack 1 = .ok (.getfield 20, 3) := by decide +kernel
theorem dX1_takeBack_4 : decode cX1_takeBack 4 = .ok (.ifCond .gt 5, 3) := by decide +kernel
theorem dX1_takeBack_7 : decode cX1_takeBack 7 = .ok (.iconst 0, 1) := by decide +kernel
theorem dX1_takeBack_8 : decode cX1_takeBack 8 = .ok (.ireturn, 1) := by decide +kernel
theorem dX1_takeBack_9 : decode cX1_takeBack 9 = .ok (.aload_n 0, 1) := by decide +kernel
theorem dX1_takeBack_10 : decode cX1_takeBack 10 = .ok (.aload_n 0, 1) := by decide +kernel
theorem dX1_takeBack_11 : decode cX1_takeBack 11 = .ok (.getfield 24, 3) := by decide +kernel
theorem dX1_takeBack_14 : decode cX1_takeBack 14 = .ok (.ifCond .le 21, 3) := by decide +kernel
theorem dX1_takeBack_17 : decode cX1_takeBack 17 = .ok (.aload_n 0, 1) := by decide +kernel
theorem dX1_takeBack_18 : decode cX1_takeBack 18 = .ok (.getfield 24, 3) := by decide +kernel
theorem dX1_takeBack_21 : decode cX1_takeBack 21 = .ok (.bipush 14, 2) := by decide +kernel
theorem dX1_takeBack_23 : decode cX1_takeBack 23 = .ok (.if_icmp .ge 12, 3) := by decide +kernel
theorem dX1_takeBack_26 : decode cX1_takeBack 26 = .ok (.aload_n 0, 1) := by decide +kernel
theorem dX1_takeBack_27 : decode cX1_takeBack 27 = .ok (.getfield 24, 3) := by decide +kernel
theorem dX1_takeBack_30 : decode cX1_takeBack 30 = .ok (.iconst 1, 1) := by decide +kernel
theorem dX1_takeBack_31 : decode cX1_takeBack 31 = .ok (.isub, 1) := by decide +kernel
theorem dX1_takeBack_32 : decode cX1_takeBack 32 = .ok (.goto 5, 3) := by decide +kernel
theorem dX1_takeBack_35 : decode cX1_takeBack 35 = .ok (.bipush 13, 2) := by decide +kernel
theorem dX1_takeBack_37 : decode cX1_takeBack 37 = .ok (.putfield 24, 3) := by decide +kernel
theorem dX1_takeBack_40 : decode cX1_takeBack 40 = .ok (.aload_n 0, 1) := by decide +kernel
theorem dX1_takeBack_41 : decode cX1_takeBack 41 = .ok (.dup, 1) := by decide +kernel
theorem dX1_takeBack_42 : decode cX1_takeBack 42 = .ok (.getfield 20, 3) := by decide +kernel
theorem dX1_takeBack_45 : decode cX1_takeBack 45 = .ok (.iconst 1, 1) := by decide +kernel
theorem dX1_takeBack_46 : decode cX1_takeBack 46 = .ok (.isub, 1) := by decide +kernel
theorem dX1_takeBack_47 : decode cX1_takeBack 47 = .ok (.putfield 20, 3) := by decide +kernel
theorem dX1_takeBack_50 : decode cX1_takeBack 50 = .ok (.aload_n 1, 1) := by decide +kernel
theorem dX1_takeBack_51 : decode cX1_takeBack 51 = .ok (.invokevirtual 43, 3) := by decide +kernel
theorem dX1_takeBack_54 : decode cX1_takeBack 54 = .ok (.aload_n 0, 1) := by decide +kernel
theorem dX1_takeBack_55 : decode cX1_takeBack 55 = .ok (.getfield 16, 3) := by decide +kernel
theorem dX1_takeBack_58 : decode cX1_takeBack 58 = .ok (.aload_n 0, 1) := by decide +kernel
theorem dX1_takeBack_59 : decode cX1_takeBack 59 = .ok (.getfield 24, 3) := by decide +kernel
theorem dX1_takeBack_62 : decode cX1_takeBack 62 = .ok (.iaload, 1) := by decide +kernel
theorem dX1_takeBack_63 : decode cX1_takeBack 63 = .ok (.sipush 200, 3) := by decide +kernel
theorem dX1_takeBack_66 : decode cX1_takeBack 66 = .ok (.invokestatic 33, 3) := by decide +kernel
theorem dX1_takeBack_69 : decode cX1_takeBack 69 = .ok (.istore_n 2, 1) := by decide +kernel
theorem dX1_takeBack_70 : decode cX1_takeBack 70 = .ok (.iconst 0, 1) := by decide +kernel
theorem dX1_takeBack_71 : decode cX1_takeBack 71 = .ok (.istore_n 3, 1) := by decide +kernel
theorem dX1_takeBack_72 : decode cX1_takeBack 72 = .ok (.iload_n 3, 1) := by decide +kernel
theorem dX1_takeBack_73 : decode cX1_takeBack 73 = .ok (.iload_n 2, 1) := by decide +kernel
theorem dX1_takeBack_74 : decode cX1_takeBack 74 = .ok (.if_icmp .ge 24, 3) := by decide +kernel
theorem dX1_takeBack_77 : decode cX1_takeBack 77 = .ok (.aload_n 1, 1) := by decide +kernel
theorem dX1_takeBack_78 : decode cX1_takeBack 78 = .ok (.aload_n 0, 1) := by decide +kernel
theorem dX1_takeBack_79 : decode cX1_takeBack 79 = .ok (.getfield 11, 3) := by decide +kernel
theorem dX1_takeBack_82 : decode cX1_takeBack 82 = .ok (.aload_n 0, 1) := by decide +kernel
theorem dX1_takeBack_83 : decode cX1_takeBack 83 = .ok (.getfield 24, 3) := by decide +kernel
theorem dX1_takeBack_86 : decode cX1_takeBack 86 = .ok (.aaload, 1) := by decide +kernel
theorem dX1_takeBack_87 : decode cX1_takeBack 87 = .ok (.iload_n 3, 1) := by decide +kernel
theorem dX1_takeBack_88 : decode cX1_takeBack 88 = .ok (.iaload, 1) := by decide +kernel
theorem dX1_takeBack_89 : decode cX1_takeBack 89 = .ok (.invokevirtual 46, 3) := by decide +kernel
theorem dX1_takeBack_92 : decode cX1_takeBack 92 = .ok (.iinc 3 1, 3) := by decide +kernel
theorem dX1_takeBack_95 : decode cX1_takeBack 95 = .ok (.goto (-23), 3) := by decide +kernel
theorem dX1_takeBack_98 : decode cX1_takeBack 98 = .ok (.iconst 1, 1) := by decide +kernel
theorem dX1_takeBack_99 : decode cX1_takeBack 99 = .ok (.ireturn, 1) := by decide +kernel
theorem dX2_init_0 : decode cX2_init 0 = .ok (.aload_n 0, 1) := by decide +kernel
theorem dX2_init_1 : decode cX2_init 1 = .ok (.invokespecial 3, 3) := by decide +kernel
theorem dX2_init_4 : decode cX2_init 4 = .ok (.aload_n 0, 1) := by decide +kernel
theorem dX2_init_5 : decode cX2_init 5 = .ok (.new 9, 3) := by decide +kernel
theorem dX2_init_8 : decode cX2_init 8 = .ok (.dup, 1) := by decide +kernel
theorem dX2_init_9 : decode cX2_init 9 = .ok (.invokespecial 11, 3) := by decide +kernel
theorem dX2_init_12 : decode cX2_init 12 = .ok (.putfield 12, 3) := by decide +kernel
theorem dX2_init_15 : decode cX2_init 15 = .ok (.aload_n 0, 1) := by decide +kernel
theorem dX2_init_16 : decode cX2_init 16 = .ok (.new 9, 3) := by decide +kernel
theorem dX2_init_19 : decode cX2_init 19 = .ok (.dup, 1) := by decide +kernel
theorem dX2_init_20 : decode cX2_init 20 = .ok (.invokespecial 11, 3) := by decide +kernel
theorem dX2_init_23 : decode cX2_init 23 = .ok (.putfield 18, 3) := by decide +kernel
theorem dX2_init_26 : decode cX2_init 26 = .ok (.aload_n 0, 1) := by decide +kernel
theorem dX2_init_27 : decode cX2_init 27 = .ok (.iconst 5, 1) := by decide +kernel
theorem dX2_init_28 : decode cX2_init 28 = .ok (.newarray .int, 2) := by decide +kernel
theorem dX2_init_30 : decode cX2_init 30 = .ok (.putfield 21, 3) := by decide +kernel
theorem dX2_init_33 : decode cX2_init 33 = .ok (.aload_n 0, 1) := by decide +kernel
theorem dX2_init_34 : decode cX2_init 34 = .ok (.iconst 0, 1) := by decide +kernel
theorem dX2_init_35 : decode cX2_init 35 = .ok (.putfield 25, 3) := by decide +kernel
theorem dX2_init_38 : decode cX2_init 38 = .ok (.return_, 1) := by decide +kernel
theorem dX2_peak_0 : decode cX2_peak 0 = .ok (.aload_n 0, 1) := by decide +kernel
theorem dX2_peak_1 : decode cX2_peak 1 = .ok (.getfield 25, 3) := by decide +kernel
theorem dX2_peak_4 : decode cX2_peak 4 = .ok (.ireturn, 1) := by decide +kernel
theorem dX2_applications_0 : decode cX2_applications 0 = .ok (.iload_n 1, 1) := by decide +kernel
theorem dX2_applications_1 : decode cX2_applications 1 = .ok (.ifCond .lt 17, 3) := by decide +kernel
theorem dX2_applications_4 : decode cX2_applications 4 = .ok (.iload_n 1, 1) := by decide +kernel
theorem dX2_applications_5 : decode cX2_applications 5 = .ok (.iconst 5, 1) := by decide +kernel
theorem dX2_applications_6 : decode cX2_applications 6 = .ok (.if_icmp .ge 12, 3) := by decide +kernel
theorem dX2_applications_9 : decode cX2_applications 9 = .ok (.aload_n 0, 1) := by decide +kernel
theorem dX2_applications_10 : decode cX2_applications 10 = .ok (.getfield 21, 3) := by decide +kernel
theorem dX2_applications_13 : decode cX2_applications 13 = .ok (.iload_n 1, 1) := by decide +kernel
theorem dX2_applications_14 : decode cX2_applications 14 = .ok (.iaload, 1) := by decide +kernel
theorem dX2_applications_15 : decode cX2_applications 15 = .ok (.goto 4, 3) := by decide +kernel
theorem dX2_applications_18 : decode cX2_applications 18 = .ok (.iconst 0, 1) := by decide +kernel
theorem dX2_applications_19 : decode cX2_applications 19 = .ok (.ireturn, 1) := by decide +kernel
theorem dX2_work_0 : decode cX2_work 0 = .ok (.aload_n 0, 1) := by decide +kernel
theorem dX2_work_1 : decode cX2_work 1 = .ok (.aload_n 1, 1) := by decide +kernel
theorem dX2_work_2 : decode cX2_work 2 = .ok (.invokevirtual 29, 3) := by decide +kernel
theorem dX2_work_5 : decode cX2_work 5 = .ok (.iconst 0, 1) := by decide +kernel
theorem dX2_work_6 : decode cX2_work 6 = .ok (.istore_n 3, 1) := by decide +kernel
theorem dX2_work_7 : decode cX2_work 7 = .ok (.iload_n 3, 1) := by decide +kernel
theorem dX2_work_8 : decode cX2_work 8 = .ok (.sipush 600, 3) := by decide +kernel
theorem dX2_work_11 : decode cX2_work 11 = .ok (.if_icmp .ge 68, 3) := by decide +kernel
theorem dX2_work_14 : decode cX2_work 14 = .ok (.aload_n 0, 1) := by decide +kernel
theorem dX2_work_15 : decode cX2_work 15 = .ok (.iload_n 2, 1) := by decide +kernel
theorem dX2_work_16 : decode cX2_work 16 = .ok (.invokevirtual 33, 3) := by decide +kernel
theorem dX2_work_19 : decode cX2_work 19 = .ok (.istore 4, 2) := by decide +kernel
theorem dX2_work_21 : decode cX2_work 21 = .ok (.iload 4, 2) := by decide +kernel
theorem dX2_work_23 : decode cX2_work 23 = .ok (.bipush (-9), 2) := by decide +kernel
theorem dX2_work_25 : decode cX2_work 25 = .ok (.if_icmp .ne 5, 3) := by decide +kernel
theorem dX2_work_28 : decode cX2_work 28 = .ok (.iconst 1, 1) := by decide +kernel
theorem dX2_work_29 : decode cX2_work 29 = .ok (.ireturn, 1) := by decide +kernel
theorem dX2_work_30 : decode cX2_work 30 = .ok (.aload_n 0, 1) := by decide +kernel
theorem dX2_work_31 : decode cX2_work 31 = .ok (.iload 4, 2) := by decide +kernel
theorem dX2_work_33 : decode cX2_work 33 = .ok (.aload_n 0, 1) := by decide +kernel
theorem dX2_work_34 : decode cX2_work 34 = .ok (.iload 4, 2) := by decide +kernel
theorem dX2_work_36 : decode cX2_work 36 = .ok (.iload_n 2, 1) := by decide +kernel
theorem dX2_work_37 : decode cX2_work 37 = .ok (.invokevirtual 37, 3) := by decide +kernel
theorem dX2_work_40 : decode cX2_work 40 = .ok (.invokevirtual 41, 3) := by decide +kernel
theorem dX2_work_43 : decode cX2_work 43 = .ok (.aload_n 0, 1) := by decide +kernel
theorem dX2_work_44 : decode cX2_work 44 = .ok (.getfield 12, 3) := by decide +kernel
theorem dX2_work_47 : decode cX2_work 47 = .ok (.invokevirtual 45, 3) := by decide +kernel
theorem dX2_work_50 : decode cX2_work 50 = .ok (.ifCond .eq 5, 3) := by decide +kernel
theorem dX2_work_53 : decode cX2_work 53 = .ok (.iconst 0, 1) := by decide +kernel
theorem dX2_work_54 : decode cX2_work 54 = .ok (.ireturn, 1) := by decide +kernel
theorem dX2_work_55 : decode cX2_work 55 = .ok (.aload_n 0, 1) := by decide +kernel
theorem dX2_work_56 : decode cX2_work 56 = .ok (.aload_n 0, 1) := by decide +kernel
theorem dX2_work_57 : decode cX2_work 57 = .ok (.getfield 25, 3) := by decide +kernel
theorem dX2_work_60 : decode cX2_work 60 = .ok (.aload_n 0, 1) := by decide +kernel
theorem dX2_work_61 : decode cX2_work 61 = .ok (.getfield 12, 3) := by decide +kernel
theorem dX2_work_64 : decode cX2_work 64 = .ok (.invokevirtual 49, 3) := by decide +kernel
theorem dX2_work_67 : decode cX2_work 67 = .ok (.invokestatic 53, 3) := by decide +kernel
theorem dX2_work_70 : decode cX2_work 70 = .ok (.putfield 25, 3) := by decide +kernel
theorem dX2_work_73 : decode cX2_work 73 = .ok (.iinc 3 1, 3) := by decide +kernel
theorem dX2_work_76 : decode cX2_work 76 = .ok (.goto (-69), 3) := by decide +kernel
theorem dX2_work_79 : decode cX2_work 79 = .ok (.aload_n 0, 1) := by decide +kernel
theorem dX2_work_80 : decode cX2_work 80 = .ok (.iload_n 2, 1) := by decide +kernel
theorem dX2_work_81 : decode cX2_work 81 = .ok (.invokevirtual 33, 3) := by decide +kernel
theorem dX2_work_84 : decode cX2_work 84 = .ok (.bipush (-9), 2) := by decide +kernel
theorem dX2_work_86 : decode cX2_work 86 = .ok (.if_icmp .ne 7, 3) := by decide +kernel
theorem dX2_work_89 : decode cX2_work 89 = .ok (.iconst 1, 1) := by decide +kernel
theorem dX2_work_90 : decode cX2_work 90 = .ok (.goto 4, 3) := by decide +kernel
theorem dX2_work_93 : decode cX2_work 93 = .ok (.iconst 0, 1) := by decide +kernel
theorem dX2_work_94 : decode cX2_work 94 = .ok (.ireturn, 1) := by decide +kernel
theorem dX2_start_0 : decode cX2_start 0 = .ok (.aload_n 0, 1) := by decide +kernel
theorem dX2_start_1 : decode cX2_start 1 = .ok (.getfield 12, 3) := by decide +kernel
theorem dX2_start_4 : decode cX2_start 4 = .ok (.invokevirtual 59, 3) := by decide +kernel
theorem dX2_start_7 : decode cX2_start 7 = .ok (.iconst 0, 1) := by decide +kernel
theorem dX2_start_8 : decode cX2_start 8 = .ok (.istore_n 2, 1) := by decide +kernel
theorem dX2_start_9 : decode cX2_start 9 = .ok (.iload_n 2, 1) := by decide +kernel
theorem dX2_start_10 : decode cX2_start 10 = .ok (.aload_n 1, 1) := by decide +kernel
theorem dX2_start_11 : decode cX2_start 11 = .ok (.invokevirtual 62, 3) := by decide +kernel
theorem dX2_start_14 : decode cX2_start 14 = .ok (.if_icmp .ge 21, 3) := by decide +kernel
theorem dX2_start_17 : decode cX2_start 17 = .ok (.aload_n 0, 1) := by decide +kernel
theorem dX2_start_18 : decode cX2_start 18 = .ok (.getfield 12, 3) := by decide +kernel
theorem dX2_start_21 : decode cX2_start 21 = .ok (.aload_n 1, 1) := by decide +kernel
theorem dX2_start_22 : decode cX2_start 22 = .ok (.iload_n 2, 1) := by decide +kernel
theorem dX2_start_23 : decode cX2_start 23 = .ok (.invokevirtual 65, 3) := by decide +kernel
theorem dX2_start_26 : decode cX2_start 26 = .ok (.invokevirtual 69, 3) := by decide +kernel
theorem dX2_start_29 : decode cX2_start 29 = .ok (.iinc 2 1, 3) := by decide +kernel
theorem dX2_start_32 : decode cX2_start 32 = .ok (.goto (-23), 3) := by decide +kernel
theorem dX2_start_35 : decode cX2_start 35 = .ok (.aload_n 0, 1) := by decide +kernel
theorem dX2_start_36 : decode cX2_start 36 = .ok (.aload_n 0, 1) := by decide +kernel
theorem dX2_start_37 : decode cX2_start 37 = .ok (.getfield 12, 3) := by decide +kernel
theorem dX2_start_40 : decode cX2_start 40 = .ok (.invokevirtual 49, 3) := by decide +kernel
theorem dX2_start_43 : decode cX2_start 43 = .ok (.putfield 25, 3) := by decide +kernel
theorem dX2_start_46 : decode cX2_start 46 = .ok (.iconst 0, 1) := by decide +kernel
theorem dX2_start_47 : decode cX2_start 47 = .ok (.istore_n 2, 1) := by decide +kernel
theorem dX2_start_48 : decode cX2_start 48 = .ok (.iload_n 2, 1) := by decide +kernel
theorem dX2_start_49 : decode cX2_start 49 = .ok (.iconst 5, 1) := by decide +kernel
theorem dX2_start_50 : decode cX2_start 50 = .ok (.if_icmp .ge 16, 3) := by decide +kernel
theorem dX2_start_53 : decode cX2_start 53 = .ok (.aload_n 0, 1) := by decide +kernel
theorem dX2_start_54 : decode cX2_start 54 = .ok (.getfield 21, 3) := by decide +kernel
theorem dX2_start_57 : decode cX2_start 57 = .ok (.iload_n 2, 1) := by decide +kernel
theorem dX2_start_58 : decode cX2_start 58 = .ok (.iconst 0, 1) := by decide +kernel
theorem dX2_start_59 : decode cX2_start 59 = .ok (.iastore, 1) := by decide +kernel
theorem dX2_start_60 : decode cX2_start 60 = .ok (.iinc 2 1, 3) := by decide +kernel
theorem dX2_start_63 : decode cX2_start 63 = .ok (.goto (-15), 3) := by decide +kernel
theorem dX2_start_66 : decode cX2_start 66 = .ok (.return_, 1) := by decide +kernel
theorem dX2_firstPlace_0 : decode cX2_firstPlace 0 = .ok (.iconst 0, 1) := by decide +kernel
theorem dX2_firstPlace_1 : decode cX2_firstPlace 1 = .ok (.istore_n 2, 1) := by decide +kernel
theorem dX2_firstPlace_2 : decode cX2_firstPlace 2 = .ok (.iload_n 2, 1) := by decide +kernel
theorem dX2_firstPlace_3 : decode cX2_firstPlace 3 = .ok (.aload_n 0, 1) := by decide +kernel
theorem dX2_firstPlace_4 : decode cX2_firstPlace 4 = .ok (.getfield 12, 3) := by decide +kernel
theorem dX2_firstPlace_7 : decode cX2_firstPlace 7 = .ok (.invokevirtual 49, 3) := by decide +kernel
theorem dX2_firstPlace_10 : decode cX2_firstPlace 10 = .ok (.if_icmp .ge 22, 3) := by decide +kernel
theorem dX2_firstPlace_13 : decode cX2_firstPlace 13 = .ok (.aload_n 0, 1) := by decide +kernel
theorem dX2_firstPlace_14 : decode cX2_firstPlace 14 = .ok (.iload_n 2, 1) := by decide +kernel
theorem dX2_firstPlace_15 : decode cX2_firstPlace 15 = .ok (.iload_n 1, 1) := by decide +kernel
theorem dX2_firstPlace_16 : decode cX2_firstPlace 16 = .ok (.invokevirtual 37, 3) := by decide +kernel
theorem dX2_firstPlace_19 : decode cX2_firstPlace 19 = .ok (.bipush (-9), 2) := by decide +kernel
theorem dX2_firstPlace_21 : decode cX2_firstPlace 21 = .ok (.if_icmp .eq 5, 3) := by decide +kernel
theorem dX2_firstPlace_24 : decode cX2_firstPlace 24 = .ok (.iload_n 2, 1) := by decide +kernel
theorem dX2_firstPlace_25 : decode cX2_firstPlace 25 = .ok (.ireturn, 1) := by decide +kernel
theorem dX2_firstPlace_26 : decode cX2_firstPlace 26 = .ok (.iinc 2 1, 3) := by decide +kernel
theorem dX2_firstPlace_29 : decode cX2_firstPlace 29 = .ok (.goto (-27), 3) := by decide +kernel
theorem dX2_firstPlace_32 : decode cX2_firstPlace 32 = .ok (.bipush (-9), 2) := by decide +kernel
theorem dX2_firstPlace_34 : decode cX2_firstPlace 34 = .ok (.ireturn, 1) := by decide +kernel
theorem dX2_ruleAt_0 : decode cX2_ruleAt 0 = .ok (.aload_n 0, 1) := by decide +kernel
theorem dX2_ruleAt_1 : decode cX2_ruleAt 1 = .ok (.getfield 12, 3) := by decide +kernel
theorem dX2_ruleAt_4 : decode cX2_ruleAt 4 = .ok (.iload_n 1, 1) := by decide +kernel
theorem dX2_ruleAt_5 : decode cX2_ruleAt 5 = .ok (.invokevirtual 73, 3) := by decide +kernel
theorem dX2_ruleAt_8 : decode cX2_ruleAt 8 = .ok (.istore_n 3, 1) := by decide +kernel
theorem dX2_ruleAt_9 : decode cX2_ruleAt 9 = .ok (.aload_n 0, 1) := by decide +kernel
theorem dX2_ruleAt_10 : decode cX2_ruleAt 10 = .ok (.getfield 12, 3) := by decide +kernel
theorem dX2_ruleAt_13 : decode cX2_ruleAt 13 = .ok (.iload_n 1, 1) := by decide +kernel
theorem dX2_ruleAt_14 : decode cX2_ruleAt 14 = .ok (.iconst 1, 1) := by decide +kernel
theorem dX2_ruleAt_15 : decode cX2_ruleAt 15 = .ok (.iadd, 1) := by decide +kernel
theorem dX2_ruleAt_16 : decode cX2_ruleAt 16 = .ok (.invokevirtual 73, 3) := by decide +kernel
theorem dX2_ruleAt_19 : decode cX2_ruleAt 19 = .ok (.istore 4, 2) := by decide +kernel
theorem dX2_ruleAt_21 : decode cX2_ruleAt 21 = .ok (.iload_n 3, 1) := by decide +kernel
theorem dX2_ruleAt_22 : decode cX2_ruleAt 22 = .ok (.sipush 1000, 3) := by decide +kernel
theorem dX2_ruleAt_25 : decode cX2_ruleAt 25 = .ok (.if_icmp .ne 18, 3) := by decide +kernel
theorem dX2_ruleAt_28 : decode cX2_ruleAt 28 = .ok (.iload 4, 2) := by decide +kernel
theorem dX2_ruleAt_30 : decode cX2_ruleAt 30 = .ok (.sipush 1001, 3) := by decide +kernel
theorem dX2_ruleAt_33 : decode cX2_ruleAt 33 = .ok (.if_icmp .ne 7, 3) := by decide +kernel
theorem dX2_ruleAt_36 : decode cX2_ruleAt 36 = .ok (.iconst 0, 1) := by decide +kernel
theorem dX2_ruleAt_37 : decode cX2_ruleAt 37 = .ok (.goto 5, 3) := by decide +kernel
theorem dX2_ruleAt_40 : decode cX2_ruleAt 40 = .ok (.bipush (-9), 2) := by decide +kernel
theorem dX2_ruleAt_42 : decode cX2_ruleAt 42 = .ok (.ireturn, 1) := by decide +kernel
theorem dX2_ruleAt_43 : decode cX2_ruleAt 43 = .ok (.iload_n 3, 1) := by decide +kernel
theorem dX2_ruleAt_44 : decode cX2_ruleAt 44 = .ok (.sipush 1002, 3) := by decide +kernel
theorem dX2_ruleAt_47 : decode cX2_ruleAt 47 = .ok (.if_icmp .eq 6, 3) := by decide +kernel
theorem dX2_ruleAt_50 : decode cX2_ruleAt 50 = .ok (.bipush (-9), 2) := by decide +kernel
theorem dX2_ruleAt_52 : decode cX2_ruleAt 52 = .ok (.ireturn, 1) := by decide +kernel
theorem dX2_ruleAt_53 : decode cX2_ruleAt 53 = .ok (.iload 4, 2) := by decide +kernel
theorem dX2_ruleAt_55 : decode cX2_ruleAt 55 = .ok (.tableswitch 40 1000 1002 #[25, 27, 29], 25) := by decide +kernel
theorem dX2_ruleAt_80 : decode cX2_ruleAt 80 = .ok (.iconst 1, 1) := by decide +kernel
theorem dX2_ruleAt_81 : decode cX2_ruleAt 81 = .ok (.ireturn, 1) := by decide +kernel
theorem dX2_ruleAt_82 : decode cX2_ruleAt 82 = .ok (.iconst 2, 1) := by decide +kernel
theorem dX2_ruleAt_83 : decode cX2_ruleAt 83 = .ok (.ireturn, 1) := by decide +kernel
theorem dX2_ruleAt_84 : decode cX2_ruleAt 84 = .ok (.iload_n 2, 1) := by decide +kernel
theorem dX2_ruleAt_85 : decode cX2_ruleAt 85 = .ok (.ifCond .eq 7, 3) := by decide +kernel
theorem dX2_ruleAt_88 : decode cX2_ruleAt 88 = .ok (.iconst 4, 1) := by decide +kernel
theorem dX2_ruleAt_89 : decode cX2_ruleAt 89 = .ok (.goto 5, 3) := by decide +kernel
theorem dX2_ruleAt_92 : decode cX2_ruleAt 92 = .ok (.bipush (-9), 2) := by decide +kernel
theorem dX2_ruleAt_94 : decode cX2_ruleAt 94 = .ok (.ireturn, 1) := by decide +kernel
theorem dX2_ruleAt_95 : decode cX2_ruleAt 95 = .ok (.iconst 3, 1) := by decide +kernel
theorem dX2_ruleAt_96 : decode cX2_ruleAt 96 = .ok (.ireturn, 1) := by decide +kernel
theorem dX2_rewrite_0 : decode cX2_rewrite 0 = .ok (.aload_n 0, 1) := by decide +kernel
theorem dX2_rewrite_1 : decode cX2_rewrite 1 = .ok (.getfield 18, 3) := by decide +kernel
theorem dX2_rewrite_4 : decode cX2_rewrite 4 = .ok (.invokevirtual 59, 3) := by decide +kernel
theorem dX2_rewrite_7 : decode cX2_rewrite 7 = .ok (.aload_n 0, 1) := by decide +kernel
theorem dX2_rewrite_8 : decode cX2_rewrite 8 = .ok (.getfield 18, 3) := by decide +kernel
theorem dX2_rewrite_11 : decode cX2_rewrite 11 = .ok (.aload_n 0, 1) := by decide +kernel
theorem dX2_rewrite_12 : decode cX2_rewrite 12 = .ok (.getfield 12, 3) := by decide +kernel
theorem dX2_rewrite_15 : decode cX2_rewrite 15 = .ok (.iconst 0, 1) := by decide +kernel
theorem dX2_rewrite_16 : decode cX2_rewrite 16 = .ok (.iload_n 1, 1) := by decide +kernel
theorem dX2_rewrite_17 : decode cX2_rewrite 17 = .ok (.invokevirtual 74, 3) := by decide +kernel
theorem dX2_rewrite_20 : decode cX2_rewrite 20 = .ok (.iload_n 2, 1) := by decide +kernel
theorem dX2_rewrite_21 : decode cX2_rewrite 21 = .ok (.tableswitch 75 0 4 #[35, 43, 51, 59, 67], 35) := by decide +kernel
theorem dX2_rewrite_56 : decode cX2_rewrite 56 = .ok (.aload_n 0, 1) := by decide +kernel
theorem dX2_rewrite_57 : decode cX2_rewrite 57 = .ok (.iload_n 1, 1) := by decide +kernel
theorem dX2_rewrite_58 : decode cX2_rewrite 58 = .ok (.invokevirtual 78, 3) := by decide +kernel
theorem dX2_rewrite_61 : decode cX2_rewrite 61 = .ok (.goto 35, 3) := by decide +kernel
theorem dX2_rewrite_64 : decode cX2_rewrite 64 = .ok (.aload_n 0, 1) := by decide +kernel
theorem dX2_rewrite_65 : decode cX2_rewrite 65 = .ok (.iload_n 1, 1) := by decide +kernel
theorem dX2_rewrite_66 : decode cX2_rewrite 66 = .ok (.invokevirtual 81, 3) := by decide +kernel
theorem dX2_rewrite_69 : decode cX2_rewrite 69 = .ok (.goto 27, 3) := by decide +kernel
theorem dX2_rewrite_72 : decode cX2_rewrite 72 = .ok (.aload_n 0, 1) := by decide +kernel
theorem dX2_rewrite_73 : decode cX2_rewrite 73 = .ok (.iload_n 1, 1) := by decide +kernel
theorem dX2_rewrite_74 : decode cX2_rewrite 74 = .ok (.invokevirtual 84, 3) := by decide +kernel
theorem dX2_rewrite_77 : decode cX2_rewrite 77 = .ok (.goto 19, 3) := by decide +kernel
theorem dX2_rewrite_80 : decode cX2_rewrite 80 = .ok (.aload_n 0, 1) := by decide +kernel
theorem dX2_rewrite_81 : decode cX2_rewrite 81 = .ok (.iload_n 1, 1) := by decide +kernel
theorem dX2_rewrite_82 : decode cX2_rewrite 82 = .ok (.invokevirtual 87, 3) := by decide +kernel
theorem dX2_rewrite_85 : decode cX2_rewrite 85 = .ok (.goto 11, 3) := by decide +kernel
theorem dX2_rewrite_88 : decode cX2_rewrite 88 = .ok (.aload_n 0, 1) := by decide +kernel
theorem dX2_rewrite_89 : decode cX2_rewrite 89 = .ok (.iload_n 1, 1) := by decide +kernel
theorem dX2_rewrite_90 : decode cX2_rewrite 90 = .ok (.invokevirtual 90, 3) := by decide +kernel
theorem dX2_rewrite_93 : decode cX2_rewrite 93 = .ok (.goto 3, 3) := by decide +kernel
theorem dX2_rewrite_96 : decode cX2_rewrite 96 = .ok (.aload_n 0, 1) := by decide +kernel
theorem dX2_rewrite_97 : decode cX2_rewrite 97 = .ok (.getfield 18, 3) := by decide +kernel
theorem dX2_rewrite_100 : decode cX2_rewrite 100 = .ok (.aload_n 0, 1) := by decide +kernel
theorem dX2_rewrite_101 : decode cX2_rewrite 101 = .ok (.getfield 12, 3) := by decide +kernel
theorem dX2_rewrite_104 : decode cX2_rewrite 104 = .ok (.aload_n 0, 1) := by decide +kernel
theorem dX2_rewrite_105 : decode cX2_rewrite 105 = .ok (.getfield 12, 3) := by decide +kernel
theorem dX2_rewrite_108 : decode cX2_rewrite 108 = .ok (.iload_n 1, 1) := by decide +kernel
theorem dX2_rewrite_109 : decode cX2_rewrite 109 = .ok (.iconst 1, 1) := by decide +kernel
theorem dX2_rewrite_110 : decode cX2_rewrite 110 = .ok (.invokevirtual 93, 3) := by decide +kernel
theorem dX2_rewrite_113 : decode cX2_rewrite 113 = .ok (.aload_n 0, 1) := by decide +kernel
theorem dX2_rewrite_114 : decode cX2_rewrite 114 = .ok (.getfield 12, 3) := by decide +kernel
theorem dX2_rewrite_117 : decode cX2_rewrite 117 = .ok (.invokevirtual 49, 3) := by decide +kernel
theorem dX2_rewrite_120 : decode cX2_rewrite 120 = .ok (.invokevirtual 74, 3) := by decide +kernel
theorem dX2_rewrite_123 : decode cX2_rewrite 123 = .ok (.aload_n 0, 1) := by decide +kernel
theorem dX2_rewrite_124 : decode cX2_rewrite 124 = .ok (.getfield 12, 3) := by decide +kernel
theorem dX2_rewrite_127 : decode cX2_rewrite 127 = .ok (.astore_n 3, 1) := by decide +kernel
theorem dX2_rewrite_128 : decode cX2_rewrite 128 = .ok (.aload_n 0, 1) := by decide +kernel
theorem dX2_rewrite_129 : decode cX2_rewrite 129 = .ok (.aload_n 0, 1) := by decide +kernel
theorem dX2_rewrite_130 : decode cX2_rewrite 130 = .ok (.getfield 18, 3) := by decide +kernel
theorem dX2_rewrite_133 : decode cX2_rewrite 133 = .ok (.putfield 12, 3) := by decide +kernel
theorem dX2_rewrite_136 : decode cX2_rewrite 136 = .ok (.aload_n 0, 1) := by decide +kernel
theorem dX2_rewrite_137 : decode cX2_rewrite 137 = .ok (.aload_n 3, 1) := by decide +kernel
theorem dX2_rewrite_138 : decode cX2_rewrite 138 = .ok (.putfield 18, 3) := by decide +kernel
theorem dX2_rewrite_141 : decode cX2_rewrite 141 = .ok (.iload_n 2, 1) := by decide +kernel
theorem dX2_rewrite_142 : decode cX2_rewrite 142 = .ok (.ifCond .lt 18, 3) := by decide +kernel
theorem dX2_rewrite_145 : decode cX2_rewrite 145 = .ok (.iload_n 2, 1) := by decide +kernel
theorem dX2_rewrite_146 : decode cX2_rewrite 146 = .ok (.iconst 5, 1) := by decide +kernel
theorem dX2_rewrite_147 : decode cX2_rewrite 147 = .ok (.if_icmp .ge 13, 3) := by decide +kernel
theorem dX2_rewrite_150 : decode cX2_rewrite 150 = .ok (.aload_n 0, 1) := by decide +kernel
theorem dX2_rewrite_151 : decode cX2_rewrite 151 = .ok (.getfield 21, 3) := by decide +kernel
theorem dX2_rewrite_154 : decode cX2_rewrite 154 = .ok (.iload_n 2, 1) := by decide +kernel
theorem dX2_rewrite_155 : decode cX2_rewrite 155 = .ok (.dup2, 1) := by decide +kernel
theorem dX2_rewrite_156 : decode cX2_rewrite 156 = .ok (.iaload, 1) := by decide +kernel
theorem dX2_rewrite_157 : decode cX2_rewrite 157 = .ok (.iconst 1, 1) := by decide +kernel
theorem dX2_rewrite_158 : decode cX2_rewrite 158 = .ok (.iadd, 1) := by decide +kernel
theorem dX2_rewrite_159 : decode cX2_rewrite 159 = .ok (.iastore, 1) := by decide +kernel
theorem dX2_rewrite_160 : decode cX2_rewrite 160 = .ok (.return_, 1) := by decide +kernel
theorem dX2_writeBeta_0 : decode cX2_writeBeta 0 = .ok (.aload_n 0, 1) := by decide +kernel
theorem dX2_writeBeta_1 : decode cX2_writeBeta 1 = .ok (.getfield 18, 3) := by decide +kernel
theorem dX2_writeBeta_4 : decode cX2_writeBeta 4 = .ok (.iconst 1, 1) := by decide +kernel
theorem dX2_writeBeta_5 : decode cX2_writeBeta 5 = .ok (.iconst 0, 1) := by decide +kernel
theorem dX2_writeBeta_6 : decode cX2_writeBeta 6 = .ok (.invokevirtual 96, 3) := by decide +kernel
theorem dX2_writeBeta_9 : decode cX2_writeBeta 9 = .ok (.aload_n 0, 1) := by decide +kernel
theorem dX2_writeBeta_10 : decode cX2_writeBeta 10 = .ok (.getfield 18, 3) := by decide +kernel
theorem dX2_writeBeta_13 : decode cX2_writeBeta 13 = .ok (.aload_n 0, 1) := by decide +kernel
theorem dX2_writeBeta_14 : decode cX2_writeBeta 14 = .ok (.getfield 12, 3) := by decide +kernel
theorem dX2_writeBeta_17 : decode cX2_writeBeta 17 = .ok (.iload_n 1, 1) := by decide +kernel
theorem dX2_writeBeta_18 : decode cX2_writeBeta 18 = .ok (.iconst 2, 1) := by decide +kernel
theorem dX2_writeBeta_19 : decode cX2_writeBeta 19 = .ok (.iadd, 1) := by decide +kernel
theorem dX2_writeBeta_20 : decode cX2_writeBeta 20 = .ok (.aload_n 0, 1) := by decide +kernel
theorem dX2_writeBeta_21 : decode cX2_writeBeta 21 = .ok (.getfield 12, 3) := by decide +kernel
theorem dX2_writeBeta_24 : decode cX2_writeBeta 24 = .ok (.iload_n 1, 1) := by decide +kernel
theorem dX2_writeBeta_25 : decode cX2_writeBeta 25 = .ok (.iconst 1, 1) := by decide +kernel
theorem dX2_writeBeta_26 : decode cX2_writeBeta 26 = .ok (.invokevirtual 93, 3) := by decide +kernel
theorem dX2_writeBeta_29 : decode cX2_writeBeta 29 = .ok (.invokevirtual 74, 3) := by decide +kernel
theorem dX2_writeBeta_32 : decode cX2_writeBeta 32 = .ok (.return_, 1) := by decide +kernel
theorem dX2_writeApply_0 : decode cX2_writeApply 0 = .ok (.aload_n 0, 1) := by decide +kernel
theorem dX2_writeApply_1 : decode cX2_writeApply 1 = .ok (.getfield 12, 3) := by decide +kernel
theorem dX2_writeApply_4 : decode cX2_writeApply 4 = .ok (.iload_n 1, 1) := by decide +kernel
theorem dX2_writeApply_5 : decode cX2_writeApply 5 = .ok (.invokevirtual 99, 3) := by decide +kernel
theorem dX2_writeApply_8 : decode cX2_writeApply 8 = .ok (.istore_n 2, 1) := by decide +kernel
theorem dX2_writeApply_9 : decode cX2_writeApply 9 = .ok (.aload_n 0, 1) := by decide +kernel
theorem dX2_writeApply_10 : decode cX2_writeApply 10 = .ok (.getfield 12, 3) := by decide +kernel
theorem dX2_writeApply_13 : decode cX2_writeApply 13 = .ok (.iload_n 1, 1) := by decide +kernel
theorem dX2_writeApply_14 : decode cX2_writeApply 14 = .ok (.invokevirtual 102, 3) := by decide +kernel
theorem dX2_writeApply_17 : decode cX2_writeApply 17 = .ok (.istore_n 3, 1) := by decide +kernel
theorem dX2_writeApply_18 : decode cX2_writeApply 18 = .ok (.aload_n 0, 1) := by decide +kernel
theorem dX2_writeApply_19 : decode cX2_writeApply 19 = .ok (.getfield 12, 3) := by decide +kernel
theorem dX2_writeApply_22 : decode cX2_writeApply 22 = .ok (.iload_n 1, 1) := by decide +kernel
theorem dX2_writeApply_23 : decode cX2_writeApply 23 = .ok (.iconst 2, 1) := by decide +kernel
theorem dX2_writeApply_24 : decode cX2_writeApply 24 = .ok (.iadd, 1) := by decide +kernel
theorem dX2_writeApply_25 : decode cX2_writeApply 25 = .ok (.iconst 1, 1) := by decide +kernel
theorem dX2_writeApply_26 : decode cX2_writeApply 26 = .ok (.invokevirtual 93, 3) := by decide +kernel
theorem dX2_writeApply_29 : decode cX2_writeApply 29 = .ok (.istore 4, 2) := by decide +kernel
theorem dX2_writeApply_31 : decode cX2_writeApply 31 = .ok (.aload_n 0, 1) := by decide +kernel
theorem dX2_writeApply_32 : decode cX2_writeApply 32 = .ok (.getfield 12, 3) := by decide +kernel
theorem dX2_writeApply_35 : decode cX2_writeApply 35 = .ok (.iload 4, 2) := by decide +kernel
theorem dX2_writeApply_37 : decode cX2_writeApply 37 = .ok (.iconst 1, 1) := by decide +kernel
theorem dX2_writeApply_38 : decode cX2_writeApply 38 = .ok (.invokevirtual 93, 3) := by decide +kernel
theorem dX2_writeApply_41 : decode cX2_writeApply 41 = .ok (.istore 5, 2) := by decide +kernel
theorem dX2_writeApply_43 : decode cX2_writeApply 43 = .ok (.aload_n 0, 1) := by decide +kernel
theorem dX2_writeApply_44 : decode cX2_writeApply 44 = .ok (.getfield 12, 3) := by decide +kernel
theorem dX2_writeApply_47 : decode cX2_writeApply 47 = .ok (.iload 5, 2) := by decide +kernel
theorem dX2_writeApply_49 : decode cX2_writeApply 49 = .ok (.iload_n 2, 1) := by decide +kernel
theorem dX2_writeApply_50 : decode cX2_writeApply 50 = .ok (.invokevirtual 93, 3) := by decide +kernel
theorem dX2_writeApply_53 : decode cX2_writeApply 53 = .ok (.istore 6, 2) := by decide +kernel
theorem dX2_writeApply_55 : decode cX2_writeApply 55 = .ok (.aload_n 0, 1) := by decide +kernel
theorem dX2_writeApply_56 : decode cX2_writeApply 56 = .ok (.getfield 18, 3) := by decide +kernel
theorem dX2_writeApply_59 : decode cX2_writeApply 59 = .ok (.sipush 1000, 3) := by decide +kernel
theorem dX2_writeApply_62 : decode cX2_writeApply 62 = .ok (.invokevirtual 69, 3) := by decide +kernel
theorem dX2_writeApply_65 : decode cX2_writeApply 65 = .ok (.aload_n 0, 1) := by decide +kernel
theorem dX2_writeApply_66 : decode cX2_writeApply 66 = .ok (.getfield 18, 3) := by decide +kernel
theorem dX2_writeApply_69 : decode cX2_writeApply 69 = .ok (.iload_n 2, 1) := by decide +kernel
theorem dX2_writeApply_70 : decode cX2_writeApply 70 = .ok (.iload_n 3, 1) := by decide +kernel
theorem dX2_writeApply_71 : decode cX2_writeApply 71 = .ok (.invokevirtual 96, 3) := by decide +kernel
theorem dX2_writeApply_74 : decode cX2_writeApply 74 = .ok (.aload_n 0, 1) := by decide +kernel
theorem dX2_writeApply_75 : decode cX2_writeApply 75 = .ok (.getfield 18, 3) := by decide +kernel
theorem dX2_writeApply_78 : decode cX2_writeApply 78 = .ok (.aload_n 0, 1) := by decide +kernel
theorem dX2_writeApply_79 : decode cX2_writeApply 79 = .ok (.getfield 12, 3) := by decide +kernel
theorem dX2_writeApply_82 : decode cX2_writeApply 82 = .ok (.iload_n 1, 1) := by decide +kernel
theorem dX2_writeApply_83 : decode cX2_writeApply 83 = .ok (.iconst 2, 1) := by decide +kernel
theorem dX2_writeApply_84 : decode cX2_writeApply 84 = .ok (.iadd, 1) := by decide +kernel
theorem dX2_writeApply_85 : decode cX2_writeApply 85 = .ok (.iload 4, 2) := by decide +kernel
theorem dX2_writeApply_87 : decode cX2_writeApply 87 = .ok (.invokevirtual 74, 3) := by decide +kernel
theorem dX2_writeApply_90 : decode cX2_writeApply 90 = .ok (.aload_n 0, 1) := by decide +kernel
theorem dX2_writeApply_91 : decode cX2_writeApply 91 = .ok (.getfield 18, 3) := by decide +kernel
theorem dX2_writeApply_94 : decode cX2_writeApply 94 = .ok (.aload_n 0, 1) := by decide +kernel
theorem dX2_writeApply_95 : decode cX2_writeApply 95 = .ok (.getfield 12, 3) := by decide +kernel
theorem dX2_writeApply_98 : decode cX2_writeApply 98 = .ok (.iload 5, 2) := by decide +kernel
theorem dX2_writeApply_100 : decode cX2_writeApply 100 = .ok (.iload 6, 2) := by decide +kernel
theorem dX2_writeApply_102 : decode cX2_writeApply 102 = .ok (.invokevirtual 74, 3) := by decide +kernel
theorem dX2_writeApply_105 : decode cX2_writeApply 105 = .ok (.aload_n 0, 1) := by decide +kernel
theorem dX2_writeApply_106 : decode cX2_writeApply 106 = .ok (.getfield 18, 3) := by decide +kernel
theorem dX2_writeApply_109 : decode cX2_writeApply 109 = .ok (.iload_n 2, 1) := by decide +kernel
theorem dX2_writeApply_110 : decode cX2_writeApply 110 = .ok (.iload_n 3, 1) := by decide +kernel
theorem dX2_writeApply_111 : decode cX2_writeApply 111 = .ok (.invokevirtual 96, 3) := by decide +kernel
theorem dX2_writeApply_114 : decode cX2_writeApply 114 = .ok (.aload_n 0, 1) := by decide +kernel
theorem dX2_writeApply_115 : decode cX2_writeApply 115 = .ok (.getfield 18, 3) := by decide +kernel
theorem dX2_writeApply_118 : decode cX2_writeApply 118 = .ok (.aload_n 0, 1) := by decide +kernel
theorem dX2_writeApply_119 : decode cX2_writeApply 119 = .ok (.getfield 12, 3) := by decide +kernel
theorem dX2_writeApply_122 : decode cX2_writeApply 122 = .ok (.iload 4, 2) := by decide +kernel
theorem dX2_writeApply_124 : decode cX2_writeApply 124 = .ok (.iload 6, 2) := by decide +kernel
theorem dX2_writeApply_126 : decode cX2_writeApply 126 = .ok (.invokevirtual 74, 3) := by decide +kernel
theorem dX2_writeApply_129 : decode cX2_writeApply 129 = .ok (.return_, 1) := by decide +kernel
theorem dX2_writeAbstract_0 : decode cX2_writeAbstract 0 = .ok (.aload_n 0, 1) := by decide +kernel
theorem dX2_writeAbstract_1 : decode cX2_writeAbstract 1 = .ok (.getfield 12, 3) := by decide +kernel
theorem dX2_writeAbstract_4 : decode cX2_writeAbstract 4 = .ok (.iload_n 1, 1) := by decide +kernel
theorem dX2_writeAbstract_5 : decode cX2_writeAbstract 5 = .ok (.invokevirtual 99, 3) := by decide +kernel
theorem dX2_writeAbstract_8 : decode cX2_writeAbstract 8 = .ok (.istore_n 2, 1) := by decide +kernel
theorem dX2_writeAbstract_9 : decode cX2_writeAbstract 9 = .ok (.aload_n 0, 1) := by decide +kernel
theorem dX2_writeAbstract_10 : decode cX2_writeAbstract 10 = .ok (.getfield 12, 3) := by decide +kernel
theorem dX2_writeAbstract_13 : decode cX2_writeAbstract 13 = .ok (.iload_n 1, 1) := by decide +kernel
theorem dX2_writeAbstract_14 : decode cX2_writeAbstract 14 = .ok (.iconst 2, 1) := by decide +kernel
theorem dX2_writeAbstract_15 : decode cX2_writeAbstract 15 = .ok (.iadd, 1) := by decide +kernel
theorem dX2_writeAbstract_16 : decode cX2_writeAbstract 16 = .ok (.iconst 1, 1) := by decide +kernel
theorem dX2_writeAbstract_17 : decode cX2_writeAbstract 17 = .ok (.invokevirtual 93, 3) := by decide +kernel
theorem dX2_writeAbstract_20 : decode cX2_writeAbstract 20 = .ok (.istore_n 3, 1) := by decide +kernel
theorem dX2_writeAbstract_21 : decode cX2_writeAbstract 21 = .ok (.aload_n 0, 1) := by decide +kernel
theorem dX2_writeAbstract_22 : decode cX2_writeAbstract 22 = .ok (.getfield 18, 3) := by decide +kernel
theorem dX2_writeAbstract_25 : decode cX2_writeAbstract 25 = .ok (.sipush 1001, 3) := by decide +kernel
theorem dX2_writeAbstract_28 : decode cX2_writeAbstract 28 = .ok (.invokevirtual 69, 3) := by decide +kernel
theorem dX2_writeAbstract_31 : decode cX2_writeAbstract 31 = .ok (.aload_n 0, 1) := by decide +kernel
theorem dX2_writeAbstract_32 : decode cX2_writeAbstract 32 = .ok (.getfield 18, 3) := by decide +kernel
theorem dX2_writeAbstract_35 : decode cX2_writeAbstract 35 = .ok (.iload_n 2, 1) := by decide +kernel
theorem dX2_writeAbstract_36 : decode cX2_writeAbstract 36 = .ok (.iconst 1, 1) := by decide +kernel
theorem dX2_writeAbstract_37 : decode cX2_writeAbstract 37 = .ok (.iadd, 1) := by decide +kernel
theorem dX2_writeAbstract_38 : decode cX2_writeAbstract 38 = .ok (.aload_n 0, 1) := by decide +kernel
theorem dX2_writeAbstract_39 : decode cX2_writeAbstract 39 = .ok (.getfield 12, 3) := by decide +kernel
theorem dX2_writeAbstract_42 : decode cX2_writeAbstract 42 = .ok (.iload_n 1, 1) := by decide +kernel
theorem dX2_writeAbstract_43 : decode cX2_writeAbstract 43 = .ok (.invokevirtual 102, 3) := by decide +kernel
theorem dX2_writeAbstract_46 : decode cX2_writeAbstract 46 = .ok (.iconst 1, 1) := by decide +kernel
theorem dX2_writeAbstract_47 : decode cX2_writeAbstract 47 = .ok (.iadd, 1) := by decide +kernel
theorem dX2_writeAbstract_48 : decode cX2_writeAbstract 48 = .ok (.invokevirtual 96, 3) := by decide +kernel
theorem dX2_writeAbstract_51 : decode cX2_writeAbstract 51 = .ok (.aload_n 0, 1) := by decide +kernel
theorem dX2_writeAbstract_52 : decode cX2_writeAbstract 52 = .ok (.getfield 18, 3) := by decide +kernel
theorem dX2_writeAbstract_55 : decode cX2_writeAbstract 55 = .ok (.aload_n 0, 1) := by decide +kernel
theorem dX2_writeAbstract_56 : decode cX2_writeAbstract 56 = .ok (.getfield 12, 3) := by decide +kernel
theorem dX2_writeAbstract_59 : decode cX2_writeAbstract 59 = .ok (.iload_n 1, 1) := by decide +kernel
theorem dX2_writeAbstract_60 : decode cX2_writeAbstract 60 = .ok (.iconst 2, 1) := by decide +kernel
theorem dX2_writeAbstract_61 : decode cX2_writeAbstract 61 = .ok (.iadd, 1) := by decide +kernel
theorem dX2_writeAbstract_62 : decode cX2_writeAbstract 62 = .ok (.iload_n 3, 1) := by decide +kernel
theorem dX2_writeAbstract_63 : decode cX2_writeAbstract 63 = .ok (.invokevirtual 74, 3) := by decide +kernel
theorem dX2_writeAbstract_66 : decode cX2_writeAbstract 66 = .ok (.aload_n 0, 1) := by decide +kernel
theorem dX2_writeAbstract_67 : decode cX2_writeAbstract 67 = .ok (.getfield 18, 3) := by decide +kernel
theorem dX2_writeAbstract_70 : decode cX2_writeAbstract 70 = .ok (.iconst 0, 1) := by decide +kernel
theorem dX2_writeAbstract_71 : decode cX2_writeAbstract 71 = .ok (.invokevirtual 69, 3) := by decide +kernel
theorem dX2_writeAbstract_74 : decode cX2_writeAbstract 74 = .ok (.iconst 0, 1) := by decide +kernel
theorem dX2_writeAbstract_75 : decode cX2_writeAbstract 75 = .ok (.istore 4, 2) := by decide +kernel
theorem dX2_writeAbstract_77 : decode cX2_writeAbstract 77 = .ok (.iload 4, 2) := by decide +kernel
theorem dX2_writeAbstract_79 : decode cX2_writeAbstract 79 = .ok (.iload_n 2, 1) := by decide +kernel
theorem dX2_writeAbstract_80 : decode cX2_writeAbstract 80 = .ok (.if_icmp .ge 56, 3) := by decide +kernel
theorem dX2_writeAbstract_83 : decode cX2_writeAbstract 83 = .ok (.aload_n 0, 1) := by decide +kernel
theorem dX2_writeAbstract_84 : decode cX2_writeAbstract 84 = .ok (.getfield 18, 3) := by decide +kernel
theorem dX2_writeAbstract_87 : decode cX2_writeAbstract 87 = .ok (.invokevirtual 45, 3) := by decide +kernel
theorem dX2_writeAbstract_90 : decode cX2_writeAbstract 90 = .ok (.ifCond .ne 46, 3) := by decide +kernel
theorem dX2_writeAbstract_93 : decode cX2_writeAbstract 93 = .ok (.aload_n 0, 1) := by decide +kernel
theorem dX2_writeAbstract_94 : decode cX2_writeAbstract 94 = .ok (.getfield 12, 3) := by decide +kernel
theorem dX2_writeAbstract_97 : decode cX2_writeAbstract 97 = .ok (.iload_n 3, 1) := by decide +kernel
theorem dX2_writeAbstract_98 : decode cX2_writeAbstract 98 = .ok (.iconst 1, 1) := by decide +kernel
theorem dX2_writeAbstract_99 : decode cX2_writeAbstract 99 = .ok (.invokevirtual 93, 3) := by decide +kernel
theorem dX2_writeAbstract_102 : decode cX2_writeAbstract 102 = .ok (.istore 5, 2) := by decide +kernel
theorem dX2_writeAbstract_104 : decode cX2_writeAbstract 104 = .ok (.aload_n 0, 1) := by decide +kernel
theorem dX2_writeAbstract_105 : decode cX2_writeAbstract 105 = .ok (.getfield 18, 3) := by decide +kernel
theorem dX2_writeAbstract_108 : decode cX2_writeAbstract 108 = .ok (.iconst 0, 1) := by decide +kernel
theorem dX2_writeAbstract_109 : decode cX2_writeAbstract 109 = .ok (.iconst 1, 1) := by decide +kernel
theorem dX2_writeAbstract_110 : decode cX2_writeAbstract 110 = .ok (.invokevirtual 96, 3) := by decide +kernel
theorem dX2_writeAbstract_113 : decode cX2_writeAbstract 113 = .ok (.aload_n 0, 1) := by decide +kernel
theorem dX2_writeAbstract_114 : decode cX2_writeAbstract 114 = .ok (.getfield 18, 3) := by decide +kernel
theorem dX2_writeAbstract_117 : decode cX2_writeAbstract 117 = .ok (.aload_n 0, 1) := by decide +kernel
theorem dX2_writeAbstract_118 : decode cX2_writeAbstract 118 = .ok (.getfield 12, 3) := by decide +kernel
theorem dX2_writeAbstract_121 : decode cX2_writeAbstract 121 = .ok (.iload_n 3, 1) := by decide +kernel
theorem dX2_writeAbstract_122 : decode cX2_writeAbstract 122 = .ok (.iload 5, 2) := by decide +kernel
theorem dX2_writeAbstract_124 : decode cX2_writeAbstract 124 = .ok (.invokevirtual 74, 3) := by decide +kernel
theorem dX2_writeAbstract_127 : decode cX2_writeAbstract 127 = .ok (.iload 5, 2) := by decide +kernel
theorem dX2_writeAbstract_129 : decode cX2_writeAbstract 129 = .ok (.istore_n 3, 1) := by decide +kernel
theorem dX2_writeAbstract_130 : decode cX2_writeAbstract 130 = .ok (.iinc 4 1, 3) := by decide +kernel
theorem dX2_writeAbstract_133 : decode cX2_writeAbstract 133 = .ok (.goto (-56), 3) := by decide +kernel
theorem dX2_writeAbstract_136 : decode cX2_writeAbstract 136 = .ok (.return_, 1) := by decide +kernel
theorem dX2_writeLookup_0 : decode cX2_writeLookup 0 = .ok (.aload_n 0, 1) := by decide +kernel
theorem dX2_writeLookup_1 : decode cX2_writeLookup 1 = .ok (.getfield 12, 3) := by decide +kernel
theorem dX2_writeLookup_4 : decode cX2_writeLookup 4 = .ok (.iload_n 1, 1) := by decide +kernel
theorem dX2_writeLookup_5 : decode cX2_writeLookup 5 = .ok (.invokevirtual 99, 3) := by decide +kernel
theorem dX2_writeLookup_8 : decode cX2_writeLookup 8 = .ok (.istore_n 2, 1) := by decide +kernel
theorem dX2_writeLookup_9 : decode cX2_writeLookup 9 = .ok (.aload_n 0, 1) := by decide +kernel
theorem dX2_writeLookup_10 : decode cX2_writeLookup 10 = .ok (.getfield 12, 3) := by decide +kernel
theorem dX2_writeLookup_13 : decode cX2_writeLookup 13 = .ok (.iload_n 1, 1) := by decide +kernel
theorem dX2_writeLookup_14 : decode cX2_writeLookup 14 = .ok (.iconst 1, 1) := by decide +kernel
theorem dX2_writeLookup_15 : decode cX2_writeLookup 15 = .ok (.iadd, 1) := by decide +kernel
theorem dX2_writeLookup_16 : decode cX2_writeLookup 16 = .ok (.invokevirtual 73, 3) := by decide +kernel
theorem dX2_writeLookup_19 : decode cX2_writeLookup 19 = .ok (.istore_n 3, 1) := by decide +kernel
theorem dX2_writeLookup_20 : decode cX2_writeLookup 20 = .ok (.iload_n 3, 1) := by decide +kernel
theorem dX2_writeLookup_21 : decode cX2_writeLookup 21 = .ok (.iload_n 2, 1) := by decide +kernel
theorem dX2_writeLookup_22 : decode cX2_writeLookup 22 = .ok (.if_icmp .ge 42, 3) := by decide +kernel
theorem dX2_writeLookup_25 : decode cX2_writeLookup 25 = .ok (.aload_n 0, 1) := by decide +kernel
theorem dX2_writeLookup_26 : decode cX2_writeLookup 26 = .ok (.getfield 12, 3) := by decide +kernel
theorem dX2_writeLookup_29 : decode cX2_writeLookup 29 = .ok (.iload_n 1, 1) := by decide +kernel
theorem dX2_writeLookup_30 : decode cX2_writeLookup 30 = .ok (.iconst 2, 1) := by decide +kernel
theorem dX2_writeLookup_31 : decode cX2_writeLookup 31 = .ok (.iadd, 1) := by decide +kernel
theorem dX2_writeLookup_32 : decode cX2_writeLookup 32 = .ok (.iload_n 3, 1) := by decide +kernel
theorem dX2_writeLookup_33 : decode cX2_writeLookup 33 = .ok (.invokevirtual 93, 3) := by decide +kernel
theorem dX2_writeLookup_36 : decode cX2_writeLookup 36 = .ok (.istore 4, 2) := by decide +kernel
theorem dX2_writeLookup_38 : decode cX2_writeLookup 38 = .ok (.aload_n 0, 1) := by decide +kernel
theorem dX2_writeLookup_39 : decode cX2_writeLookup 39 = .ok (.getfield 18, 3) := by decide +kernel
theorem dX2_writeLookup_42 : decode cX2_writeLookup 42 = .ok (.aload_n 0, 1) := by decide +kernel
theorem dX2_writeLookup_43 : decode cX2_writeLookup 43 = .ok (.getfield 12, 3) := by decide +kernel
theorem dX2_writeLookup_46 : decode cX2_writeLookup 46 = .ok (.iload 4, 2) := by decide +kernel
theorem dX2_writeLookup_48 : decode cX2_writeLookup 48 = .ok (.aload_n 0, 1) := by decide +kernel
theorem dX2_writeLookup_49 : decode cX2_writeLookup 49 = .ok (.getfield 12, 3) := by decide +kernel
theorem dX2_writeLookup_52 : decode cX2_writeLookup 52 = .ok (.iload 4, 2) := by decide +kernel
theorem dX2_writeLookup_54 : decode cX2_writeLookup 54 = .ok (.iconst 1, 1) := by decide +kernel
theorem dX2_writeLookup_55 : decode cX2_writeLookup 55 = .ok (.invokevirtual 93, 3) := by decide +kernel
theorem dX2_writeLookup_58 : decode cX2_writeLookup 58 = .ok (.invokevirtual 74, 3) := by decide +kernel
theorem dX2_writeLookup_61 : decode cX2_writeLookup 61 = .ok (.goto 22, 3) := by decide +kernel
theorem dX2_writeLookup_64 : decode cX2_writeLookup 64 = .ok (.aload_n 0, 1) := by decide +kernel
theorem dX2_writeLookup_65 : decode cX2_writeLookup 65 = .ok (.getfield 18, 3) := by decide +kernel
theorem dX2_writeLookup_68 : decode cX2_writeLookup 68 = .ok (.iload_n 3, 1) := by decide +kernel
theorem dX2_writeLookup_69 : decode cX2_writeLookup 69 = .ok (.iload_n 2, 1) := by decide +kernel
theorem dX2_writeLookup_70 : decode cX2_writeLookup 70 = .ok (.isub, 1) := by decide +kernel
theorem dX2_writeLookup_71 : decode cX2_writeLookup 71 = .ok (.aload_n 0, 1) := by decide +kernel
theorem dX2_writeLookup_72 : decode cX2_writeLookup 72 = .ok (.getfield 12, 3) := by decide +kernel
theorem dX2_writeLookup_75 : decode cX2_writeLookup 75 = .ok (.iload_n 1, 1) := by decide +kernel
theorem dX2_writeLookup_76 : decode cX2_writeLookup 76 = .ok (.invokevirtual 102, 3) := by decide +kernel
theorem dX2_writeLookup_79 : decode cX2_writeLookup 79 = .ok (.iadd, 1) := by decide +kernel
theorem dX2_writeLookup_80 : decode cX2_writeLookup 80 = .ok (.invokevirtual 69, 3) := by decide +kernel
theorem dX2_writeLookup_83 : decode cX2_writeLookup 83 = .ok (.return_, 1) := by decide +kernel
theorem dX2_writeMerge_0 : decode cX2_writeMerge 0 = .ok (.aload_n 0, 1) := by decide +kernel
theorem dX2_writeMerge_1 : decode cX2_writeMerge 1 = .ok (.getfield 12, 3) := by decide +kernel
theorem dX2_writeMerge_4 : decode cX2_writeMerge 4 = .ok (.iload_n 1, 1) := by decide +kernel
theorem dX2_writeMerge_5 : decode cX2_writeMerge 5 = .ok (.invokevirtual 99, 3) := by decide +kernel
theorem dX2_writeMerge_8 : decode cX2_writeMerge 8 = .ok (.istore_n 2, 1) := by decide +kernel
theorem dX2_writeMerge_9 : decode cX2_writeMerge 9 = .ok (.aload_n 0, 1) := by decide +kernel
theorem dX2_writeMerge_10 : decode cX2_writeMerge 10 = .ok (.getfield 12, 3) := by decide +kernel
theorem dX2_writeMerge_13 : decode cX2_writeMerge 13 = .ok (.iload_n 1, 1) := by decide +kernel
theorem dX2_writeMerge_14 : decode cX2_writeMerge 14 = .ok (.invokevirtual 102, 3) := by decide +kernel
theorem dX2_writeMerge_17 : decode cX2_writeMerge 17 = .ok (.istore_n 3, 1) := by decide +kernel
theorem dX2_writeMerge_18 : decode cX2_writeMerge 18 = .ok (.aload_n 0, 1) := by decide +kernel
theorem dX2_writeMerge_19 : decode cX2_writeMerge 19 = .ok (.getfield 12, 3) := by decide +kernel
theorem dX2_writeMerge_22 : decode cX2_writeMerge 22 = .ok (.iload_n 1, 1) := by decide +kernel
theorem dX2_writeMerge_23 : decode cX2_writeMerge 23 = .ok (.iconst 1, 1) := by decide +kernel
theorem dX2_writeMerge_24 : decode cX2_writeMerge 24 = .ok (.iadd, 1) := by decide +kernel
theorem dX2_writeMerge_25 : decode cX2_writeMerge 25 = .ok (.invokevirtual 99, 3) := by decide +kernel
theorem dX2_writeMerge_28 : decode cX2_writeMerge 28 = .ok (.istore 4, 2) := by decide +kernel
theorem dX2_writeMerge_30 : decode cX2_writeMerge 30 = .ok (.aload_n 0, 1) := by decide +kernel
theorem dX2_writeMerge_31 : decode cX2_writeMerge 31 = .ok (.getfield 12, 3) := by decide +kernel
theorem dX2_writeMerge_34 : decode cX2_writeMerge 34 = .ok (.iload_n 1, 1) := by decide +kernel
theorem dX2_writeMerge_35 : decode cX2_writeMerge 35 = .ok (.iconst 1, 1) := by decide +kernel
theorem dX2_writeMerge_36 : decode cX2_writeMerge 36 = .ok (.iadd, 1) := by decide +kernel
theorem dX2_writeMerge_37 : decode cX2_writeMerge 37 = .ok (.invokevirtual 102, 3) := by decide +kernel
theorem dX2_writeMerge_40 : decode cX2_writeMerge 40 = .ok (.istore 5, 2) := by decide +kernel
theorem dX2_writeMerge_42 : decode cX2_writeMerge 42 = .ok (.aload_n 0, 1) := by decide +kernel
theorem dX2_writeMerge_43 : decode cX2_writeMerge 43 = .ok (.getfield 12, 3) := by decide +kernel
theorem dX2_writeMerge_46 : decode cX2_writeMerge 46 = .ok (.iload_n 1, 1) := by decide +kernel
theorem dX2_writeMerge_47 : decode cX2_writeMerge 47 = .ok (.iconst 2, 1) := by decide +kernel
theorem dX2_writeMerge_48 : decode cX2_writeMerge 48 = .ok (.iadd, 1) := by decide +kernel
theorem dX2_writeMerge_49 : decode cX2_writeMerge 49 = .ok (.iconst 1, 1) := by decide +kernel
theorem dX2_writeMerge_50 : decode cX2_writeMerge 50 = .ok (.invokevirtual 93, 3) := by decide +kernel
theorem dX2_writeMerge_53 : decode cX2_writeMerge 53 = .ok (.istore 6, 2) := by decide +kernel
theorem dX2_writeMerge_55 : decode cX2_writeMerge 55 = .ok (.aload_n 0, 1) := by decide +kernel
theorem dX2_writeMerge_56 : decode cX2_writeMerge 56 = .ok (.getfield 12, 3) := by decide +kernel
theorem dX2_writeMerge_59 : decode cX2_writeMerge 59 = .ok (.iload 6, 2) := by decide +kernel
theorem dX2_writeMerge_61 : decode cX2_writeMerge 61 = .ok (.iload 4, 2) := by decide +kernel
theorem dX2_writeMerge_63 : decode cX2_writeMerge 63 = .ok (.invokevirtual 93, 3) := by decide +kernel
theorem dX2_writeMerge_66 : decode cX2_writeMerge 66 = .ok (.istore 7, 2) := by decide +kernel
theorem dX2_writeMerge_68 : decode cX2_writeMerge 68 = .ok (.aload_n 0, 1) := by decide +kernel
theorem dX2_writeMerge_69 : decode cX2_writeMerge 69 = .ok (.getfield 12, 3) := by decide +kernel
theorem dX2_writeMerge_72 : decode cX2_writeMerge 72 = .ok (.iload 7, 2) := by decide +kernel
theorem dX2_writeMerge_74 : decode cX2_writeMerge 74 = .ok (.iload_n 2, 1) := by decide +kernel
theorem dX2_writeMerge_75 : decode cX2_writeMerge 75 = .ok (.invokevirtual 93, 3) := by decide +kernel
theorem dX2_writeMerge_78 : decode cX2_writeMerge 78 = .ok (.istore 8, 2) := by decide +kernel
theorem dX2_writeMerge_80 : decode cX2_writeMerge 80 = .ok (.iload 5, 2) := by decide +kernel
theorem dX2_writeMerge_82 : decode cX2_writeMerge 82 = .ok (.iload_n 2, 1) := by decide +kernel
theorem dX2_writeMerge_83 : decode cX2_writeMerge 83 = .ok (.invokestatic 105, 3) := by decide +kernel
theorem dX2_writeMerge_86 : decode cX2_writeMerge 86 = .ok (.istore 9, 2) := by decide +kernel
theorem dX2_writeMerge_88 : decode cX2_writeMerge 88 = .ok (.aload_n 0, 1) := by decide +kernel
theorem dX2_writeMerge_89 : decode cX2_writeMerge 89 = .ok (.getfield 18, 3) := by decide +kernel
theorem dX2_writeMerge_92 : decode cX2_writeMerge 92 = .ok (.iload 4, 2) := by decide +kernel
theorem dX2_writeMerge_94 : decode cX2_writeMerge 94 = .ok (.iload_n 2, 1) := by decide +kernel
theorem dX2_writeMerge_95 : decode cX2_writeMerge 95 = .ok (.iadd, 1) := by decide +kernel
theorem dX2_writeMerge_96 : decode cX2_writeMerge 96 = .ok (.iload 9, 2) := by decide +kernel
theorem dX2_writeMerge_98 : decode cX2_writeMerge 98 = .ok (.isub, 1) := by decide +kernel
theorem dX2_writeMerge_99 : decode cX2_writeMerge 99 = .ok (.iload 5, 2) := by decide +kernel
theorem dX2_writeMerge_101 : decode cX2_writeMerge 101 = .ok (.iload 9, 2) := by decide +kernel
theorem dX2_writeMerge_103 : decode cX2_writeMerge 103 = .ok (.isub, 1) := by decide +kernel
theorem dX2_writeMerge_104 : decode cX2_writeMerge 104 = .ok (.iload_n 3, 1) := by decide +kernel
theorem dX2_writeMerge_105 : decode cX2_writeMerge 105 = .ok (.iadd, 1) := by decide +kernel
theorem dX2_writeMerge_106 : decode cX2_writeMerge 106 = .ok (.invokevirtual 96, 3) := by decide +kernel
theorem dX2_writeMerge_109 : decode cX2_writeMerge 109 = .ok (.aload_n 0, 1) := by decide +kernel
theorem dX2_writeMerge_110 : decode cX2_writeMerge 110 = .ok (.getfield 18, 3) := by decide +kernel
theorem dX2_writeMerge_113 : decode cX2_writeMerge 113 = .ok (.aload_n 0, 1) := by decide +kernel
theorem dX2_writeMerge_114 : decode cX2_writeMerge 114 = .ok (.getfield 12, 3) := by decide +kernel
theorem dX2_writeMerge_117 : decode cX2_writeMerge 117 = .ok (.iload_n 1, 1) := by decide +kernel
theorem dX2_writeMerge_118 : decode cX2_writeMerge 118 = .ok (.iconst 2, 1) := by decide +kernel
theorem dX2_writeMerge_119 : decode cX2_writeMerge 119 = .ok (.iadd, 1) := by decide +kernel
theorem dX2_writeMerge_120 : decode cX2_writeMerge 120 = .ok (.iload 6, 2) := by decide +kernel
theorem dX2_writeMerge_122 : decode cX2_writeMerge 122 = .ok (.invokevirtual 74, 3) := by decide +kernel
theorem dX2_writeMerge_125 : decode cX2_writeMerge 125 = .ok (.iconst 0, 1) := by decide +kernel
theorem dX2_writeMerge_126 : decode cX2_writeMerge 126 = .ok (.istore 10, 2) := by decide +kernel
theorem dX2_writeMerge_128 : decode cX2_writeMerge 128 = .ok (.iload 10, 2) := by decide +kernel
theorem dX2_writeMerge_130 : decode cX2_writeMerge 130 = .ok (.iload 4, 2) := by decide +kernel
theorem dX2_writeMerge_132 : decode cX2_writeMerge 132 = .ok (.if_icmp .ge 74, 3) := by decide +kernel
theorem dX2_writeMerge_135 : decode cX2_writeMerge 135 = .ok (.aload_n 0, 1) := by decide +kernel
theorem dX2_writeMerge_136 : decode cX2_writeMerge 136 = .ok (.getfield 18, 3) := by decide +kernel
theorem dX2_writeMerge_139 : decode cX2_writeMerge 139 = .ok (.invokevirtual 45, 3) := by decide +kernel
theorem dX2_writeMerge_142 : decode cX2_writeMerge 142 = .ok (.ifCond .ne 64, 3) := by decide +kernel
theorem dX2_writeMerge_145 : decode cX2_writeMerge 145 = .ok (.aload_n 0, 1) := by decide +kernel
theorem dX2_writeMerge_146 : decode cX2_writeMerge 146 = .ok (.getfield 12, 3) := by decide +kernel
theorem dX2_writeMerge_149 : decode cX2_writeMerge 149 = .ok (.iload 6, 2) := by decide +kernel
theorem dX2_writeMerge_151 : decode cX2_writeMerge 151 = .ok (.iconst 1, 1) := by decide +kernel
theorem dX2_writeMerge_152 : decode cX2_writeMerge 152 = .ok (.invokevirtual 93, 3) := by decide +kernel
theorem dX2_writeMerge_155 : decode cX2_writeMerge 155 = .ok (.istore 11, 2) := by decide +kernel
theorem dX2_writeMerge_157 : decode cX2_writeMerge 157 = .ok (.aload_n 0, 1) := by decide +kernel
theorem dX2_writeMerge_158 : decode cX2_writeMerge 158 = .ok (.getfield 18, 3) := by decide +kernel
theorem dX2_writeMerge_161 : decode cX2_writeMerge 161 = .ok (.iload_n 2, 1) := by decide +kernel
theorem dX2_writeMerge_162 : decode cX2_writeMerge 162 = .ok (.iload_n 3, 1) := by decide +kernel
theorem dX2_writeMerge_163 : decode cX2_writeMerge 163 = .ok (.invokevirtual 96, 3) := by decide +kernel
theorem dX2_writeMerge_166 : decode cX2_writeMerge 166 = .ok (.aload_n 0, 1) := by decide +kernel
theorem dX2_writeMerge_167 : decode cX2_writeMerge 167 = .ok (.getfield 18, 3) := by decide +kernel
theorem dX2_writeMerge_170 : decode cX2_writeMerge 170 = .ok (.aload_n 0, 1) := by decide +kernel
theorem dX2_writeMerge_171 : decode cX2_writeMerge 171 = .ok (.getfield 12, 3) := by decide +kernel
theorem dX2_writeMerge_174 : decode cX2_writeMerge 174 = .ok (.iload 6, 2) := by decide +kernel
theorem dX2_writeMerge_176 : decode cX2_writeMerge 176 = .ok (.iload 11, 2) := by decide +kernel
theorem dX2_writeMerge_178 : decode cX2_writeMerge 178 = .ok (.invokevirtual 74, 3) := by decide +kernel
theorem dX2_writeMerge_181 : decode cX2_writeMerge 181 = .ok (.aload_n 0, 1) := by decide +kernel
theorem dX2_writeMerge_182 : decode cX2_writeMerge 182 = .ok (.getfield 18, 3) := by decide +kernel
theorem dX2_writeMerge_185 : decode cX2_writeMerge 185 = .ok (.aload_n 0, 1) := by decide +kernel
theorem dX2_writeMerge_186 : decode cX2_writeMerge 186 = .ok (.getfield 12, 3) := by decide +kernel
theorem dX2_writeMerge_189 : decode cX2_writeMerge 189 = .ok (.iload 7, 2) := by decide +kernel
theorem dX2_writeMerge_191 : decode cX2_writeMerge 191 = .ok (.iload 8, 2) := by decide +kernel
theorem dX2_writeMerge_193 : decode cX2_writeMerge 193 = .ok (.invokevirtual 74, 3) := by decide +kernel
theorem dX2_writeMerge_196 : decode cX2_writeMerge 196 = .ok (.iload 11, 2) := by decide +kernel
theorem dX2_writeMerge_198 : decode cX2_writeMerge 198 = .ok (.istore 6, 2) := by decide +kernel
theorem dX2_writeMerge_200 : decode cX2_writeMerge 200 = .ok (.iinc 10 1, 3) := by decide +kernel
theorem dX2_writeMerge_203 : decode cX2_writeMerge 203 = .ok (.goto (-75), 3) := by decide +kernel
theorem dX2_writeMerge_206 : decode cX2_writeMerge 206 = .ok (.aload_n 0, 1) := by decide +kernel
theorem dX2_writeMerge_207 : decode cX2_writeMerge 207 = .ok (.getfield 18, 3) := by decide +kernel
theorem dX2_writeMerge_210 : decode cX2_writeMerge 210 = .ok (.aload_n 0, 1) := by decide +kernel
theorem dX2_writeMerge_211 : decode cX2_writeMerge 211 = .ok (.getfield 12, 3) := by decide +kernel
theorem dX2_writeMerge_214 : decode cX2_writeMerge 214 = .ok (.aload_n 0, 1) := by decide +kernel
theorem dX2_writeMerge_215 : decode cX2_writeMerge 215 = .ok (.getfield 12, 3) := by decide +kernel
theorem dX2_writeMerge_218 : decode cX2_writeMerge 218 = .ok (.iload 7, 2) := by decide +kernel
theorem dX2_writeMerge_220 : decode cX2_writeMerge 220 = .ok (.iload 9, 2) := by decide +kernel
theorem dX2_writeMerge_222 : decode cX2_writeMerge 222 = .ok (.invokevirtual 93, 3) := by decide +kernel
theorem dX2_writeMerge_225 : decode cX2_writeMerge 225 = .ok (.iload 8, 2) := by decide +kernel
theorem dX2_writeMerge_227 : decode cX2_writeMerge 227 = .ok (.invokevirtual 74, 3) := by decide +kernel
theorem dX2_writeMerge_230 : decode cX2_writeMerge 230 = .ok (.return_, 1) := by decide +kernel
theorem dX3_init_0 : decode cX3_init 0 = .ok (.aload_n 0, 1) := by decide +kernel
theorem dX3_init_1 : decode cX3_init 1 = .ok (.invokespecial 3, 3) := by decide +kernel
theorem dX3_init_4 : decode cX3_init 4 = .ok (.aload_n 0, 1) := by decide +kernel
theorem dX3_init_5 : decode cX3_init 5 = .ok (.bipush 6, 2) := by decide +kernel
theorem dX3_init_7 : decode cX3_init 7 = .ok (.newarray .int, 2) := by decide +kernel
theorem dX3_init_9 : decode cX3_init 9 = .ok (.putfield 9, 3) := by decide +kernel
theorem dX3_init_12 : decode cX3_init 12 = .ok (.aload_n 0, 1) := by decide +kernel
theorem dX3_init_13 : decode cX3_init 13 = .ok (.bipush 6, 2) := by decide +kernel
theorem dX3_init_15 : decode cX3_init 15 = .ok (.newarray .int, 2) := by decide +kernel
theorem dX3_init_17 : decode cX3_init 17 = .ok (.putfield 15, 3) := by decide +kernel
theorem dX3_init_20 : decode cX3_init 20 = .ok (.aload_n 0, 1) := by decide +kernel
theorem dX3_init_21 : decode cX3_init 21 = .ok (.iconst 0, 1) := by decide +kernel
theorem dX3_init_22 : decode cX3_init 22 = .ok (.putfield 18, 3) := by decide +kernel
theorem dX3_init_25 : decode cX3_init 25 = .ok (.return_, 1) := by decide +kernel
theorem dX3_count_0 : decode cX3_count 0 = .ok (.aload_n 0, 1) := by decide +kernel
theorem dX3_count_1 : decode cX3_count 1 = .ok (.getfield 18, 3) := by decide +kernel
theorem dX3_count_4 : decode cX3_count 4 = .ok (.ireturn, 1) := by decide +kernel
theorem dX3_add_0 : decode cX3_add 0 = .ok (.aload_n 0, 1) := by decide +kernel
theorem dX3_add_1 : decode cX3_add 1 = .ok (.getfield 18, 3) := by decide +kernel
theorem dX3_add_4 : decode cX3_add 4 = .ok (.bipush 6, 2) := by decide +kernel
theorem dX3_add_6 : decode cX3_add 6 = .ok (.if_icmp .lt 7, 3) := by decide +kernel
theorem dX3_add_9 : decode cX3_add 9 = .ok (.aload_n 0, 1) := by decide +kernel
theorem dX3_add_10 : decode cX3_add 10 = .ok (.invokevirtual 22, 3) := by decide +kernel
theorem dX3_add_13 : decode cX3_add 13 = .ok (.aload_n 0, 1) := by decide +kernel
theorem dX3_add_14 : decode cX3_add 14 = .ok (.getfield 18, 3) := by decide +kernel
theorem dX3_add_17 : decode cX3_add 17 = .ok (.ifCond .lt 42, 3) := by decide +kernel
theorem dX3_add_20 : decode cX3_add 20 = .ok (.aload_n 0, 1) := by decide +kernel
theorem dX3_add_21 : decode cX3_add 21 = .ok (.getfield 18, 3) := by decide +kernel
theorem dX3_add_24 : decode cX3_add 24 = .ok (.bipush 6, 2) := by decide +kernel
theorem dX3_add_26 : decode cX3_add 26 = .ok (.if_icmp .ge 33, 3) := by decide +kernel
theorem dX3_add_29 : decode cX3_add 29 = .ok (.aload_n 0, 1) := by decide +kernel
theorem dX3_add_30 : decode cX3_add 30 = .ok (.getfield 9, 3) := by decide +kernel
theorem dX3_add_33 : decode cX3_add 33 = .ok (.aload_n 0, 1) := by decide +kernel
theorem dX3_add_34 : decode cX3_add 34 = .ok (.getfield 18, 3) := by decide +kernel
theorem dX3_add_37 : decode cX3_add 37 = .ok (.iload_n 1, 1) := by decide +kernel
theorem dX3_add_38 : decode cX3_add 38 = .ok (.iastore, 1) := by decide +kernel
theorem dX3_add_39 : decode cX3_add 39 = .ok (.aload_n 0, 1) := by decide +kernel
theorem dX3_add_40 : decode cX3_add 40 = .ok (.getfield 15, 3) := by decide +kernel
theorem dX3_add_43 : decode cX3_add 43 = .ok (.aload_n 0, 1) := by decide +kernel
theorem dX3_add_44 : decode cX3_add 44 = .ok (.getfield 18, 3) := by decide +kernel
theorem dX3_add_47 : decode cX3_add 47 = .ok (.iload_n 2, 1) := by decide +kernel
theorem dX3_add_48 : decode cX3_add 48 = .ok (.iastore, 1) := by decide +kernel
theorem dX3_add_49 : decode cX3_add 49 = .ok (.aload_n 0, 1) := by decide +kernel
theorem dX3_add_50 : decode cX3_add 50 = .ok (.dup, 1) := by decide +kernel
theorem dX3_add_51 : decode cX3_add 51 = .ok (.getfield 18, 3) := by decide +kernel
theorem dX3_add_54 : decode cX3_add 54 = .ok (.iconst 1, 1) := by decide +kernel
theorem dX3_add_55 : decode cX3_add 55 = .ok (.iadd, 1) := by decide +kernel
theorem dX3_add_56 : decode cX3_add 56 = .ok (.putfield 18, 3) := by decide +kernel
theorem dX3_add_59 : decode cX3_add 59 = .ok (.return_, 1) := by decide +kernel
theorem dX3_dropOldest_0 : decode cX3_dropOldest 0 = .ok (.iconst 1, 1) := by decide +kernel
theorem dX3_dropOldest_1 : decode cX3_dropOldest 1 = .ok (.istore_n 1, 1) := by decide +kernel
theorem dX3_dropOldest_2 : decode cX3_dropOldest 2 = .ok (.iload_n 1, 1) := by decide +kernel
theorem dX3_dropOldest_3 : decode cX3_dropOldest 3 = .ok (.bipush 6, 2) := by decide +kernel
theorem dX3_dropOldest_5 : decode cX3_dropOldest 5 = .ok (.if_icmp .ge 37, 3) := by decide +kernel
theorem dX3_dropOldest_8 : decode cX3_dropOldest 8 = .ok (.aload_n 0, 1) := by decide +kernel
theorem dX3_dropOldest_9 : decode cX3_dropOldest 9 = .ok (.getfield 9, 3) := by decide +kernel
theorem dX3_dropOldest_12 : decode cX3_dropOldest 12 = .ok (.iload_n 1, 1) := by decide +kernel
theorem dX3_dropOldest_13 : decode cX3_dropOldest 13 = .ok (.iconst 1, 1) := by decide +kernel
theorem dX3_dropOldest_14 : decode cX3_dropOldest 14 = .ok (.isub, 1) := by decide +kernel
theorem dX3_dropOldest_15 : decode cX3_dropOldest 15 = .ok (.aload_n 0, 1) := by decide +kernel
theorem dX3_dropOldest_16 : decode cX3_dropOldest 16 = .ok (.getfield 9, 3) := by decide +kernel
theorem dX3_dropOldest_19 : decode cX3_dropOldest 19 = .ok (.iload_n 1, 1) := by decide +kernel
theorem dX3_dropOldest_20 : decode cX3_dropOldest 20 = .ok (.iaload, 1) := by decide +kernel
theorem dX3_dropOldest_21 : decode cX3_dropOldest 21 = .ok (.iastore, 1) := by decide +kernel
theorem dX3_dropOldest_22 : decode cX3_dropOldest 22 = .ok (.aload_n 0, 1) := by decide +kernel
theorem dX3_dropOldest_23 : decode cX3_dropOldest 23 = .ok (.getfield 15, 3) := by decide +kernel
theorem dX3_dropOldest_26 : decode cX3_dropOldest 26 = .ok (.iload_n 1, 1) := by decide +kernel
theorem dX3_dropOldest_27 : decode cX3_dropOldest 27 = .ok (.iconst 1, 1) := by decide +kernel
theorem dX3_dropOldest_28 : decode cX3_dropOldest 28 = .ok (.isub, 1) := by decide +kernel
theorem dX3_dropOldest_29 : decode cX3_dropOldest 29 = .ok (.aload_n 0, 1) := by decide +kernel
theorem dX3_dropOldest_30 : decode cX3_dropOldest 30 = .ok (.getfield 15, 3) := by decide +kernel
theorem dX3_dropOldest_33 : decode cX3_dropOldest 33 = .ok (.iload_n 1, 1) := by decide +kernel
theorem dX3_dropOldest_34 : decode cX3_dropOldest 34 = .ok (.iaload, 1) := by decide +kernel
theorem dX3_dropOldest_35 : decode cX3_dropOldest 35 = .ok (.iastore, 1) := by decide +kernel
theorem dX3_dropOldest_36 : decode cX3_dropOldest 36 = .ok (.iinc 1 1, 3) := by decide +kernel
theorem dX3_dropOldest_39 : decode cX3_dropOldest 39 = .ok (.goto (-37), 3) := by decide +kernel
theorem dX3_dropOldest_42 : decode cX3_dropOldest 42 = .ok (.aload_n 0, 1) := by decide +kernel
theorem dX3_dropOldest_43 : decode cX3_dropOldest 43 = .ok (.iconst 5, 1) := by decide +kernel
theorem dX3_dropOldest_44 : decode cX3_dropOldest 44 = .ok (.putfield 18, 3) := by decide +kernel
theorem dX3_dropOldest_47 : decode cX3_dropOldest 47 = .ok (.return_, 1) := by decide +kernel
theorem dX3_keepUpTo_0 : decode cX3_keepUpTo 0 = .ok (.iconst 0, 1) := by decide +kernel
theorem dX3_keepUpTo_1 : decode cX3_keepUpTo 1 = .ok (.istore_n 2, 1) := by decide +kernel
theorem dX3_keepUpTo_2 : decode cX3_keepUpTo 2 = .ok (.iconst 0, 1) := by decide +kernel
theorem dX3_keepUpTo_3 : decode cX3_keepUpTo 3 = .ok (.istore_n 3, 1) := by decide +kernel
theorem dX3_keepUpTo_4 : decode cX3_keepUpTo 4 = .ok (.iload_n 3, 1) := by decide +kernel
theorem dX3_keepUpTo_5 : decode cX3_keepUpTo 5 = .ok (.aload_n 0, 1) := by decide +kernel
theorem dX3_keepUpTo_6 : decode cX3_keepUpTo 6 = .ok (.getfield 18, 3) := by decide +kernel
theorem dX3_keepUpTo_9 : decode cX3_keepUpTo 9 = .ok (.if_icmp .ge 46, 3) := by decide +kernel
theorem dX3_keepUpTo_12 : decode cX3_keepUpTo 12 = .ok (.aload_n 0, 1) := by decide +kernel
theorem dX3_keepUpTo_13 : decode cX3_keepUpTo 13 = .ok (.getfield 9, 3) := by decide +kernel
theorem dX3_keepUpTo_16 : decode cX3_keepUpTo 16 = .ok (.iload_n 3, 1) := by decide +kernel
theorem dX3_keepUpTo_17 : decode cX3_keepUpTo 17 = .ok (.iaload, 1) := by decide +kernel
theorem dX3_keepUpTo_18 : decode cX3_keepUpTo 18 = .ok (.iload_n 1, 1) := by decide +kernel
theorem dX3_keepUpTo_19 : decode cX3_keepUpTo 19 = .ok (.if_icmp .gt 30, 3) := by decide +kernel
theorem dX3_keepUpTo_22 : decode cX3_keepUpTo 22 = .ok (.aload_n 0, 1) := by decide +kernel
theorem dX3_keepUpTo_23 : decode cX3_keepUpTo 23 = .ok (.getfield 9, 3) := by decide +kernel
theorem dX3_keepUpTo_26 : decode cX3_keepUpTo 26 = .ok (.iload_n 2, 1) := by decide +kernel
theorem dX3_keepUpTo_27 : decode cX3_keepUpTo 27 = .ok (.aload_n 0, 1) := by decide +kernel
theorem dX3_keepUpTo_28 : decode cX3_keepUpTo 28 = .ok (.getfield 9, 3) := by decide +kernel
theorem dX3_keepUpTo_31 : decode cX3_keepUpTo 31 = .ok (.iload_n 3, 1) := by decide +kernel
theorem dX3_keepUpTo_32 : decode cX3_keepUpTo 32 = .ok (.iaload, 1) := by decide +kernel
theorem dX3_keepUpTo_33 : decode cX3_keepUpTo 33 = .ok (.iastore, 1) := by decide +kernel
theorem dX3_keepUpTo_34 : decode cX3_keepUpTo 34 = .ok (.aload_n 0, 1) := by decide +kernel
theorem dX3_keepUpTo_35 : decode cX3_keepUpTo 35 = .ok (.getfield 15, 3) := by decide +kernel
theorem dX3_keepUpTo_38 : decode cX3_keepUpTo 38 = .ok (.iload_n 2, 1) := by decide +kernel
theorem dX3_keepUpTo_39 : decode cX3_keepUpTo 39 = .ok (.aload_n 0, 1) := by decide +kernel
theorem dX3_keepUpTo_40 : decode cX3_keepUpTo 40 = .ok (.getfield 15, 3) := by decide +kernel
theorem dX3_keepUpTo_43 : decode cX3_keepUpTo 43 = .ok (.iload_n 3, 1) := by decide +kernel
theorem dX3_keepUpTo_44 : decode cX3_keepUpTo 44 = .ok (.iaload, 1) := by decide +kernel
theorem dX3_keepUpTo_45 : decode cX3_keepUpTo 45 = .ok (.iastore, 1) := by decide +kernel
theorem dX3_keepUpTo_46 : decode cX3_keepUpTo 46 = .ok (.iinc 2 1, 3) := by decide +kernel
theorem dX3_keepUpTo_49 : decode cX3_keepUpTo 49 = .ok (.iinc 3 1, 3) := by decide +kernel
theorem dX3_keepUpTo_52 : decode cX3_keepUpTo 52 = .ok (.goto (-48), 3) := by decide +kernel
theorem dX3_keepUpTo_55 : decode cX3_keepUpTo 55 = .ok (.aload_n 0, 1) := by decide +kernel
theorem dX3_keepUpTo_56 : decode cX3_keepUpTo 56 = .ok (.iload_n 2, 1) := by decide +kernel
theorem dX3_keepUpTo_57 : decode cX3_keepUpTo 57 = .ok (.putfield 18, 3) := by decide +kernel
theorem dX3_keepUpTo_60 : decode cX3_keepUpTo 60 = .ok (.return_, 1) := by decide +kernel
theorem dX3_greatestLimit_0 : decode cX3_greatestLimit 0 = .ok (.iconst 0, 1) := by decide +kernel
theorem dX3_greatestLimit_1 : decode cX3_greatestLimit 1 = .ok (.istore_n 1, 1) := by decide +kernel
theorem dX3_greatestLimit_2 : decode cX3_greatestLimit 2 = .ok (.iconst 0, 1) := by decide +kernel
theorem dX3_greatestLimit_3 : decode cX3_greatestLimit 3 = .ok (.istore_n 2, 1) := by decide +kernel
theorem dX3_greatestLimit_4 : decode cX3_greatestLimit 4 = .ok (.iload_n 2, 1) := by decide +kernel
theorem dX3_greatestLimit_5 : decode cX3_greatestLimit 5 = .ok (.aload_n 0, 1) := by decide +kernel
theorem dX3_greatestLimit_6 : decode cX3_greatestLimit 6 = .ok (.getfield 18, 3) := by decide +kernel
theorem dX3_greatestLimit_9 : decode cX3_greatestLimit 9 = .ok (.if_icmp .ge 20, 3) := by decide +kernel
theorem dX3_greatestLimit_12 : decode cX3_greatestLimit 12 = .ok (.iload_n 1, 1) := by decide +kernel
theorem dX3_greatestLimit_13 : decode cX3_greatestLimit 13 = .ok (.aload_n 0, 1) := by decide +kernel
theorem dX3_greatestLimit_14 : decode cX3_greatestLimit 14 = .ok (.getfield 9, 3) := by decide +kernel
theorem dX3_greatestLimit_17 : decode cX3_greatestLimit 17 = .ok (.iload_n 2, 1) := by decide +kernel
theorem dX3_greatestLimit_18 : decode cX3_greatestLimit 18 = .ok (.iaload, 1) := by decide +kernel
theorem dX3_greatestLimit_19 : decode cX3_greatestLimit 19 = .ok (.invokestatic 25, 3) := by decide +kernel
theorem dX3_greatestLimit_22 : decode cX3_greatestLimit 22 = .ok (.istore_n 1, 1) := by decide +kernel
theorem dX3_greatestLimit_23 : decode cX3_greatestLimit 23 = .ok (.iinc 2 1, 3) := by decide +kernel
theorem dX3_greatestLimit_26 : decode cX3_greatestLimit 26 = .ok (.goto (-22), 3) := by decide +kernel
theorem dX3_greatestLimit_29 : decode cX3_greatestLimit 29 = .ok (.iload_n 1, 1) := by decide +kernel
theorem dX3_greatestLimit_30 : decode cX3_greatestLimit 30 = .ok (.ireturn, 1) := by decide +kernel
theorem dX3_allow_0 : decode cX3_allow 0 = .ok (.iconst 0, 1) := by decide +kernel
theorem dX3_allow_1 : decode cX3_allow 1 = .ok (.istore_n 3, 1) := by decide +kernel
theorem dX3_allow_2 : decode cX3_allow 2 = .ok (.iload_n 3, 1) := by decide +kernel
theorem dX3_allow_3 : decode cX3_allow 3 = .ok (.aload_n 0, 1) := by decide +kernel
theorem dX3_allow_4 : decode cX3_allow 4 = .ok (.getfield 18, 3) := by decide +kernel
theorem dX3_allow_7 : decode cX3_allow 7 = .ok (.if_icmp .ge 31, 3) := by decide +kernel
theorem dX3_allow_10 : decode cX3_allow 10 = .ok (.aload_n 0, 1) := by decide +kernel
theorem dX3_allow_11 : decode cX3_allow 11 = .ok (.getfield 9, 3) := by decide +kernel
theorem dX3_allow_14 : decode cX3_allow 14 = .ok (.iload_n 3, 1) := by decide +kernel
theorem dX3_allow_15 : decode cX3_allow 15 = .ok (.iaload, 1) := by decide +kernel
theorem dX3_allow_16 : decode cX3_allow 16 = .ok (.iload_n 1, 1) := by decide +kernel
theorem dX3_allow_17 : decode cX3_allow 17 = .ok (.if_icmp .ne 15, 3) := by decide +kernel
theorem dX3_allow_20 : decode cX3_allow 20 = .ok (.aload_n 0, 1) := by decide +kernel
theorem dX3_allow_21 : decode cX3_allow 21 = .ok (.getfield 15, 3) := by decide +kernel
theorem dX3_allow_24 : decode cX3_allow 24 = .ok (.iload_n 3, 1) := by decide +kernel
theorem dX3_allow_25 : decode cX3_allow 25 = .ok (.iaload, 1) := by decide +kernel
theorem dX3_allow_26 : decode cX3_allow 26 = .ok (.iload_n 2, 1) := by decide +kernel
theorem dX3_allow_27 : decode cX3_allow 27 = .ok (.if_icmp .eq 5, 3) := by decide +kernel
theorem dX3_allow_30 : decode cX3_allow 30 = .ok (.iconst 0, 1) := by decide +kernel
theorem dX3_allow_31 : decode cX3_allow 31 = .ok (.ireturn, 1) := by decide +kernel
theorem dX3_allow_32 : decode cX3_allow 32 = .ok (.iinc 3 1, 3) := by decide +kernel
theorem dX3_allow_35 : decode cX3_allow 35 = .ok (.goto (-33), 3) := by decide +kernel
theorem dX3_allow_38 : decode cX3_allow 38 = .ok (.iconst 1, 1) := by decide +kernel
theorem dX3_allow_39 : decode cX3_allow 39 = .ok (.ireturn, 1) := by decide +kernel
theorem dX4_init_0 : decode cX4_init 0 = .ok (.aload_n 0, 1) := by decide +kernel
theorem dX4_init_1 : decode cX4_init 1 = .ok (.invokespecial 3, 3) := by decide +kernel
theorem dX4_init_4 : decode cX4_init 4 = .ok (.aload_n 0, 1) := by decide +kernel
theorem dX4_init_5 : decode cX4_init 5 = .ok (.sipush 200, 3) := by decide +kernel
theorem dX4_init_8 : decode cX4_init 8 = .ok (.newarray .int, 2) := by decide +kernel
theorem dX4_init_10 : decode cX4_init 10 = .ok (.putfield 9, 3) := by decide +kernel
theorem dX4_init_13 : decode cX4_init 13 = .ok (.aload_n 0, 1) := by decide +kernel
theorem dX4_init_14 : decode cX4_init 14 = .ok (.sipush 200, 3) := by decide +kernel
theorem dX4_init_17 : decode cX4_init 17 = .ok (.newarray .int, 2) := by decide +kernel
theorem dX4_init_19 : decode cX4_init 19 = .ok (.putfield 15, 3) := by decide +kernel
theorem dX4_init_22 : decode cX4_init 22 = .ok (.aload_n 0, 1) := by decide +kernel
theorem dX4_init_23 : decode cX4_init 23 = .ok (.iconst 0, 1) := by decide +kernel
theorem dX4_init_24 : decode cX4_init 24 = .ok (.putfield 18, 3) := by decide +kernel
theorem dX4_init_27 : decode cX4_init 27 = .ok (.return_, 1) := by decide +kernel
theorem dX4_measure_0 : decode cX4_measure 0 = .ok (.aload_n 0, 1) := by decide +kernel
theorem dX4_measure_1 : decode cX4_measure 1 = .ok (.aload_n 1, 1) := by decide +kernel
theorem dX4_measure_2 : decode cX4_measure 2 = .ok (.invokevirtual 22, 3) := by decide +kernel
theorem dX4_measure_5 : decode cX4_measure 5 = .ok (.sipush 200, 3) := by decide +kernel
theorem dX4_measure_8 : decode cX4_measure 8 = .ok (.invokestatic 27, 3) := by decide +kernel
theorem dX4_measure_11 : decode cX4_measure 11 = .ok (.putfield 18, 3) := by decide +kernel
theorem dX4_measure_14 : decode cX4_measure 14 = .ok (.aload_n 0, 1) := by decide +kernel
theorem dX4_measure_15 : decode cX4_measure 15 = .ok (.aload_n 1, 1) := by decide +kernel
theorem dX4_measure_16 : decode cX4_measure 16 = .ok (.invokevirtual 33, 3) := by decide +kernel
theorem dX4_measure_19 : decode cX4_measure 19 = .ok (.aload_n 0, 1) := by decide +kernel
theorem dX4_measure_20 : decode cX4_measure 20 = .ok (.aload_n 1, 1) := by decide +kernel
theorem dX4_measure_21 : decode cX4_measure 21 = .ok (.invokevirtual 37, 3) := by decide +kernel
theorem dX4_measure_24 : decode cX4_measure 24 = .ok (.return_, 1) := by decide +kernel
theorem dX4_endAt_0 : decode cX4_endAt 0 = .ok (.iload_n 1, 1) := by decide +kernel
theorem dX4_endAt_1 : decode cX4_endAt 1 = .ok (.ifCond .lt 20, 3) := by decide +kernel
theorem dX4_endAt_4 : decode cX4_endAt 4 = .ok (.iload_n 1, 1) := by decide +kernel
theorem dX4_endAt_5 : decode cX4_endAt 5 = .ok (.aload_n 0, 1) := by decide +kernel
theorem dX4_endAt_6 : decode cX4_endAt 6 = .ok (.getfield 18, 3) := by decide +kernel
theorem dX4_endAt_9 : decode cX4_endAt 9 = .ok (.if_icmp .ge 12, 3) := by decide +kernel
theorem dX4_endAt_12 : decode cX4_endAt 12 = .ok (.aload_n 0, 1) := by decide +kernel
theorem dX4_endAt_13 : decode cX4_endAt 13 = .ok (.getfield 9, 3) := by decide +kernel
theorem dX4_endAt_16 : decode cX4_endAt 16 = .ok (.iload_n 1, 1) := by decide +kernel
theorem dX4_endAt_17 : decode cX4_endAt 17 = .ok (.iaload, 1) := by decide +kernel
theorem dX4_endAt_18 : decode cX4_endAt 18 = .ok (.goto 7, 3) := by decide +kernel
theorem dX4_endAt_21 : decode cX4_endAt 21 = .ok (.aload_n 0, 1) := by decide +kernel
theorem dX4_endAt_22 : decode cX4_endAt 22 = .ok (.getfield 18, 3) := by decide +kernel
theorem dX4_endAt_25 : decode cX4_endAt 25 = .ok (.ireturn, 1) := by decide +kernel
theorem dX4_depthAt_0 : decode cX4_depthAt 0 = .ok (.iload_n 1, 1) := by decide +kernel
theorem dX4_depthAt_1 : decode cX4_depthAt 1 = .ok (.ifCond .lt 20, 3) := by decide +kernel
theorem dX4_depthAt_4 : decode cX4_depthAt 4 = .ok (.iload_n 1, 1) := by decide +kernel
theorem dX4_depthAt_5 : decode cX4_depthAt 5 = .ok (.aload_n 0, 1) := by decide +kernel
theorem dX4_depthAt_6 : decode cX4_depthAt 6 = .ok (.getfield 18, 3) := by decide +kernel
theorem dX4_depthAt_9 : decode cX4_depthAt 9 = .ok (.if_icmp .ge 12, 3) := by decide +kernel
theorem dX4_depthAt_12 : decode cX4_depthAt 12 = .ok (.aload_n 0, 1) := by decide +kernel
theorem dX4_depthAt_13 : decode cX4_depthAt 13 = .ok (.getfield 15, 3) := by decide +kernel
theorem dX4_depthAt_16 : decode cX4_depthAt 16 = .ok (.iload_n 1, 1) := by decide +kernel
theorem dX4_depthAt_17 : decode cX4_depthAt 17 = .ok (.iaload, 1) := by decide +kernel
theorem dX4_depthAt_18 : decode cX4_depthAt 18 = .ok (.goto 4, 3) := by decide +kernel
theorem dX4_depthAt_21 : decode cX4_depthAt 21 = .ok (.iconst 0, 1) := by decide +kernel
theorem dX4_depthAt_22 : decode cX4_depthAt 22 = .ok (.ireturn, 1) := by decide +kernel
theorem dX4_measureEnds_0 : decode cX4_measureEnds 0 = .ok (.aload_n 0, 1) := by decide +kernel
theorem dX4_measureEnds_1 : decode cX4_measureEnds 1 = .ok (.getfield 18, 3) := by decide +kernel
theorem dX4_measureEnds_4 : decode cX4_measureEnds 4 = .ok (.iconst 1, 1) := by decide +kernel
theorem dX4_measureEnds_5 : decode cX4_measureEnds 5 = .ok (.isub, 1) := by decide +kernel
theorem dX4_measureEnds_6 : decode cX4_measureEnds 6 = .ok (.istore_n 2, 1) := by decide +kernel
theorem dX4_measureEnds_7 : decode cX4_measureEnds 7 = .ok (.iload_n 2, 1) := by decide +kernel
theorem dX4_measureEnds_8 : decode cX4_measureEnds 8 = .ok (.ifCond .lt 74, 3) := by decide +kernel
theorem dX4_measureEnds_11 : decode cX4_measureEnds 11 = .ok (.aload_n 1, 1) := by decide +kernel
theorem dX4_measureEnds_12 : decode cX4_measureEnds 12 = .ok (.iload_n 2, 1) := by decide +kernel
theorem dX4_measureEnds_13 : decode cX4_measureEnds 13 = .ok (.invokevirtual 40, 3) := by decide +kernel
theorem dX4_measureEnds_16 : decode cX4_measureEnds 16 = .ok (.istore_n 3, 1) := by decide +kernel
theorem dX4_measureEnds_17 : decode cX4_measureEnds 17 = .ok (.iload_n 3, 1) := by decide +kernel
theorem dX4_measureEnds_18 : decode cX4_measureEnds 18 = .ok (.sipush 1001, 3) := by decide +kernel
theorem dX4_measureEnds_21 : decode cX4_measureEnds 21 = .ok (.if_icmp .ne 19, 3) := by decide +kernel
theorem dX4_measureEnds_24 : decode cX4_measureEnds 24 = .ok (.aload_n 0, 1) := by decide +kernel
theorem dX4_measureEnds_25 : decode cX4_measureEnds 25 = .ok (.getfield 9, 3) := by decide +kernel
theorem dX4_measureEnds_28 : decode cX4_measureEnds 28 = .ok (.iload_n 2, 1) := by decide +kernel
theorem dX4_measureEnds_29 : decode cX4_measureEnds 29 = .ok (.aload_n 0, 1) := by decide +kernel
theorem dX4_measureEnds_30 : decode cX4_measureEnds 30 = .ok (.iload_n 2, 1) := by decide +kernel
theorem dX4_measureEnds_31 : decode cX4_measureEnds 31 = .ok (.iconst 1, 1) := by decide +kernel
theorem dX4_measureEnds_32 : decode cX4_measureEnds 32 = .ok (.iadd, 1) := by decide +kernel
theorem dX4_measureEnds_33 : decode cX4_measureEnds 33 = .ok (.invokevirtual 44, 3) := by decide +kernel
theorem dX4_measureEnds_36 : decode cX4_measureEnds 36 = .ok (.iastore, 1) := by decide +kernel
theorem dX4_measureEnds_37 : decode cX4_measureEnds 37 = .ok (.goto 39, 3) := by decide +kernel
theorem dX4_measureEnds_40 : decode cX4_measureEnds 40 = .ok (.iload_n 3, 1) := by decide +kernel
theorem dX4_measureEnds_41 : decode cX4_measureEnds 41 = .ok (.sipush 1000, 3) := by decide +kernel
theorem dX4_measureEnds_44 : decode cX4_measureEnds 44 = .ok (.if_icmp .ne 23, 3) := by decide +kernel
theorem dX4_measureEnds_47 : decode cX4_measureEnds 47 = .ok (.aload_n 0, 1) := by decide +kernel
theorem dX4_measureEnds_48 : decode cX4_measureEnds 48 = .ok (.getfield 9, 3) := by decide +kernel
theorem dX4_measureEnds_51 : decode cX4_measureEnds 51 = .ok (.iload_n 2, 1) := by decide +kernel
theorem dX4_measureEnds_52 : decode cX4_measureEnds 52 = .ok (.aload_n 0, 1) := by decide +kernel
theorem dX4_measureEnds_53 : decode cX4_measureEnds 53 = .ok (.aload_n 0, 1) := by decide +kernel
theorem dX4_measureEnds_54 : decode cX4_measureEnds 54 = .ok (.iload_n 2, 1) := by decide +kernel
theorem dX4_measureEnds_55 : decode cX4_measureEnds 55 = .ok (.iconst 1, 1) := by decide +kernel
theorem dX4_measureEnds_56 : decode cX4_measureEnds 56 = .ok (.iadd, 1) := by decide +kernel
theorem dX4_measureEnds_57 : decode cX4_measureEnds 57 = .ok (.invokevirtual 44, 3) := by decide +kernel
theorem dX4_measureEnds_60 : decode cX4_measureEnds 60 = .ok (.invokevirtual 44, 3) := by decide +kernel
theorem dX4_measureEnds_63 : decode cX4_measureEnds 63 = .ok (.iastore, 1) := by decide +kernel
theorem dX4_measureEnds_64 : decode cX4_measureEnds 64 = .ok (.goto 12, 3) := by decide +kernel
theorem dX4_measureEnds_67 : decode cX4_measureEnds 67 = .ok (.aload_n 0, 1) := by decide +kernel
theorem dX4_measureEnds_68 : decode cX4_measureEnds 68 = .ok (.getfield 9, 3) := by decide +kernel
theorem dX4_measureEnds_71 : decode cX4_measureEnds 71 = .ok (.iload_n 2, 1) := by decide +kernel
theorem dX4_measureEnds_72 : decode cX4_measureEnds 72 = .ok (.iload_n 2, 1) := by decide +kernel
theorem dX4_measureEnds_73 : decode cX4_measureEnds 73 = .ok (.iconst 1, 1) := by decide +kernel
theorem dX4_measureEnds_74 : decode cX4_measureEnds 74 = .ok (.iadd, 1) := by decide +kernel
theorem dX4_measureEnds_75 : decode cX4_measureEnds 75 = .ok (.iastore, 1) := by decide +kernel
theorem dX4_measureEnds_76 : decode cX4_measureEnds 76 = .ok (.iinc 2 (-1), 3) := by decide +kernel
theorem dX4_measureEnds_79 : decode cX4_measureEnds 79 = .ok (.goto (-72), 3) := by decide +kernel
theorem dX4_measureEnds_82 : decode cX4_measureEnds 82 = .ok (.return_, 1) := by decide +kernel
theorem dX4_measureDepths_0 : decode cX4_measureDepths 0 = .ok (.aload_n 0, 1) := by decide +kernel
theorem dX4_measureDepths_1 : decode cX4_measureDepths 1 = .ok (.iconst 0, 1) := by decide +kernel
theorem dX4_measureDepths_2 : decode cX4_measureDepths 2 = .ok (.iconst 0, 1) := by decide +kernel
theorem dX4_measureDepths_3 : decode cX4_measureDepths 3 = .ok (.invokevirtual 47, 3) := by decide +kernel
theorem dX4_measureDepths_6 : decode cX4_measureDepths 6 = .ok (.iconst 0, 1) := by decide +kernel
theorem dX4_measureDepths_7 : decode cX4_measureDepths 7 = .ok (.istore_n 2, 1) := by decide +kernel
theorem dX4_measureDepths_8 : decode cX4_measureDepths 8 = .ok (.iload_n 2, 1) := by decide +kernel
theorem dX4_measureDepths_9 : decode cX4_measureDepths 9 = .ok (.aload_n 0, 1) := by decide +kernel
theorem dX4_measureDepths_10 : decode cX4_measureDepths 10 = .ok (.getfield 18, 3) := by decide +kernel
theorem dX4_measureDepths_13 : decode cX4_measureDepths 13 = .ok (.if_icmp .ge 77, 3) := by decide +kernel
theorem dX4_measureDepths_16 : decode cX4_measureDepths 16 = .ok (.aload_n 1, 1) := by decide +kernel
theorem dX4_measureDepths_17 : decode cX4_measureDepths 17 = .ok (.iload_n 2, 1) := by decide +kernel
theorem dX4_measureDepths_18 : decode cX4_measureDepths 18 = .ok (.invokevirtual 40, 3) := by decide +kernel
theorem dX4_measureDepths_21 : decode cX4_measureDepths 21 = .ok (.istore_n 3, 1) := by decide +kernel
theorem dX4_measureDepths_22 : decode cX4_measureDepths 22 = .ok (.iload_n 3, 1) := by decide +kernel
theorem dX4_measureDepths_23 : decode cX4_measureDepths 23 = .ok (.sipush 1001, 3) := by decide +kernel
theorem dX4_measureDepths_26 : decode cX4_measureDepths 26 = .ok (.if_icmp .ne 21, 3) := by decide +kernel
theorem dX4_measureDepths_29 : decode cX4_measureDepths 29 = .ok (.aload_n 0, 1) := by decide +kernel
theorem dX4_measureDepths_30 : decode cX4_measureDepths 30 = .ok (.iload_n 2, 1) := by decide +kernel
theorem dX4_measureDepths_31 : decode cX4_measureDepths 31 = .ok (.iconst 1, 1) := by decide +kernel
theorem dX4_measureDepths_32 : decode cX4_measureDepths 32 = .ok (.iadd, 1) := by decide +kernel
theorem dX4_measureDepths_33 : decode cX4_measureDepths 33 = .ok (.aload_n 0, 1) := by decide +kernel
theorem dX4_measureDepths_34 : decode cX4_measureDepths 34 = .ok (.getfield 15, 3) := by decide +kernel
theorem dX4_measureDepths_37 : decode cX4_measureDepths 37 = .ok (.iload_n 2, 1) := by decide +kernel
theorem dX4_measureDepths_38 : decode cX4_measureDepths 38 = .ok (.iaload, 1) := by decide +kernel
theorem dX4_measureDepths_39 : decode cX4_measureDepths 39 = .ok (.iconst 1, 1) := by decide +kernel
theorem dX4_measureDepths_40 : decode cX4_measureDepths 40 = .ok (.iadd, 1) := by decide +kernel
theorem dX4_measureDepths_41 : decode cX4_measureDepths 41 = .ok (.invokevirtual 47, 3) := by decide +kernel
theorem dX4_measureDepths_44 : decode cX4_measureDepths 44 = .ok (.goto 40, 3) := by decide +kernel
theorem dX4_measureDepths_47 : decode cX4_measureDepths 47 = .ok (.iload_n 3, 1) := by decide +kernel
theorem dX4_measureDepths_48 : decode cX4_measureDepths 48 = .ok (.sipush 1000, 3) := by decide +kernel
theorem dX4_measureDepths_51 : decode cX4_measureDepths 51 = .ok (.if_icmp .ne 33, 3) := by decide +kernel
theorem dX4_measureDepths_54 : decode cX4_measureDepths 54 = .ok (.aload_n 0, 1) := by decide +kernel
theorem dX4_measureDepths_55 : decode cX4_measureDepths 55 = .ok (.iload_n 2, 1) := by decide +kernel
theorem dX4_measureDepths_56 : decode cX4_measureDepths 56 = .ok (.iconst 1, 1) := by decide +kernel
theorem dX4_measureDepths_57 : decode cX4_measureDepths 57 = .ok (.iadd, 1) := by decide +kernel
theorem dX4_measureDepths_58 : decode cX4_measureDepths 58 = .ok (.aload_n 0, 1) := by decide +kernel
theorem dX4_measureDepths_59 : decode cX4_measureDepths 59 = .ok (.getfield 15, 3) := by decide +kernel
theorem dX4_measureDepths_62 : decode cX4_measureDepths 62 = .ok (.iload_n 2, 1) := by decide +kernel
theorem dX4_measureDepths_63 : decode cX4_measureDepths 63 = .ok (.iaload, 1) := by decide +kernel
theorem dX4_measureDepths_64 : decode cX4_measureDepths 64 = .ok (.invokevirtual 47, 3) := by decide +kernel
theorem dX4_measureDepths_67 : decode cX4_measureDepths 67 = .ok (.aload_n 0, 1) := by decide +kernel
theorem dX4_measureDepths_68 : decode cX4_measureDepths 68 = .ok (.aload_n 0, 1) := by decide +kernel
theorem dX4_measureDepths_69 : decode cX4_measureDepths 69 = .ok (.iload_n 2, 1) := by decide +kernel
theorem dX4_measureDepths_70 : decode cX4_measureDepths 70 = .ok (.iconst 1, 1) := by decide +kernel
theorem dX4_measureDepths_71 : decode cX4_measureDepths 71 = .ok (.iadd, 1) := by decide +kernel
theorem dX4_measureDepths_72 : decode cX4_measureDepths 72 = .ok (.invokevirtual 44, 3) := by decide +kernel
theorem dX4_measureDepths_75 : decode cX4_measureDepths 75 = .ok (.aload_n 0, 1) := by decide +kernel
theorem dX4_measureDepths_76 : decode cX4_measureDepths 76 = .ok (.getfield 15, 3) := by decide +kernel
theorem dX4_measureDepths_79 : decode cX4_measureDepths 79 = .ok (.iload_n 2, 1) := by decide +kernel
theorem dX4_measureDepths_80 : decode cX4_measureDepths 80 = .ok (.iaload, 1) := by decide +kernel
theorem dX4_measureDepths_81 : decode cX4_measureDepths 81 = .ok (.invokevirtual 47, 3) := by decide +kernel
theorem dX4_measureDepths_84 : decode cX4_measureDepths 84 = .ok (.iinc 2 1, 3) := by decide +kernel
theorem dX4_measureDepths_87 : decode cX4_measureDepths 87 = .ok (.goto (-79), 3) := by decide +kernel
theorem dX4_measureDepths_90 : decode cX4_measureDepths 90 = .ok (.return_, 1) := by decide +kernel
theorem dX4_setDepth_0 : decode cX4_setDepth 0 = .ok (.iload_n 1, 1) := by decide +kernel
theorem dX4_setDepth_1 : decode cX4_setDepth 1 = .ok (.ifCond .lt 18, 3) := by decide +kernel
theorem dX4_setDepth_4 : decode cX4_setDepth 4 = .ok (.iload_n 1, 1) := by decide +kernel
theorem dX4_setDepth_5 : decode cX4_setDepth 5 = .ok (.aload_n 0, 1) := by decide +kernel
theorem dX4_setDepth_6 : decode cX4_setDepth 6 = .ok (.getfield 18, 3) := by decide +kernel
theorem dX4_setDepth_9 : decode cX4_setDepth 9 = .ok (.if_icmp .ge 10, 3) := by decide +kernel
theorem dX4_setDepth_12 : decode cX4_setDepth 12 = .ok (.aload_n 0, 1) := by decide +kernel
theorem dX4_setDepth_13 : decode cX4_setDepth 13 = .ok (.getfield 15, 3) := by decide +kernel
theorem dX4_setDepth_16 : decode cX4_setDepth 16 = .ok (.iload_n 1, 1) := by decide +kernel
theorem dX4_setDepth_17 : decode cX4_setDepth 17 = .ok (.iload_n 2, 1) := by decide +kernel
theorem dX4_setDepth_18 : decode cX4_setDepth 18 = .ok (.iastore, 1) := by decide +kernel
theorem dX4_setDepth_19 : decode cX4_setDepth 19 = .ok (.return_, 1) := by decide +kernel
theorem dX5_init_0 : decode cX5_init 0 = .ok (.aload_n 0, 1) := by decide +kernel
theorem dX5_init_1 : decode cX5_init 1 = .ok (.invokespecial 3, 3) := by decide +kernel
theorem dX5_init_4 : decode cX5_init 4 = .ok (.aload_n 0, 1) := by decide +kernel
theorem dX5_init_5 : decode cX5_init 5 = .ok (.new 9, 3) := by decide +kernel
theorem dX5_init_8 : decode cX5_init 8 = .ok (.dup, 1) := by decide +kernel
theorem dX5_init_9 : decode cX5_init 9 = .ok (.invokespecial 11, 3) := by decide +kernel
theorem dX5_init_12 : decode cX5_init 12 = .ok (.putfield 12, 3) := by decide +kernel
theorem dX5_init_15 : decode cX5_init 15 = .ok (.aload_n 0, 1) := by decide +kernel
theorem dX5_init_16 : decode cX5_init 16 = .ok (.new 9, 3) := by decide +kernel
theorem dX5_init_19 : decode cX5_init 19 = .ok (.dup, 1) := by decide +kernel
theorem dX5_init_20 : decode cX5_init 20 = .ok (.invokespecial 11, 3) := by decide +kernel
theorem dX5_init_23 : decode cX5_init 23 = .ok (.putfield 18, 3) := by decide +kernel
theorem dX5_init_26 : decode cX5_init 26 = .ok (.aload_n 0, 1) := by decide +kernel
theorem dX5_init_27 : decode cX5_init 27 = .ok (.new 21, 3) := by decide +kernel
theorem dX5_init_30 : decode cX5_init 30 = .ok (.dup, 1) := by decide +kernel
theorem dX5_init_31 : decode cX5_init 31 = .ok (.invokespecial 23, 3) := by decide +kernel
theorem dX5_init_34 : decode cX5_init 34 = .ok (.putfield 24, 3) := by decide +kernel
theorem dX5_init_37 : decode cX5_init 37 = .ok (.return_, 1) := by decide +kernel
theorem dX5_isRedex_0 : decode cX5_isRedex 0 = .ok (.aload_n 0, 1) := by decide +kernel
theorem dX5_isRedex_1 : decode cX5_isRedex 1 = .ok (.iload_n 1, 1) := by decide +kernel
theorem dX5_isRedex_2 : decode cX5_isRedex 2 = .ok (.invokevirtual 28, 3) := by decide +kernel
theorem dX5_isRedex_5 : decode cX5_isRedex 5 = .ok (.sipush 1000, 3) := by decide +kernel
theorem dX5_isRedex_8 : decode cX5_isRedex 8 = .ok (.if_icmp .ne 20, 3) := by decide +kernel
theorem dX5_isRedex_11 : decode cX5_isRedex 11 = .ok (.aload_n 0, 1) := by decide +kernel
theorem dX5_isRedex_12 : decode cX5_isRedex 12 = .ok (.iload_n 1, 1) := by decide +kernel
theorem dX5_isRedex_13 : decode cX5_isRedex 13 = .ok (.iconst 1, 1) := by decide +kernel
theorem dX5_isRedex_14 : decode cX5_isRedex 14 = .ok (.iadd, 1) := by decide +kernel
theorem dX5_isRedex_15 : decode cX5_isRedex 15 = .ok (.invokevirtual 28, 3) := by decide +kernel
theorem dX5_isRedex_18 : decode cX5_isRedex 18 = .ok (.sipush 1001, 3) := by decide +kernel
theorem dX5_isRedex_21 : decode cX5_isRedex 21 = .ok (.if_icmp .ne 7, 3) := by decide +kernel
theorem dX5_isRedex_24 : decode cX5_isRedex 24 = .ok (.iconst 1, 1) := by decide +kernel
theorem dX5_isRedex_25 : decode cX5_isRedex 25 = .ok (.goto 4, 3) := by decide +kernel
theorem dX5_isRedex_28 : decode cX5_isRedex 28 = .ok (.iconst 0, 1) := by decide +kernel
theorem dX5_isRedex_29 : decode cX5_isRedex 29 = .ok (.ireturn, 1) := by decide +kernel
theorem dX5_countRedexes_0 : decode cX5_countRedexes 0 = .ok (.iconst 0, 1) := by decide +kernel
theorem dX5_countRedexes_1 : decode cX5_countRedexes 1 = .ok (.istore_n 1, 1) := by decide +kernel
theorem dX5_countRedexes_2 : decode cX5_countRedexes 2 = .ok (.iconst 0, 1) := by decide +kernel
theorem dX5_countRedexes_3 : decode cX5_countRedexes 3 = .ok (.istore_n 2, 1) := by decide +kernel
theorem dX5_countRedexes_4 : decode cX5_countRedexes 4 = .ok (.iload_n 2, 1) := by decide +kernel
theorem dX5_countRedexes_5 : decode cX5_countRedexes 5 = .ok (.aload_n 0, 1) := by decide +kernel
theorem dX5_countRedexes_6 : decode cX5_countRedexes 6 = .ok (.invokevirtual 32, 3) := by decide +kernel
theorem dX5_countRedexes_9 : decode cX5_countRedexes 9 = .ok (.if_icmp .ge 20, 3) := by decide +kernel
theorem dX5_countRedexes_12 : decode cX5_countRedexes 12 = .ok (.aload_n 0, 1) := by decide +kernel
theorem dX5_countRedexes_13 : decode cX5_countRedexes 13 = .ok (.iload_n 2, 1) := by decide +kernel
theorem dX5_countRedexes_14 : decode cX5_countRedexes 14 = .ok (.invokestatic 36, 3) := by decide +kernel
theorem dX5_countRedexes_17 : decode cX5_countRedexes 17 = .ok (.ifCond .eq 6, 3) := by decide +kernel
theorem dX5_countRedexes_20 : decode cX5_countRedexes 20 = .ok (.iinc 1 1, 3) := by decide +kernel
theorem dX5_countRedexes_23 : decode cX5_countRedexes 23 = .ok (.iinc 2 1, 3) := by decide +kernel
theorem dX5_countRedexes_26 : decode cX5_countRedexes 26 = .ok (.goto (-22), 3) := by decide +kernel
theorem dX5_countRedexes_29 : decode cX5_countRedexes 29 = .ok (.iload_n 1, 1) := by decide +kernel
theorem dX5_countRedexes_30 : decode cX5_countRedexes 30 = .ok (.ireturn, 1) := by decide +kernel
theorem dX5_nextRedex_0 : decode cX5_nextRedex 0 = .ok (.iload_n 1, 1) := by decide +kernel
theorem dX5_nextRedex_1 : decode cX5_nextRedex 1 = .ok (.istore_n 2, 1) := by decide +kernel
theorem dX5_nextRedex_2 : decode cX5_nextRedex 2 = .ok (.iload_n 2, 1) := by decide +kernel
theorem dX5_nextRedex_3 : decode cX5_nextRedex 3 = .ok (.aload_n 0, 1) := by decide +kernel
theorem dX5_nextRedex_4 : decode cX5_nextRedex 4 = .ok (.invokevirtual 32, 3) := by decide +kernel
theorem dX5_nextRedex_7 : decode cX5_nextRedex 7 = .ok (.if_icmp .ge 19, 3) := by decide +kernel
theorem dX5_nextRedex_10 : decode cX5_nextRedex 10 = .ok (.aload_n 0, 1) := by decide +kernel
theorem dX5_nextRedex_11 : decode cX5_nextRedex 11 = .ok (.iload_n 2, 1) := by decide +kernel
theorem dX5_nextRedex_12 : decode cX5_nextRedex 12 = .ok (.invokestatic 36, 3) := by decide +kernel
theorem dX5_nextRedex_15 : decode cX5_nextRedex 15 = .ok (.ifCond .eq 5, 3) := by decide +kernel
theorem dX5_nextRedex_18 : decode cX5_nextRedex 18 = .ok (.iload_n 2, 1) := by decide +kernel
theorem dX5_nextRedex_19 : decode cX5_nextRedex 19 = .ok (.ireturn, 1) := by decide +kernel
theorem dX5_nextRedex_20 : decode cX5_nextRedex 20 = .ok (.iinc 2 1, 3) := by decide +kernel
theorem dX5_nextRedex_23 : decode cX5_nextRedex 23 = .ok (.goto (-21), 3) := by decide +kernel
theorem dX5_nextRedex_26 : decode cX5_nextRedex 26 = .ok (.bipush (-9), 2) := by decide +kernel
theorem dX5_nextRedex_28 : decode cX5_nextRedex 28 = .ok (.ireturn, 1) := by decide +kernel
theorem dX5_numberedRedex_0 : decode cX5_numberedRedex 0 = .ok (.iconst 0, 1) := by decide +kernel
theorem dX5_numberedRedex_1 : decode cX5_numberedRedex 1 = .ok (.istore_n 2, 1) := by decide +kernel
theorem dX5_numberedRedex_2 : decode cX5_numberedRedex 2 = .ok (.iconst 0, 1) := by decide +kernel
theorem dX5_numberedRedex_3 : decode cX5_numberedRedex 3 = .ok (.istore_n 3, 1) := by decide +kernel
theorem dX5_numberedRedex_4 : decode cX5_numberedRedex 4 = .ok (.iload_n 3, 1) := by decide +kernel
theorem dX5_numberedRedex_5 : decode cX5_numberedRedex 5 = .ok (.aload_n 0, 1) := by decide +kernel
theorem dX5_numberedRedex_6 : decode cX5_numberedRedex 6 = .ok (.invokevirtual 32, 3) := by decide +kernel
theorem dX5_numberedRedex_9 : decode cX5_numberedRedex 9 = .ok (.if_icmp .ge 27, 3) := by decide +kernel
theorem dX5_numberedRedex_12 : decode cX5_numberedRedex 12 = .ok (.aload_n 0, 1) := by decide +kernel
theorem dX5_numberedRedex_13 : decode cX5_numberedRedex 13 = .ok (.iload_n 3, 1) := by decide +kernel
theorem dX5_numberedRedex_14 : decode cX5_numberedRedex 14 = .ok (.invokestatic 36, 3) := by decide +kernel
theorem dX5_numberedRedex_17 : decode cX5_numberedRedex 17 = .ok (.ifCond .eq 13, 3) := by decide +kernel
theorem dX5_numberedRedex_20 : decode cX5_numberedRedex 20 = .ok (.iload_n 2, 1) := by decide +kernel
theorem dX5_numberedRedex_21 : decode cX5_numberedRedex 21 = .ok (.iload_n 1, 1) := by decide +kernel
theorem dX5_numberedRedex_22 : decode cX5_numberedRedex 22 = .ok (.if_icmp .ne 5, 3) := by decide +kernel
theorem dX5_numberedRedex_25 : decode cX5_numberedRedex 25 = .ok (.iload_n 3, 1) := by decide +kernel
theorem dX5_numberedRedex_26 : decode cX5_numberedRedex 26 = .ok (.ireturn, 1) := by decide +kernel
theorem dX5_numberedRedex_27 : decode cX5_numberedRedex 27 = .ok (.iinc 2 1, 3) := by decide +kernel
theorem dX5_numberedRedex_30 : decode cX5_numberedRedex 30 = .ok (.iinc 3 1, 3) := by decide +kernel
theorem dX5_numberedRedex_33 : decode cX5_numberedRedex 33 = .ok (.goto (-29), 3) := by decide +kernel
theorem dX5_numberedRedex_36 : decode cX5_numberedRedex 36 = .ok (.bipush (-9), 2) := by decide +kernel
theorem dX5_numberedRedex_38 : decode cX5_numberedRedex 38 = .ok (.ireturn, 1) := by decide +kernel
theorem dX5_choose_0 : decode cX5_choose 0 = .ok (.iload_n 1, 1) := by decide +kernel
theorem dX5_choose_1 : decode cX5_choose 1 = .ok (.tableswitch 52 0 3 #[31, 37, 42, 47], 31) := by decide +kernel
theorem dX5_choose_32 : decode cX5_choose 32 = .ok (.aload_n 0, 1) := by decide +kernel
theorem dX5_choose_33 : decode cX5_choose 33 = .ok (.iconst 0, 1) := by decide +kernel
theorem dX5_choose_34 : decode cX5_choose 34 = .ok (.invokestatic 40, 3) := by decide +kernel
theorem dX5_choose_37 : decode cX5_choose 37 = .ok (.ireturn, 1) := by decide +kernel
theorem dX5_choose_38 : decode cX5_choose 38 = .ok (.aload_n 0, 1) := by decide +kernel
theorem dX5_choose_39 : decode cX5_choose 39 = .ok (.invokestatic 44, 3) := by decide +kernel
theorem dX5_choose_42 : decode cX5_choose 42 = .ok (.ireturn, 1) := by decide +kernel
theorem dX5_choose_43 : decode cX5_choose 43 = .ok (.aload_n 0, 1) := by decide +kernel
theorem dX5_choose_44 : decode cX5_choose 44 = .ok (.invokestatic 48, 3) := by decide +kernel
theorem dX5_choose_47 : decode cX5_choose 47 = .ok (.ireturn, 1) := by decide +kernel
theorem dX5_choose_48 : decode cX5_choose 48 = .ok (.aload_n 0, 1) := by decide +kernel
theorem dX5_choose_49 : decode cX5_choose 49 = .ok (.invokestatic 51, 3) := by decide +kernel
theorem dX5_choose_52 : decode cX5_choose 52 = .ok (.ireturn, 1) := by decide +kernel
theorem dX5_choose_53 : decode cX5_choose 53 = .ok (.bipush (-9), 2) := by decide +kernel
theorem dX5_choose_55 : decode cX5_choose 55 = .ok (.ireturn, 1) := by decide +kernel
theorem dX5_leftmostInnermost_0 : decode cX5_leftmostInnermost 0 = .ok (.bipush (-9), 2) := by decide +kernel
theorem dX5_leftmostInnermost_2 : decode cX5_leftmostInnermost 2 = .ok (.istore_n 1, 1) := by decide +kernel
theorem dX5_leftmostInnermost_3 : decode cX5_leftmostInnermost 3 = .ok (.iconst 0, 1) := by decide +kernel
theorem dX5_leftmostInnermost_4 : decode cX5_leftmostInnermost 4 = .ok (.istore_n 2, 1) := by decide +kernel
theorem dX5_leftmostInnermost_5 : decode cX5_leftmostInnermost 5 = .ok (.iconst 0, 1) := by decide +kernel
theorem dX5_leftmostInnermost_6 : decode cX5_leftmostInnermost 6 = .ok (.istore_n 3, 1) := by decide +kernel
theorem dX5_leftmostInnermost_7 : decode cX5_leftmostInnermost 7 = .ok (.iload_n 3, 1) := by decide +kernel
theorem dX5_leftmostInnermost_8 : decode cX5_leftmostInnermost 8 = .ok (.aload_n 0, 1) := by decide +kernel
theorem dX5_leftmostInnermost_9 : decode cX5_leftmostInnermost 9 = .ok (.invokevirtual 32, 3) := by decide +kernel
theorem dX5_leftmostInnermost_12 : decode cX5_leftmostInnermost 12 = .ok (.if_icmp .ge 46, 3) := by decide +kernel
theorem dX5_leftmostInnermost_15 : decode cX5_leftmostInnermost 15 = .ok (.aload_n 0, 1) := by decide +kernel
theorem dX5_leftmostInnermost_16 : decode cX5_leftmostInnermost 16 = .ok (.iload_n 3, 1) := by decide +kernel
theorem dX5_leftmostInnermost_17 : decode cX5_leftmostInnermost 17 = .ok (.invokestatic 36, 3) := by decide +kernel
theorem dX5_leftmostInnermost_20 : decode cX5_leftmostInnermost 20 = .ok (.ifCond .eq 7, 3) := by decide +kernel
theorem dX5_leftmostInnermost_23 : decode cX5_leftmostInnermost 23 = .ok (.iload_n 3, 1) := by decide +kernel
theorem dX5_leftmostInnermost_24 : decode cX5_leftmostInnermost 24 = .ok (.istore_n 1, 1) := by decide +kernel
theorem dX5_leftmostInnermost_25 : decode cX5_leftmostInnermost 25 = .ok (.iconst 1, 1) := by decide +kernel
theorem dX5_leftmostInnermost_26 : decode cX5_leftmostInnermost 26 = .ok (.istore_n 2, 1) := by decide +kernel
theorem dX5_leftmostInnermost_27 : decode cX5_leftmostInnermost 27 = .ok (.iload_n 2, 1) := by decide +kernel
theorem dX5_leftmostInnermost_28 : decode cX5_leftmostInnermost 28 = .ok (.aload_n 0, 1) := by decide +kernel
theorem dX5_leftmostInnermost_29 : decode cX5_leftmostInnermost 29 = .ok (.iload_n 3, 1) := by decide +kernel
theorem dX5_leftmostInnermost_30 : decode cX5_leftmostInnermost 30 = .ok (.invokevirtual 28, 3) := by decide +kernel
theorem dX5_leftmostInnermost_33 : decode cX5_leftmostInnermost 33 = .ok (.invokestatic 54, 3) := by decide +kernel
theorem dX5_leftmostInnermost_36 : decode cX5_leftmostInnermost 36 = .ok (.iconst 1, 1) := by decide +kernel
theorem dX5_leftmostInnermost_37 : decode cX5_leftmostInnermost 37 = .ok (.isub, 1) := by decide +kernel
theorem dX5_leftmostInnermost_38 : decode cX5_leftmostInnermost 38 = .ok (.iadd, 1) := by decide +kernel
theorem dX5_leftmostInnermost_39 : decode cX5_leftmostInnermost 39 = .ok (.istore_n 2, 1) := by decide +kernel
theorem dX5_leftmostInnermost_40 : decode cX5_leftmostInnermost 40 = .ok (.iload_n 1, 1) := by decide +kernel
theorem dX5_leftmostInnermost_41 : decode cX5_leftmostInnermost 41 = .ok (.bipush (-9), 2) := by decide +kernel
theorem dX5_leftmostInnermost_43 : decode cX5_leftmostInnermost 43 = .ok (.if_icmp .eq 9, 3) := by decide +kernel
theorem dX5_leftmostInnermost_46 : decode cX5_leftmostInnermost 46 = .ok (.iload_n 2, 1) := by decide +kernel
theorem dX5_leftmostInnermost_47 : decode cX5_leftmostInnermost 47 = .ok (.ifCond .ne 5, 3) := by decide +kernel
theorem dX5_leftmostInnermost_50 : decode cX5_leftmostInnermost 50 = .ok (.iload_n 1, 1) := by decide +kernel
theorem dX5_leftmostInnermost_51 : decode cX5_leftmostInnermost 51 = .ok (.ireturn, 1) := by decide +kernel
theorem dX5_leftmostInnermost_52 : decode cX5_leftmostInnermost 52 = .ok (.iinc 3 1, 3) := by decide +kernel
theorem dX5_leftmostInnermost_55 : decode cX5_leftmostInnermost 55 = .ok (.goto (-48), 3) := by decide +kernel
theorem dX5_leftmostInnermost_58 : decode cX5_leftmostInnermost 58 = .ok (.iload_n 1, 1) := by decide +kernel
theorem dX5_leftmostInnermost_59 : decode cX5_leftmostInnermost 59 = .ok (.ireturn, 1) := by decide +kernel
theorem dX5_lastRedex_0 : decode cX5_lastRedex 0 = .ok (.aload_n 0, 1) := by decide +kernel
theorem dX5_lastRedex_1 : decode cX5_lastRedex 1 = .ok (.invokevirtual 32, 3) := by decide +kernel
theorem dX5_lastRedex_4 : decode cX5_lastRedex 4 = .ok (.iconst 1, 1) := by decide +kernel
theorem dX5_lastRedex_5 : decode cX5_lastRedex 5 = .ok (.isub, 1) := by decide +kernel
theorem dX5_lastRedex_6 : decode cX5_lastRedex 6 = .ok (.istore_n 1, 1) := by decide +kernel
theorem dX5_lastRedex_7 : decode cX5_lastRedex 7 = .ok (.iload_n 1, 1) := by decide +kernel
theorem dX5_lastRedex_8 : decode cX5_lastRedex 8 = .ok (.ifCond .lt 19, 3) := by decide +kernel
theorem dX5_lastRedex_11 : decode cX5_lastRedex 11 = .ok (.aload_n 0, 1) := by decide +kernel
theorem dX5_lastRedex_12 : decode cX5_lastRedex 12 = .ok (.iload_n 1, 1) := by decide +kernel
theorem dX5_lastRedex_13 : decode cX5_lastRedex 13 = .ok (.invokestatic 36, 3) := by decide +kernel
theorem dX5_lastRedex_16 : decode cX5_lastRedex 16 = .ok (.ifCond .eq 5, 3) := by decide +kernel
theorem dX5_lastRedex_19 : decode cX5_lastRedex 19 = .ok (.iload_n 1, 1) := by decide +kernel
theorem dX5_lastRedex_20 : decode cX5_lastRedex 20 = .ok (.ireturn, 1) := by decide +kernel
theorem dX5_lastRedex_21 : decode cX5_lastRedex 21 = .ok (.iinc 1 (-1), 3) := by decide +kernel
theorem dX5_lastRedex_24 : decode cX5_lastRedex 24 = .ok (.goto (-17), 3) := by decide +kernel
theorem dX5_lastRedex_27 : decode cX5_lastRedex 27 = .ok (.bipush (-9), 2) := by decide +kernel
theorem dX5_lastRedex_29 : decode cX5_lastRedex 29 = .ok (.ireturn, 1) := by decide +kernel
theorem dX5_weakHead_0 : decode cX5_weakHead 0 = .ok (.iconst 0, 1) := by decide +kernel
theorem dX5_weakHead_1 : decode cX5_weakHead 1 = .ok (.istore_n 1, 1) := by decide +kernel
theorem dX5_weakHead_2 : decode cX5_weakHead 2 = .ok (.iload_n 1, 1) := by decide +kernel
theorem dX5_weakHead_3 : decode cX5_weakHead 3 = .ok (.aload_n 0, 1) := by decide +kernel
theorem dX5_weakHead_4 : decode cX5_weakHead 4 = .ok (.invokevirtual 32, 3) := by decide +kernel
theorem dX5_weakHead_7 : decode cX5_weakHead 7 = .ok (.if_icmp .ge 30, 3) := by decide +kernel
theorem dX5_weakHead_10 : decode cX5_weakHead 10 = .ok (.aload_n 0, 1) := by decide +kernel
theorem dX5_weakHead_11 : decode cX5_weakHead 11 = .ok (.iload_n 1, 1) := by decide +kernel
theorem dX5_weakHead_12 : decode cX5_weakHead 12 = .ok (.invokevirtual 28, 3) := by decide +kernel
theorem dX5_weakHead_15 : decode cX5_weakHead 15 = .ok (.sipush 1000, 3) := by decide +kernel
theorem dX5_weakHead_18 : decode cX5_weakHead 18 = .ok (.if_icmp .ne 19, 3) := by decide +kernel
theorem dX5_weakHead_21 : decode cX5_weakHead 21 = .ok (.aload_n 0, 1) := by decide +kernel
theorem dX5_weakHead_22 : decode cX5_weakHead 22 = .ok (.iload_n 1, 1) := by decide +kernel
theorem dX5_weakHead_23 : decode cX5_weakHead 23 = .ok (.invokestatic 36, 3) := by decide +kernel
theorem dX5_weakHead_26 : decode cX5_weakHead 26 = .ok (.ifCond .eq 5, 3) := by decide +kernel
theorem dX5_weakHead_29 : decode cX5_weakHead 29 = .ok (.iload_n 1, 1) := by decide +kernel
theorem dX5_weakHead_30 : decode cX5_weakHead 30 = .ok (.ireturn, 1) := by decide +kernel
theorem dX5_weakHead_31 : decode cX5_weakHead 31 = .ok (.iinc 1 1, 3) := by decide +kernel
theorem dX5_weakHead_34 : decode cX5_weakHead 34 = .ok (.goto (-32), 3) := by decide +kernel
theorem dX5_weakHead_37 : decode cX5_weakHead 37 = .ok (.bipush (-9), 2) := by decide +kernel
theorem dX5_weakHead_39 : decode cX5_weakHead 39 = .ok (.ireturn, 1) := by decide +kernel
theorem dX5_perform_0 : decode cX5_perform 0 = .ok (.iconst 0, 1) := by decide +kernel
theorem dX5_perform_1 : decode cX5_perform 1 = .ok (.istore 4, 2) := by decide +kernel
theorem dX5_perform_3 : decode cX5_perform 3 = .ok (.iload 4, 2) := by decide +kernel
theorem dX5_perform_5 : decode cX5_perform 5 = .ok (.iload_n 3, 1) := by decide +kernel
theorem dX5_perform_6 : decode cX5_perform 6 = .ok (.if_icmp .ge 22, 3) := by decide +kernel
theorem dX5_perform_9 : decode cX5_perform 9 = .ok (.aload_n 0, 1) := by decide +kernel
theorem dX5_perform_10 : decode cX5_perform 10 = .ok (.aload_n 1, 1) := by decide +kernel
theorem dX5_perform_11 : decode cX5_perform 11 = .ok (.aload_n 1, 1) := by decide +kernel
theorem dX5_perform_12 : decode cX5_perform 12 = .ok (.iload_n 2, 1) := by decide +kernel
theorem dX5_perform_13 : decode cX5_perform 13 = .ok (.invokestatic 57, 3) := by decide +kernel
theorem dX5_perform_16 : decode cX5_perform 16 = .ok (.invokevirtual 60, 3) := by decide +kernel
theorem dX5_perform_19 : decode cX5_perform 19 = .ok (.ifCond .eq 9, 3) := by decide +kernel
theorem dX5_perform_22 : decode cX5_perform 22 = .ok (.iinc 4 1, 3) := by decide +kernel
theorem dX5_perform_25 : decode cX5_perform 25 = .ok (.goto (-22), 3) := by decide +kernel
theorem dX5_perform_28 : decode cX5_perform 28 = .ok (.iload 4, 2) := by decide +kernel
theorem dX5_perform_30 : decode cX5_perform 30 = .ok (.ireturn, 1) := by decide +kernel
theorem dX5_contract_0 : decode cX5_contract 0 = .ok (.aload_n 1, 1) := by decide +kernel
theorem dX5_contract_1 : decode cX5_contract 1 = .ok (.iload_n 2, 1) := by decide +kernel
theorem dX5_contract_2 : decode cX5_contract 2 = .ok (.invokestatic 36, 3) := by decide +kernel
theorem dX5_contract_5 : decode cX5_contract 5 = .ok (.ifCond .ne 5, 3) := by decide +kernel
theorem dX5_contract_8 : decode cX5_contract 8 = .ok (.iconst 0, 1) := by decide +kernel
theorem dX5_contract_9 : decode cX5_contract 9 = .ok (.ireturn, 1) := by decide +kernel
theorem dX5_contract_10 : decode cX5_contract 10 = .ok (.aload_n 0, 1) := by decide +kernel
theorem dX5_contract_11 : decode cX5_contract 11 = .ok (.getfield 12, 3) := by decide +kernel
theorem dX5_contract_14 : decode cX5_contract 14 = .ok (.aload_n 1, 1) := by decide +kernel
theorem dX5_contract_15 : decode cX5_contract 15 = .ok (.invokevirtual 63, 3) := by decide +kernel
theorem dX5_contract_18 : decode cX5_contract 18 = .ok (.aload_n 0, 1) := by decide +kernel
theorem dX5_contract_19 : decode cX5_contract 19 = .ok (.getfield 12, 3) := by decide +kernel
theorem dX5_contract_22 : decode cX5_contract 22 = .ok (.iload_n 2, 1) := by decide +kernel
theorem dX5_contract_23 : decode cX5_contract 23 = .ok (.iconst 1, 1) := by decide +kernel
theorem dX5_contract_24 : decode cX5_contract 24 = .ok (.iadd, 1) := by decide +kernel
theorem dX5_contract_25 : decode cX5_contract 25 = .ok (.invokevirtual 67, 3) := by decide +kernel
theorem dX5_contract_28 : decode cX5_contract 28 = .ok (.istore_n 3, 1) := by decide +kernel
theorem dX5_contract_29 : decode cX5_contract 29 = .ok (.aload_n 0, 1) := by decide +kernel
theorem dX5_contract_30 : decode cX5_contract 30 = .ok (.getfield 12, 3) := by decide +kernel
theorem dX5_contract_33 : decode cX5_contract 33 = .ok (.iload_n 3, 1) := by decide +kernel
theorem dX5_contract_34 : decode cX5_contract 34 = .ok (.invokevirtual 67, 3) := by decide +kernel
theorem dX5_contract_37 : decode cX5_contract 37 = .ok (.istore 4, 2) := by decide +kernel
theorem dX5_contract_39 : decode cX5_contract 39 = .ok (.aload_n 0, 1) := by decide +kernel
theorem dX5_contract_40 : decode cX5_contract 40 = .ok (.getfield 24, 3) := by decide +kernel
theorem dX5_contract_43 : decode cX5_contract 43 = .ok (.invokevirtual 70, 3) := by decide +kernel
theorem dX5_contract_46 : decode cX5_contract 46 = .ok (.aload_n 0, 1) := by decide +kernel
theorem dX5_contract_47 : decode cX5_contract 47 = .ok (.getfield 24, 3) := by decide +kernel
theorem dX5_contract_50 : decode cX5_contract 50 = .ok (.aload_n 1, 1) := by decide +kernel
theorem dX5_contract_51 : decode cX5_contract 51 = .ok (.iconst 0, 1) := by decide +kernel
theorem dX5_contract_52 : decode cX5_contract 52 = .ok (.iload_n 2, 1) := by decide +kernel
theorem dX5_contract_53 : decode cX5_contract 53 = .ok (.invokevirtual 73, 3) := by decide +kernel
theorem dX5_contract_56 : decode cX5_contract 56 = .ok (.aload_n 0, 1) := by decide +kernel
theorem dX5_contract_57 : decode cX5_contract 57 = .ok (.aload_n 1, 1) := by decide +kernel
theorem dX5_contract_58 : decode cX5_contract 58 = .ok (.iload_n 2, 1) := by decide +kernel
theorem dX5_contract_59 : decode cX5_contract 59 = .ok (.iconst 2, 1) := by decide +kernel
theorem dX5_contract_60 : decode cX5_contract 60 = .ok (.iadd, 1) := by decide +kernel
theorem dX5_contract_61 : decode cX5_contract 61 = .ok (.iload_n 3, 1) := by decide +kernel
theorem dX5_contract_62 : decode cX5_contract 62 = .ok (.iload 4, 2) := by decide +kernel
theorem dX5_contract_64 : decode cX5_contract 64 = .ok (.invokevirtual 77, 3) := by decide +kernel
theorem dX5_contract_67 : decode cX5_contract 67 = .ok (.aload_n 0, 1) := by decide +kernel
theorem dX5_contract_68 : decode cX5_contract 68 = .ok (.getfield 24, 3) := by decide +kernel
theorem dX5_contract_71 : decode cX5_contract 71 = .ok (.aload_n 1, 1) := by decide +kernel
theorem dX5_contract_72 : decode cX5_contract 72 = .ok (.iload 4, 2) := by decide +kernel
theorem dX5_contract_74 : decode cX5_contract 74 = .ok (.aload_n 1, 1) := by decide +kernel
theorem dX5_contract_75 : decode cX5_contract 75 = .ok (.invokevirtual 32, 3) := by decide +kernel
theorem dX5_contract_78 : decode cX5_contract 78 = .ok (.invokevirtual 73, 3) := by decide +kernel
theorem dX5_contract_81 : decode cX5_contract 81 = .ok (.aload_n 0, 1) := by decide +kernel
theorem dX5_contract_82 : decode cX5_contract 82 = .ok (.aload_n 1, 1) := by decide +kernel
theorem dX5_contract_83 : decode cX5_contract 83 = .ok (.invokevirtual 81, 3) := by decide +kernel
theorem dX5_contract_86 : decode cX5_contract 86 = .ok (.ireturn, 1) := by decide +kernel
theorem dX5_addContracted_0 : decode cX5_addContracted 0 = .ok (.aload_n 0, 1) := by decide +kernel
theorem dX5_addContracted_1 : decode cX5_addContracted 1 = .ok (.getfield 12, 3) := by decide +kernel
theorem dX5_addContracted_4 : decode cX5_addContracted 4 = .ok (.iload_n 2, 1) := by decide +kernel
theorem dX5_addContracted_5 : decode cX5_addContracted 5 = .ok (.invokevirtual 85, 3) := by decide +kernel
theorem dX5_addContracted_8 : decode cX5_addContracted 8 = .ok (.istore 5, 2) := by decide +kernel
theorem dX5_addContracted_10 : decode cX5_addContracted 10 = .ok (.iload_n 2, 1) := by decide +kernel
theorem dX5_addContracted_11 : decode cX5_addContracted 11 = .ok (.istore 6, 2) := by decide +kernel
theorem dX5_addContracted_13 : decode cX5_addContracted 13 = .ok (.iload 6, 2) := by decide +kernel
theorem dX5_addContracted_15 : decode cX5_addContracted 15 = .ok (.iload_n 3, 1) := by decide +kernel
theorem dX5_addContracted_16 : decode cX5_addContracted 16 = .ok (.if_icmp .ge 103, 3) := by decide +kernel
theorem dX5_addContracted_19 : decode cX5_addContracted 19 = .ok (.aload_n 0, 1) := by decide +kernel
theorem dX5_addContracted_20 : decode cX5_addContracted 20 = .ok (.getfield 24, 3) := by decide +kernel
theorem dX5_addContracted_23 : decode cX5_addContracted 23 = .ok (.invokevirtual 88, 3) := by decide +kernel
theorem dX5_addContracted_26 : decode cX5_addContracted 26 = .ok (.ifCond .ne 93, 3) := by decide +kernel
theorem dX5_addContracted_29 : decode cX5_addContracted 29 = .ok (.aload_n 1, 1) := by decide +kernel
theorem dX5_addContracted_30 : decode cX5_addContracted 30 = .ok (.iload 6, 2) := by decide +kernel
theorem dX5_addContracted_32 : decode cX5_addContracted 32 = .ok (.invokevirtual 28, 3) := by decide +kernel
theorem dX5_addContracted_35 : decode cX5_addContracted 35 = .ok (.istore 7, 2) := by decide +kernel
theorem dX5_addContracted_37 : decode cX5_addContracted 37 = .ok (.aload_n 0, 1) := by decide +kernel
theorem dX5_addContracted_38 : decode cX5_addContracted 38 = .ok (.getfield 12, 3) := by decide +kernel
theorem dX5_addContracted_41 : decode cX5_addContracted 41 = .ok (.iload 6, 2) := by decide +kernel
theorem dX5_addContracted_43 : decode cX5_addContracted 43 = .ok (.invokevirtual 85, 3) := by decide +kernel
theorem dX5_addContracted_46 : decode cX5_addContracted 46 = .ok (.iload 5, 2) := by decide +kernel
theorem dX5_addContracted_48 : decode cX5_addContracted 48 = .ok (.isub, 1) := by decide +kernel
theorem dX5_addContracted_49 : decode cX5_addContracted 49 = .ok (.istore 8, 2) := by decide +kernel
theorem dX5_addContracted_51 : decode cX5_addContracted 51 = .ok (.iload 7, 2) := by decide +kernel
theorem dX5_addContracted_53 : decode cX5_addContracted 53 = .ok (.invokestatic 92, 3) := by decide +kernel
theorem dX5_addContracted_56 : decode cX5_addContracted 56 = .ok (.ifCond .eq 10, 3) := by decide +kernel
theorem dX5_addContracted_59 : decode cX5_addContracted 59 = .ok (.iload 7, 2) := by decide +kernel
theorem dX5_addContracted_61 : decode cX5_addContracted 61 = .ok (.iload 8, 2) := by decide +kernel
theorem dX5_addContracted_63 : decode cX5_addContracted 63 = .ok (.if_icmp .ge 15, 3) := by decide +kernel
theorem dX5_addContracted_66 : decode cX5_addContracted 66 = .ok (.aload_n 0, 1) := by decide +kernel
theorem dX5_addContracted_67 : decode cX5_addContracted 67 = .ok (.getfield 24, 3) := by decide +kernel
theorem dX5_addContracted_70 : decode cX5_addContracted 70 = .ok (.iload 7, 2) := by decide +kernel
theorem dX5_addContracted_72 : decode cX5_addContracted 72 = .ok (.invokevirtual 96, 3) := by decide +kernel
theorem dX5_addContracted_75 : decode cX5_addContracted 75 = .ok (.goto 38, 3) := by decide +kernel
theorem dX5_addContracted_78 : decode cX5_addContracted 78 = .ok (.iload 7, 2) := by decide +kernel
theorem dX5_addContracted_80 : decode cX5_addContracted 80 = .ok (.iload 8, 2) := by decide +kernel
theorem dX5_addContracted_82 : decode cX5_addContracted 82 = .ok (.if_icmp .ne 20, 3) := by decide +kernel
theorem dX5_addContracted_85 : decode cX5_addContracted 85 = .ok (.aload_n 0, 1) := by decide +kernel
theorem dX5_addContracted_86 : decode cX5_addContracted 86 = .ok (.aload_n 1, 1) := by decide +kernel
theorem dX5_addContracted_87 : decode cX5_addContracted 87 = .ok (.aload_n 0, 1) := by decide +kernel
theorem dX5_addContracted_88 : decode cX5_addContracted 88 = .ok (.getfield 12, 3) := by decide +kernel
theorem dX5_addContracted_91 : decode cX5_addContracted 91 = .ok (.iload_n 3, 1) := by decide +kernel
theorem dX5_addContracted_92 : decode cX5_addContracted 92 = .ok (.iload 4, 2) := by decide +kernel
theorem dX5_addContracted_94 : decode cX5_addContracted 94 = .ok (.iload 8, 2) := by decide +kernel
theorem dX5_addContracted_96 : decode cX5_addContracted 96 = .ok (.invokevirtual 100, 3) := by decide +kernel
theorem dX5_addContracted_99 : decode cX5_addContracted 99 = .ok (.goto 14, 3) := by decide +kernel
theorem dX5_addContracted_102 : decode cX5_addContracted 102 = .ok (.aload_n 0, 1) := by decide +kernel
theorem dX5_addContracted_103 : decode cX5_addContracted 103 = .ok (.getfield 24, 3) := by decide +kernel
theorem dX5_addContracted_106 : decode cX5_addContracted 106 = .ok (.iload 7, 2) := by decide +kernel
theorem dX5_addContracted_108 : decode cX5_addContracted 108 = .ok (.iconst 1, 1) := by decide +kernel
theorem dX5_addContracted_109 : decode cX5_addContracted 109 = .ok (.isub, 1) := by decide +kernel
theorem dX5_addContracted_110 : decode cX5_addContracted 110 = .ok (.invokevirtual 96, 3) := by decide +kernel
theorem dX5_addContracted_113 : decode cX5_addContracted 113 = .ok (.iinc 6 1, 3) := by decide +kernel
theorem dX5_addContracted_116 : decode cX5_addContracted 116 = .ok (.goto (-103), 3) := by decide +kernel
theorem dX5_addContracted_119 : decode cX5_addContracted 119 = .ok (.return_, 1) := by decide +kernel
theorem dX5_replaceFree_0 : decode cX5_replaceFree 0 = .ok (.aload_n 0, 1) := by decide +kernel
theorem dX5_replaceFree_1 : decode cX5_replaceFree 1 = .ok (.getfield 12, 3) := by decide +kernel
theorem dX5_replaceFree_4 : decode cX5_replaceFree 4 = .ok (.aload_n 1, 1) := by decide +kernel
theorem dX5_replaceFree_5 : decode cX5_replaceFree 5 = .ok (.invokevirtual 63, 3) := by decide +kernel
theorem dX5_replaceFree_8 : decode cX5_replaceFree 8 = .ok (.aload_n 0, 1) := by decide +kernel
theorem dX5_replaceFree_9 : decode cX5_replaceFree 9 = .ok (.getfield 18, 3) := by decide +kernel
theorem dX5_replaceFree_12 : decode cX5_replaceFree 12 = .ok (.aload_n 3, 1) := by decide +kernel
theorem dX5_replaceFree_13 : decode cX5_replaceFree 13 = .ok (.invokevirtual 63, 3) := by decide +kernel
theorem dX5_replaceFree_16 : decode cX5_replaceFree 16 = .ok (.aload_n 0, 1) := by decide +kernel
theorem dX5_replaceFree_17 : decode cX5_replaceFree 17 = .ok (.getfield 24, 3) := by decide +kernel
theorem dX5_replaceFree_20 : decode cX5_replaceFree 20 = .ok (.invokevirtual 70, 3) := by decide +kernel
theorem dX5_replaceFree_23 : decode cX5_replaceFree 23 = .ok (.iconst 0, 1) := by decide +kernel
theorem dX5_replaceFree_24 : decode cX5_replaceFree 24 = .ok (.istore 4, 2) := by decide +kernel
theorem dX5_replaceFree_26 : decode cX5_replaceFree 26 = .ok (.iload 4, 2) := by decide +kernel
theorem dX5_replaceFree_28 : decode cX5_replaceFree 28 = .ok (.aload_n 1, 1) := by decide +kernel
theorem dX5_replaceFree_29 : decode cX5_replaceFree 29 = .ok (.invokevirtual 32, 3) := by decide +kernel
theorem dX5_replaceFree_32 : decode cX5_replaceFree 32 = .ok (.if_icmp .ge 83, 3) := by decide +kernel
theorem dX5_replaceFree_35 : decode cX5_replaceFree 35 = .ok (.aload_n 0, 1) := by decide +kernel
theorem dX5_replaceFree_36 : decode cX5_replaceFree 36 = .ok (.getfield 24, 3) := by decide +kernel
theorem dX5_replaceFree_39 : decode cX5_replaceFree 39 = .ok (.invokevirtual 88, 3) := by decide +kernel
theorem dX5_replaceFree_42 : decode cX5_replaceFree 42 = .ok (.ifCond .ne 73, 3) := by decide +kernel
theorem dX5_replaceFree_45 : decode cX5_replaceFree 45 = .ok (.aload_n 1, 1) := by decide +kernel
theorem dX5_replaceFree_46 : decode cX5_replaceFree 46 = .ok (.iload 4, 2) := by decide +kernel
theorem dX5_replaceFree_48 : decode cX5_replaceFree 48 = .ok (.invokevirtual 28, 3) := by decide +kernel
theorem dX5_replaceFree_51 : decode cX5_replaceFree 51 = .ok (.istore 5, 2) := by decide +kernel
theorem dX5_replaceFree_53 : decode cX5_replaceFree 53 = .ok (.aload_n 0, 1) := by decide +kernel
theorem dX5_replaceFree_54 : decode cX5_replaceFree 54 = .ok (.getfield 12, 3) := by decide +kernel
theorem dX5_replaceFree_57 : decode cX5_replaceFree 57 = .ok (.iload 4, 2) := by decide +kernel
theorem dX5_replaceFree_59 : decode cX5_replaceFree 59 = .ok (.invokevirtual 85, 3) := by decide +kernel
theorem dX5_replaceFree_62 : decode cX5_replaceFree 62 = .ok (.istore 6, 2) := by decide +kernel
theorem dX5_replaceFree_64 : decode cX5_replaceFree 64 = .ok (.iload 5, 2) := by decide +kernel
theorem dX5_replaceFree_66 : decode cX5_replaceFree 66 = .ok (.invokestatic 92, 3) := by decide +kernel
theorem dX5_replaceFree_69 : decode cX5_replaceFree 69 = .ok (.ifCond .eq 31, 3) := by decide +kernel
theorem dX5_replaceFree_72 : decode cX5_replaceFree 72 = .ok (.iload 5, 2) := by decide +kernel
theorem dX5_replaceFree_74 : decode cX5_replaceFree 74 = .ok (.iload 6, 2) := by decide +kernel
theorem dX5_replaceFree_76 : decode cX5_replaceFree 76 = .ok (.isub, 1) := by decide +kernel
theorem dX5_replaceFree_77 : decode cX5_replaceFree 77 = .ok (.iload_n 2, 1) := by decide +kernel
theorem dX5_replaceFree_78 : decode cX5_replaceFree 78 = .ok (.if_icmp .ne 22, 3) := by decide +kernel
theorem dX5_replaceFree_81 : decode cX5_replaceFree 81 = .ok (.aload_n 0, 1) := by decide +kernel
theorem dX5_replaceFree_82 : decode cX5_replaceFree 82 = .ok (.aload_n 3, 1) := by decide +kernel
theorem dX5_replaceFree_83 : decode cX5_replaceFree 83 = .ok (.aload_n 0, 1) := by decide +kernel
theorem dX5_replaceFree_84 : decode cX5_replaceFree 84 = .ok (.getfield 18, 3) := by decide +kernel
theorem dX5_replaceFree_87 : decode cX5_replaceFree 87 = .ok (.iconst 0, 1) := by decide +kernel
theorem dX5_replaceFree_88 : decode cX5_replaceFree 88 = .ok (.aload_n 3, 1) := by decide +kernel
theorem dX5_replaceFree_89 : decode cX5_replaceFree 89 = .ok (.invokevirtual 32, 3) := by decide +kernel
theorem dX5_replaceFree_92 : decode cX5_replaceFree 92 = .ok (.iload 6, 2) := by decide +kernel
theorem dX5_replaceFree_94 : decode cX5_replaceFree 94 = .ok (.invokevirtual 100, 3) := by decide +kernel
theorem dX5_replaceFree_97 : decode cX5_replaceFree 97 = .ok (.goto 12, 3) := by decide +kernel
theorem dX5_replaceFree_100 : decode cX5_replaceFree 100 = .ok (.aload_n 0, 1) := by decide +kernel
theorem dX5_replaceFree_101 : decode cX5_replaceFree 101 = .ok (.getfield 24, 3) := by decide +kernel
theorem dX5_replaceFree_104 : decode cX5_replaceFree 104 = .ok (.iload 5, 2) := by decide +kernel
theorem dX5_replaceFree_106 : decode cX5_replaceFree 106 = .ok (.invokevirtual 96, 3) := by decide +kernel
theorem dX5_replaceFree_109 : decode cX5_replaceFree 109 = .ok (.iinc 4 1, 3) := by decide +kernel
theorem dX5_replaceFree_112 : decode cX5_replaceFree 112 = .ok (.goto (-86), 3) := by decide +kernel
theorem dX5_replaceFree_115 : decode cX5_replaceFree 115 = .ok (.aload_n 0, 1) := by decide +kernel
theorem dX5_replaceFree_116 : decode cX5_replaceFree 116 = .ok (.aload_n 1, 1) := by decide +kernel
theorem dX5_replaceFree_117 : decode cX5_replaceFree 117 = .ok (.invokevirtual 81, 3) := by decide +kernel
theorem dX5_replaceFree_120 : decode cX5_replaceFree 120 = .ok (.ireturn, 1) := by decide +kernel
theorem dX5_addShifted_0 : decode cX5_addShifted 0 = .ok (.aload_n 2, 1) := by decide +kernel
theorem dX5_addShifted_1 : decode cX5_addShifted 1 = .ok (.iload_n 3, 1) := by decide +kernel
theorem dX5_addShifted_2 : decode cX5_addShifted 2 = .ok (.invokevirtual 85, 3) := by decide +kernel
theorem dX5_addShifted_5 : decode cX5_addShifted 5 = .ok (.istore 6, 2) := by decide +kernel
theorem dX5_addShifted_7 : decode cX5_addShifted 7 = .ok (.iload_n 3, 1) := by decide +kernel
theorem dX5_addShifted_8 : decode cX5_addShifted 8 = .ok (.istore 7, 2) := by decide +kernel
theorem dX5_addShifted_10 : decode cX5_addShifted 10 = .ok (.iload 7, 2) := by decide +kernel
theorem dX5_addShifted_12 : decode cX5_addShifted 12 = .ok (.iload 4, 2) := by decide +kernel
theorem dX5_addShifted_14 : decode cX5_addShifted 14 = .ok (.if_icmp .ge 78, 3) := by decide +kernel
theorem dX5_addShifted_17 : decode cX5_addShifted 17 = .ok (.aload_n 0, 1) := by decide +kernel
theorem dX5_addShifted_18 : decode cX5_addShifted 18 = .ok (.getfield 24, 3) := by decide +kernel
theorem dX5_addShifted_21 : decode cX5_addShifted 21 = .ok (.invokevirtual 88, 3) := by decide +kernel
theorem dX5_addShifted_24 : decode cX5_addShifted 24 = .ok (.ifCond .ne 68, 3) := by decide +kernel
theorem dX5_addShifted_27 : decode cX5_addShifted 27 = .ok (.aload_n 1, 1) := by decide +kernel
theorem dX5_addShifted_28 : decode cX5_addShifted 28 = .ok (.iload 7, 2) := by decide +kernel
theorem dX5_addShifted_30 : decode cX5_addShifted 30 = .ok (.invokevirtual 28, 3) := by decide +kernel
theorem dX5_addShifted_33 : decode cX5_addShifted 33 = .ok (.istore 8, 2) := by decide +kernel
theorem dX5_addShifted_35 : decode cX5_addShifted 35 = .ok (.iload 8, 2) := by decide +kernel
theorem dX5_addShifted_37 : decode cX5_addShifted 37 = .ok (.invokestatic 92, 3) := by decide +kernel
theorem dX5_addShifted_40 : decode cX5_addShifted 40 = .ok (.ifCond .eq 21, 3) := by decide +kernel
theorem dX5_addShifted_43 : decode cX5_addShifted 43 = .ok (.iload 8, 2) := by decide +kernel
theorem dX5_addShifted_45 : decode cX5_addShifted 45 = .ok (.aload_n 2, 1) := by decide +kernel
theorem dX5_addShifted_46 : decode cX5_addShifted 46 = .ok (.iload 7, 2) := by decide +kernel
theorem dX5_addShifted_48 : decode cX5_addShifted 48 = .ok (.invokevirtual 85, 3) := by decide +kernel
theorem dX5_addShifted_51 : decode cX5_addShifted 51 = .ok (.iload 6, 2) := by decide +kernel
theorem dX5_addShifted_53 : decode cX5_addShifted 53 = .ok (.isub, 1) := by decide +kernel
theorem dX5_addShifted_54 : decode cX5_addShifted 54 = .ok (.if_icmp .lt 7, 3) := by decide +kernel
theorem dX5_addShifted_57 : decode cX5_addShifted 57 = .ok (.iconst 1, 1) := by decide +kernel
theorem dX5_addShifted_58 : decode cX5_addShifted 58 = .ok (.goto 4, 3) := by decide +kernel
theorem dX5_addShifted_61 : decode cX5_addShifted 61 = .ok (.iconst 0, 1) := by decide +kernel
theorem dX5_addShifted_62 : decode cX5_addShifted 62 = .ok (.istore 9, 2) := by decide +kernel
theorem dX5_addShifted_64 : decode cX5_addShifted 64 = .ok (.aload_n 0, 1) := by decide +kernel
theorem dX5_addShifted_65 : decode cX5_addShifted 65 = .ok (.getfield 24, 3) := by decide +kernel
theorem dX5_addShifted_68 : decode cX5_addShifted 68 = .ok (.iload 9, 2) := by decide +kernel
theorem dX5_addShifted_70 : decode cX5_addShifted 70 = .ok (.ifCond .eq 11, 3) := by decide +kernel
theorem dX5_addShifted_73 : decode cX5_addShifted 73 = .ok (.iload 8, 2) := by decide +kernel
theorem dX5_addShifted_75 : decode cX5_addShifted 75 = .ok (.iload 5, 2) := by decide +kernel
theorem dX5_addShifted_77 : decode cX5_addShifted 77 = .ok (.iadd, 1) := by decide +kernel
theorem dX5_addShifted_78 : decode cX5_addShifted 78 = .ok (.goto 5, 3) := by decide +kernel
theorem dX5_addShifted_81 : decode cX5_addShifted 81 = .ok (.iload 8, 2) := by decide +kernel
theorem dX5_addShifted_83 : decode cX5_addShifted 83 = .ok (.invokevirtual 96, 3) := by decide +kernel
theorem dX5_addShifted_86 : decode cX5_addShifted 86 = .ok (.iinc 7 1, 3) := by decide +kernel
theorem dX5_addShifted_89 : decode cX5_addShifted 89 = .ok (.goto (-79), 3) := by decide +kernel
theorem dX5_addShifted_92 : decode cX5_addShifted 92 = .ok (.return_, 1) := by decide +kernel
theorem dX5_takeResult_0 : decode cX5_takeResult 0 = .ok (.aload_n 0, 1) := by decide +kernel
theorem dX5_takeResult_1 : decode cX5_takeResult 1 = .ok (.getfield 24, 3) := by decide +kernel
theorem dX5_takeResult_4 : decode cX5_takeResult 4 = .ok (.invokevirtual 88, 3) := by decide +kernel
theorem dX5_takeResult_7 : decode cX5_takeResult 7 = .ok (.ifCond .eq 5, 3) := by decide +kernel
theorem dX5_takeResult_10 : decode cX5_takeResult 10 = .ok (.iconst 0, 1) := by decide +kernel
theorem dX5_takeResult_11 : decode cX5_takeResult 11 = .ok (.ireturn, 1) := by decide +kernel
theorem dX5_takeResult_12 : decode cX5_takeResult 12 = .ok (.aload_n 1, 1) := by decide +kernel
theorem dX5_takeResult_13 : decode cX5_takeResult 13 = .ok (.aload_n 0, 1) := by decide +kernel
theorem dX5_takeResult_14 : decode cX5_takeResult 14 = .ok (.getfield 24, 3) := by decide +kernel
theorem dX5_takeResult_17 : decode cX5_takeResult 17 = .ok (.invokevirtual 104, 3) := by decide +kernel
theorem dX5_takeResult_20 : decode cX5_takeResult 20 = .ok (.iconst 1, 1) := by decide +kernel
theorem dX5_takeResult_21 : decode cX5_takeResult 21 = .ok (.ireturn, 1) := by decide +kernel
theorem dX6_init_0 : decode cX6_init 0 = .ok (.aload_n 0, 1) := by decide +kernel
theorem dX6_init_1 : decode cX6_init 1 = .ok (.invokespecial 3, 3) := by decide +kernel
theorem dX6_init_4 : decode cX6_init 4 = .ok (.aload_n 0, 1) := by decide +kernel
theorem dX6_init_5 : decode cX6_init 5 = .ok (.sipush 200, 3) := by decide +kernel
theorem dX6_init_8 : decode cX6_init 8 = .ok (.newarray .int, 2) := by decide +kernel
theorem dX6_init_10 : decode cX6_init 10 = .ok (.putfield 9, 3) := by decide +kernel
theorem dX6_init_13 : decode cX6_init 13 = .ok (.aload_n 0, 1) := by decide +kernel
theorem dX6_init_14 : decode cX6_init 14 = .ok (.iconst 0, 1) := by decide +kernel
theorem dX6_init_15 : decode cX6_init 15 = .ok (.putfield 15, 3) := by decide +kernel
theorem dX6_init_18 : decode cX6_init 18 = .ok (.aload_n 0, 1) := by decide +kernel
theorem dX6_init_19 : decode cX6_init 19 = .ok (.iconst 0, 1) := by decide +kernel
theorem dX6_init_20 : decode cX6_init 20 = .ok (.putfield 19, 3) := by decide +kernel
theorem dX6_init_23 : decode cX6_init 23 = .ok (.return_, 1) := by decide +kernel
theorem dX6_length_0 : decode cX6_length 0 = .ok (.aload_n 0, 1) := by decide +kernel
theorem dX6_length_1 : decode cX6_length 1 = .ok (.getfield 15, 3) := by decide +kernel
theorem dX6_length_4 : decode cX6_length 4 = .ok (.ireturn, 1) := by decide +kernel
theorem dX6_isTooLarge_0 : decode cX6_isTooLarge 0 = .ok (.aload_n 0, 1) := by decide +kernel
theorem dX6_isTooLarge_1 : decode cX6_isTooLarge 1 = .ok (.getfield 19, 3) := by decide +kernel
theorem dX6_isTooLarge_4 : decode cX6_isTooLarge 4 = .ok (.ireturn, 1) := by decide +kernel
theorem dX6_has_0 : decode cX6_has 0 = .ok (.iload_n 1, 1) := by decide +kernel
theorem dX6_has_1 : decode cX6_has 1 = .ok (.ifCond .lt 15, 3) := by decide +kernel
theorem dX6_has_4 : decode cX6_has 4 = .ok (.iload_n 1, 1) := by decide +kernel
theorem dX6_has_5 : decode cX6_has 5 = .ok (.aload_n 0, 1) := by decide +kernel
theorem dX6_has_6 : decode cX6_has 6 = .ok (.getfield 15, 3) := by decide +kernel
theorem dX6_has_9 : decode cX6_has 9 = .ok (.if_icmp .ge 7, 3) := by decide +kernel
theorem dX6_has_12 : decode cX6_has 12 = .ok (.iconst 1, 1) := by decide +kernel
theorem dX6_has_13 : decode cX6_has 13 = .ok (.goto 4, 3) := by decide +kernel
theorem dX6_has_16 : decode cX6_has 16 = .ok (.iconst 0, 1) := by decide +kernel
theorem dX6_has_17 : decode cX6_has 17 = .ok (.ireturn, 1) := by decide +kernel
theorem dX6_token_0 : decode cX6_token 0 = .ok (.iload_n 1, 1) := by decide +kernel
theorem dX6_token_1 : decode cX6_token 1 = .ok (.ifCond .lt 20, 3) := by decide +kernel
theorem dX6_token_4 : decode cX6_token 4 = .ok (.iload_n 1, 1) := by decide +kernel
theorem dX6_token_5 : decode cX6_token 5 = .ok (.aload_n 0, 1) := by decide +kernel
theorem dX6_token_6 : decode cX6_token 6 = .ok (.getfield 15, 3) := by decide +kernel
theorem dX6_token_9 : decode cX6_token 9 = .ok (.if_icmp .ge 12, 3) := by decide +kernel
theorem dX6_token_12 : decode cX6_token 12 = .ok (.aload_n 0, 1) := by decide +kernel
theorem dX6_token_13 : decode cX6_token 13 = .ok (.getfield 9, 3) := by decide +kernel
theorem dX6_token_16 : decode cX6_token 16 = .ok (.iload_n 1, 1) := by decide +kernel
theorem dX6_token_17 : decode cX6_token 17 = .ok (.iaload, 1) := by decide +kernel
theorem dX6_token_18 : decode cX6_token 18 = .ok (.goto 4, 3) := by decide +kernel
theorem dX6_token_21 : decode cX6_token 21 = .ok (.iconst (-1), 1) := by decide +kernel
theorem dX6_token_22 : decode cX6_token 22 = .ok (.ireturn, 1) := by decide +kernel
theorem dX6_clear_0 : decode cX6_clear 0 = .ok (.aload_n 0, 1) := by decide +kernel
theorem dX6_clear_1 : decode cX6_clear 1 = .ok (.iconst 0, 1) := by decide +kernel
theorem dX6_clear_2 : decode cX6_clear 2 = .ok (.putfield 15, 3) := by decide +kernel
theorem dX6_clear_5 : decode cX6_clear 5 = .ok (.aload_n 0, 1) := by decide +kernel
theorem dX6_clear_6 : decode cX6_clear 6 = .ok (.iconst 0, 1) := by decide +kernel
theorem dX6_clear_7 : decode cX6_clear 7 = .ok (.putfield 19, 3) := by decide +kernel
theorem dX6_clear_10 : decode cX6_clear 10 = .ok (.return_, 1) := by decide +kernel
theorem dX6_add_0 : decode cX6_add 0 = .ok (.aload_n 0, 1) := by decide +kernel
theorem dX6_add_1 : decode cX6_add 1 = .ok (.getfield 15, 3) := by decide +kernel
theorem dX6_add_4 : decode cX6_add 4 = .ok (.sipush 200, 3) := by decide +kernel
theorem dX6_add_7 : decode cX6_add 7 = .ok (.if_icmp .ge 26, 3) := by decide +kernel
theorem dX6_add_10 : decode cX6_add 10 = .ok (.aload_n 0, 1) := by decide +kernel
theorem dX6_add_11 : decode cX6_add 11 = .ok (.getfield 9, 3) := by decide +kernel
theorem dX6_add_14 : decode cX6_add 14 = .ok (.aload_n 0, 1) := by decide +kernel
theorem dX6_add_15 : decode cX6_add 15 = .ok (.getfield 15, 3) := by decide +kernel
theorem dX6_add_18 : decode cX6_add 18 = .ok (.iload_n 1, 1) := by decide +kernel
theorem dX6_add_19 : decode cX6_add 19 = .ok (.iastore, 1) := by decide +kernel
theorem dX6_add_20 : decode cX6_add 20 = .ok (.aload_n 0, 1) := by decide +kernel
theorem dX6_add_21 : decode cX6_add 21 = .ok (.dup, 1) := by decide +kernel
theorem dX6_add_22 : decode cX6_add 22 = .ok (.getfield 15, 3) := by decide +kernel
theorem dX6_add_25 : decode cX6_add 25 = .ok (.iconst 1, 1) := by decide +kernel
theorem dX6_add_26 : decode cX6_add 26 = .ok (.iadd, 1) := by decide +kernel
theorem dX6_add_27 : decode cX6_add 27 = .ok (.putfield 15, 3) := by decide +kernel
theorem dX6_add_30 : decode cX6_add 30 = .ok (.goto 8, 3) := by decide +kernel
theorem dX6_add_33 : decode cX6_add 33 = .ok (.aload_n 0, 1) := by decide +kernel
theorem dX6_add_34 : decode cX6_add 34 = .ok (.iconst 1, 1) := by decide +kernel
theorem dX6_add_35 : decode cX6_add 35 = .ok (.putfield 19, 3) := by decide +kernel
theorem dX6_add_38 : decode cX6_add 38 = .ok (.return_, 1) := by decide +kernel
theorem dX6_addRange_0 : decode cX6_addRange 0 = .ok (.iload_n 2, 1) := by decide +kernel
theorem dX6_addRange_1 : decode cX6_addRange 1 = .ok (.ifCond .lt 16, 3) := by decide +kernel
theorem dX6_addRange_4 : decode cX6_addRange 4 = .ok (.iload_n 2, 1) := by decide +kernel
theorem dX6_addRange_5 : decode cX6_addRange 5 = .ok (.iload_n 3, 1) := by decide +kernel
theorem dX6_addRange_6 : decode cX6_addRange 6 = .ok (.if_icmp .gt 11, 3) := by decide +kernel
theorem dX6_addRange_9 : decode cX6_addRange 9 = .ok (.iload_n 3, 1) := by decide +kernel
theorem dX6_addRange_10 : decode cX6_addRange 10 = .ok (.aload_n 1, 1) := by decide +kernel
theorem dX6_addRange_11 : decode cX6_addRange 11 = .ok (.getfield 15, 3) := by decide +kernel
theorem dX6_addRange_14 : decode cX6_addRange 14 = .ok (.if_icmp .le 4, 3) := by decide +kernel
theorem dX6_addRange_17 : decode cX6_addRange 17 = .ok (.return_, 1) := by decide +kernel
theorem dX6_addRange_18 : decode cX6_addRange 18 = .ok (.iload_n 3, 1) := by decide +kernel
theorem dX6_addRange_19 : decode cX6_addRange 19 = .ok (.iload_n 2, 1) := by decide +kernel
theorem dX6_addRange_20 : decode cX6_addRange 20 = .ok (.isub, 1) := by decide +kernel
theorem dX6_addRange_21 : decode cX6_addRange 21 = .ok (.istore 4, 2) := by decide +kernel
theorem dX6_addRange_23 : decode cX6_addRange 23 = .ok (.iload 4, 2) := by decide +kernel
theorem dX6_addRange_25 : decode cX6_addRange 25 = .ok (.sipush 200, 3) := by decide +kernel
theorem dX6_addRange_28 : decode cX6_addRange 28 = .ok (.aload_n 0, 1) := by decide +kernel
theorem dX6_addRange_29 : decode cX6_addRange 29 = .ok (.getfield 15, 3) := by decide +kernel
theorem dX6_addRange_32 : decode cX6_addRange 32 = .ok (.isub, 1) := by decide +kernel
theorem dX6_addRange_33 : decode cX6_addRange 33 = .ok (.if_icmp .le 9, 3) := by decide +kernel
theorem dX6_addRange_36 : decode cX6_addRange 36 = .ok (.aload_n 0, 1) := by decide +kernel
theorem dX6_addRange_37 : decode cX6_addRange 37 = .ok (.iconst 1, 1) := by decide +kernel
theorem dX6_addRange_38 : decode cX6_addRange 38 = .ok (.putfield 19, 3) := by decide +kernel
theorem dX6_addRange_41 : decode cX6_addRange 41 = .ok (.return_, 1) := by decide +kernel
theorem dX6_addRange_42 : decode cX6_addRange 42 = .ok (.aload_n 1, 1) := by decide +kernel
theorem dX6_addRange_43 : decode cX6_addRange 43 = .ok (.getfield 9, 3) := by decide +kernel
theorem dX6_addRange_46 : decode cX6_addRange 46 = .ok (.iload_n 2, 1) := by decide +kernel
theorem dX6_addRange_47 : decode cX6_addRange 47 = .ok (.aload_n 0, 1) := by decide +kernel
theorem dX6_addRange_48 : decode cX6_addRange 48 = .ok (.getfield 9, 3) := by decide +kernel
theorem dX6_addRange_51 : decode cX6_addRange 51 = .ok (.aload_n 0, 1) := by decide +kernel
theorem dX6_addRange_52 : decode cX6_addRange 52 = .ok (.getfield 15, 3) := by decide +kernel
theorem dX6_addRange_55 : decode cX6_addRange 55 = .ok (.iload 4, 2) := by decide +kernel
theorem dX6_addRange_57 : decode cX6_addRange 57 = .ok (.invokestatic 23, 3) := by decide +kernel
theorem dX6_addRange_60 : decode cX6_addRange 60 = .ok (.aload_n 0, 1) := by decide +kernel
theorem dX6_addRange_61 : decode cX6_addRange 61 = .ok (.dup, 1) := by decide +kernel
theorem dX6_addRange_62 : decode cX6_addRange 62 = .ok (.getfield 15, 3) := by decide +kernel
theorem dX6_addRange_65 : decode cX6_addRange 65 = .ok (.iload 4, 2) := by decide +kernel
theorem dX6_addRange_67 : decode cX6_addRange 67 = .ok (.iadd, 1) := by decide +kernel
theorem dX6_addRange_68 : decode cX6_addRange 68 = .ok (.putfield 15, 3) := by decide +kernel
theorem dX6_addRange_71 : decode cX6_addRange 71 = .ok (.return_, 1) := by decide +kernel
theorem dX6_copyFrom_0 : decode cX6_copyFrom 0 = .ok (.aload_n 1, 1) := by decide +kernel
theorem dX6_copyFrom_1 : decode cX6_copyFrom 1 = .ok (.getfield 9, 3) := by decide +kernel
theorem dX6_copyFrom_4 : decode cX6_copyFrom 4 = .ok (.iconst 0, 1) := by decide +kernel
theorem dX6_copyFrom_5 : decode cX6_copyFrom 5 = .ok (.aload_n 0, 1) := by decide +kernel
theorem dX6_copyFrom_6 : decode cX6_copyFrom 6 = .ok (.getfield 9, 3) := by decide +kernel
theorem dX6_copyFrom_9 : decode cX6_copyFrom 9 = .ok (.iconst 0, 1) := by decide +kernel
theorem dX6_copyFrom_10 : decode cX6_copyFrom 10 = .ok (.aload_n 1, 1) := by decide +kernel
theorem dX6_copyFrom_11 : decode cX6_copyFrom 11 = .ok (.getfield 15, 3) := by decide +kernel
theorem dX6_copyFrom_14 : decode cX6_copyFrom 14 = .ok (.invokestatic 23, 3) := by decide +kernel
theorem dX6_copyFrom_17 : decode cX6_copyFrom 17 = .ok (.aload_n 0, 1) := by decide +kernel
theorem dX6_copyFrom_18 : decode cX6_copyFrom 18 = .ok (.aload_n 1, 1) := by decide +kernel
theorem dX6_copyFrom_19 : decode cX6_copyFrom 19 = .ok (.getfield 15, 3) := by decide +kernel
theorem dX6_copyFrom_22 : decode cX6_copyFrom 22 = .ok (.putfield 15, 3) := by decide +kernel
theorem dX6_copyFrom_25 : decode cX6_copyFrom 25 = .ok (.aload_n 0, 1) := by decide +kernel
theorem dX6_copyFrom_26 : decode cX6_copyFrom 26 = .ok (.aload_n 1, 1) := by decide +kernel
theorem dX6_copyFrom_27 : decode cX6_copyFrom 27 = .ok (.getfield 19, 3) := by decide +kernel
theorem dX6_copyFrom_30 : decode cX6_copyFrom 30 = .ok (.putfield 19, 3) := by decide +kernel
theorem dX6_copyFrom_33 : decode cX6_copyFrom 33 = .ok (.return_, 1) := by decide +kernel
theorem dX6_wrapInAbstraction_0 : decode cX6_wrapInAbstraction 0 = .ok (.aload_n 0, 1) := by decide +kernel
theorem dX6_wrapInAbstraction_1 : decode cX6_wrapInAbstraction 1 = .ok (.getfield 15, 3) := by decide +kernel
theorem dX6_wrapInAbstraction_4 : decode cX6_wrapInAbstraction 4 = .ok (.sipush 200, 3) := by decide +kernel
theorem dX6_wrapInAbstraction_7 : decode cX6_wrapInAbstraction 7 = .ok (.if_icmp .lt 5, 3) := by decide +kernel
theorem dX6_wrapInAbstraction_10 : decode cX6_wrapInAbstraction 10 = .ok (.iconst 0, 1) := by decide +kernel
theorem dX6_wrapInAbstraction_11 : decode cX6_wrapInAbstraction 11 = .ok (.ireturn, 1) := by decide +kernel
theorem dX6_wrapInAbstraction_12 : decode cX6_wrapInAbstraction 12 = .ok (.aload_n 0, 1) := by decide +kernel
theorem dX6_wrapInAbstraction_13 : decode cX6_wrapInAbstraction 13 = .ok (.getfield 9, 3) := by decide +kernel
theorem dX6_wrapInAbstraction_16 : decode cX6_wrapInAbstraction 16 = .ok (.iconst 0, 1) := by decide +kernel
theorem dX6_wrapInAbstraction_17 : decode cX6_wrapInAbstraction 17 = .ok (.aload_n 0, 1) := by decide +kernel
theorem dX6_wrapInAbstraction_18 : decode cX6_wrapInAbstraction 18 = .ok (.getfield 9, 3) := by decide +kernel
theorem dX6_wrapInAbstraction_21 : decode cX6_wrapInAbstraction 21 = .ok (.iconst 1, 1) := by decide +kernel
theorem dX6_wrapInAbstraction_22 : decode cX6_wrapInAbstraction 22 = .ok (.aload_n 0, 1) := by decide +kernel
theorem dX6_wrapInAbstraction_23 : decode cX6_wrapInAbstraction 23 = .ok (.getfield 15, 3) := by decide +kernel
theorem dX6_wrapInAbstraction_26 : decode cX6_wrapInAbstraction 26 = .ok (.invokestatic 23, 3) := by decide +kernel
theorem dX6_wrapInAbstraction_29 : decode cX6_wrapInAbstraction 29 = .ok (.aload_n 0, 1) := by decide +kernel
theorem dX6_wrapInAbstraction_30 : decode cX6_wrapInAbstraction 30 = .ok (.getfield 9, 3) := by decide +kernel
theorem dX6_wrapInAbstraction_33 : decode cX6_wrapInAbstraction 33 = .ok (.iconst 0, 1) := by decide +kernel
theorem dX6_wrapInAbstraction_34 : decode cX6_wrapInAbstraction 34 = .ok (.sipush 1001, 3) := by decide +kernel
theorem dX6_wrapInAbstraction_37 : decode cX6_wrapInAbstraction 37 = .ok (.iastore, 1) := by decide +kernel
theorem dX6_wrapInAbstraction_38 : decode cX6_wrapInAbstraction 38 = .ok (.aload_n 0, 1) := by decide +kernel
theorem dX6_wrapInAbstraction_39 : decode cX6_wrapInAbstraction 39 = .ok (.dup, 1) := by decide +kernel
theorem dX6_wrapInAbstraction_40 : decode cX6_wrapInAbstraction 40 = .ok (.getfield 15, 3) := by decide +kernel
theorem dX6_wrapInAbstraction_43 : decode cX6_wrapInAbstraction 43 = .ok (.iconst 1, 1) := by decide +kernel
theorem dX6_wrapInAbstraction_44 : decode cX6_wrapInAbstraction 44 = .ok (.iadd, 1) := by decide +kernel
theorem dX6_wrapInAbstraction_45 : decode cX6_wrapInAbstraction 45 = .ok (.putfield 15, 3) := by decide +kernel
theorem dX6_wrapInAbstraction_48 : decode cX6_wrapInAbstraction 48 = .ok (.iconst 1, 1) := by decide +kernel
theorem dX6_wrapInAbstraction_49 : decode cX6_wrapInAbstraction 49 = .ok (.ireturn, 1) := by decide +kernel
theorem dX6_hasSameTokens_0 : decode cX6_hasSameTokens 0 = .ok (.aload_n 0, 1) := by decide +kernel
theorem dX6_hasSameTokens_1 : decode cX6_hasSameTokens 1 = .ok (.getfield 15, 3) := by decide +kernel
theorem dX6_hasSameTokens_4 : decode cX6_hasSameTokens 4 = .ok (.aload_n 1, 1) := by decide +kernel
theorem dX6_hasSameTokens_5 : decode cX6_hasSameTokens 5 = .ok (.getfield 15, 3) := by decide +kernel
theorem dX6_hasSameTokens_8 : decode cX6_hasSameTokens 8 = .ok (.if_icmp .eq 5, 3) := by decide +kernel
theorem dX6_hasSameTokens_11 : decode cX6_hasSameTokens 11 = .ok (.iconst 0, 1) := by decide +kernel
theorem dX6_hasSameTokens_12 : decode cX6_hasSameTokens 12 = .ok (.ireturn, 1) := by decide +kernel
theorem dX6_hasSameTokens_13 : decode cX6_hasSameTokens 13 = .ok (.iconst 0, 1) := by decide +kernel
theorem dX6_hasSameTokens_14 : decode cX6_hasSameTokens 14 = .ok (.istore_n 2, 1) := by decide +kernel
theorem dX6_hasSameTokens_15 : decode cX6_hasSameTokens 15 = .ok (.iload_n 2, 1) := by decide +kernel
theorem dX6_hasSameTokens_16 : decode cX6_hasSameTokens 16 = .ok (.aload_n 0, 1) := by decide +kernel
theorem dX6_hasSameTokens_17 : decode cX6_hasSameTokens 17 = .ok (.getfield 15, 3) := by decide +kernel
theorem dX6_hasSameTokens_20 : decode cX6_hasSameTokens 20 = .ok (.if_icmp .ge 26, 3) := by decide +kernel
theorem dX6_hasSameTokens_23 : decode cX6_hasSameTokens 23 = .ok (.aload_n 0, 1) := by decide +kernel
theorem dX6_hasSameTokens_24 : decode cX6_hasSameTokens 24 = .ok (.getfield 9, 3) := by decide +kernel
theorem dX6_hasSameTokens_27 : decode cX6_hasSameTokens 27 = .ok (.iload_n 2, 1) := by decide +kernel
theorem dX6_hasSameTokens_28 : decode cX6_hasSameTokens 28 = .ok (.iaload, 1) := by decide +kernel
theorem dX6_hasSameTokens_29 : decode cX6_hasSameTokens 29 = .ok (.aload_n 1, 1) := by decide +kernel
theorem dX6_hasSameTokens_30 : decode cX6_hasSameTokens 30 = .ok (.getfield 9, 3) := by decide +kernel
theorem dX6_hasSameTokens_33 : decode cX6_hasSameTokens 33 = .ok (.iload_n 2, 1) := by decide +kernel
theorem dX6_hasSameTokens_34 : decode cX6_hasSameTokens 34 = .ok (.iaload, 1) := by decide +kernel
theorem dX6_hasSameTokens_35 : decode cX6_hasSameTokens 35 = .ok (.if_icmp .eq 5, 3) := by decide +kernel
theorem dX6_hasSameTokens_38 : decode cX6_hasSameTokens 38 = .ok (.iconst 0, 1) := by decide +kernel
theorem dX6_hasSameTokens_39 : decode cX6_hasSameTokens 39 = .ok (.ireturn, 1) := by decide +kernel
theorem dX6_hasSameTokens_40 : decode cX6_hasSameTokens 40 = .ok (.iinc 2 1, 3) := by decide +kernel
theorem dX6_hasSameTokens_43 : decode cX6_hasSameTokens 43 = .ok (.goto (-28), 3) := by decide +kernel
theorem dX6_hasSameTokens_46 : decode cX6_hasSameTokens 46 = .ok (.iconst 1, 1) := by decide +kernel
theorem dX6_hasSameTokens_47 : decode cX6_hasSameTokens 47 = .ok (.ireturn, 1) := by decide +kernel
theorem dX7_init_0 : decode cX7_init 0 = .ok (.aload_n 0, 1) := by decide +kernel
theorem dX7_init_1 : decode cX7_init 1 = .ok (.invokespecial 3, 3) := by decide +kernel
theorem dX7_init_4 : decode cX7_init 4 = .ok (.aload_n 0, 1) := by decide +kernel
theorem dX7_init_5 : decode cX7_init 5 = .ok (.bipush 60, 2) := by decide +kernel
theorem dX7_init_7 : decode cX7_init 7 = .ok (.newarray .int, 2) := by decide +kernel
theorem dX7_init_9 : decode cX7_init 9 = .ok (.putfield 9, 3) := by decide +kernel
theorem dX7_init_12 : decode cX7_init 12 = .ok (.aload_n 0, 1) := by decide +kernel
theorem dX7_init_13 : decode cX7_init 13 = .ok (.iconst 0, 1) := by decide +kernel
theorem dX7_init_14 : decode cX7_init 14 = .ok (.putfield 15, 3) := by decide +kernel
theorem dX7_init_17 : decode cX7_init 17 = .ok (.return_, 1) := by decide +kernel
theorem dX7_length_0 : decode cX7_length 0 = .ok (.aload_n 0, 1) := by decide +kernel
theorem dX7_length_1 : decode cX7_length 1 = .ok (.getfield 15, 3) := by decide +kernel
theorem dX7_length_4 : decode cX7_length 4 = .ok (.ireturn, 1) := by decide +kernel
theorem dX7_put_0 : decode cX7_put 0 = .ok (.aload_n 0, 1) := by decide +kernel
theorem dX7_put_1 : decode cX7_put 1 = .ok (.getfield 15, 3) := by decide +kernel
theorem dX7_put_4 : decode cX7_put 4 = .ok (.bipush 60, 2) := by decide +kernel
theorem dX7_put_6 : decode cX7_put 6 = .ok (.if_icmp .lt 5, 3) := by decide +kernel
theorem dX7_put_9 : decode cX7_put 9 = .ok (.iconst 0, 1) := by decide +kernel
theorem dX7_put_10 : decode cX7_put 10 = .ok (.ireturn, 1) := by decide +kernel
theorem dX7_put_11 : decode cX7_put 11 = .ok (.aload_n 0, 1) := by decide +kernel
theorem dX7_put_12 : decode cX7_put 12 = .ok (.getfield 9, 3) := by decide +kernel
theorem dX7_put_15 : decode cX7_put 15 = .ok (.aload_n 0, 1) := by decide +kernel
theorem dX7_put_16 : decode cX7_put 16 = .ok (.getfield 15, 3) := by decide +kernel
theorem dX7_put_19 : decode cX7_put 19 = .ok (.iload_n 1, 1) := by decide +kernel
theorem dX7_put_20 : decode cX7_put 20 = .ok (.iastore, 1) := by decide +kernel
theorem dX7_put_21 : decode cX7_put 21 = .ok (.aload_n 0, 1) := by decide +kernel
theorem dX7_put_22 : decode cX7_put 22 = .ok (.dup, 1) := by decide +kernel
theorem dX7_put_23 : decode cX7_put 23 = .ok (.getfield 15, 3) := by decide +kernel
theorem dX7_put_26 : decode cX7_put 26 = .ok (.iconst 1, 1) := by decide +kernel
theorem dX7_put_27 : decode cX7_put 27 = .ok (.iadd, 1) := by decide +kernel
theorem dX7_put_28 : decode cX7_put 28 = .ok (.putfield 15, 3) := by decide +kernel
theorem dX7_put_31 : decode cX7_put 31 = .ok (.iconst 1, 1) := by decide +kernel
theorem dX7_put_32 : decode cX7_put 32 = .ok (.ireturn, 1) := by decide +kernel
theorem dX7_clear_0 : decode cX7_clear 0 = .ok (.aload_n 0, 1) := by decide +kernel
theorem dX7_clear_1 : decode cX7_clear 1 = .ok (.iconst 0, 1) := by decide +kernel
theorem dX7_clear_2 : decode cX7_clear 2 = .ok (.putfield 15, 3) := by decide +kernel
theorem dX7_clear_5 : decode cX7_clear 5 = .ok (.return_, 1) := by decide +kernel
theorem dX7_firstError_0 : decode cX7_firstError 0 = .ok (.iconst 1, 1) := by decide +kernel
theorem dX7_firstError_1 : decode cX7_firstError 1 = .ok (.istore_n 1, 1) := by decide +kernel
theorem dX7_firstError_2 : decode cX7_firstError 2 = .ok (.iconst 0, 1) := by decide +kernel
theorem dX7_firstError_3 : decode cX7_firstError 3 = .ok (.istore_n 2, 1) := by decide +kernel
theorem dX7_firstError_4 : decode cX7_firstError 4 = .ok (.iload_n 2, 1) := by decide +kernel
theorem dX7_firstError_5 : decode cX7_firstError 5 = .ok (.aload_n 0, 1) := by decide +kernel
theorem dX7_firstError_6 : decode cX7_firstError 6 = .ok (.getfield 15, 3) := by decide +kernel
theorem dX7_firstError_9 : decode cX7_firstError 9 = .ok (.if_icmp .ge 39, 3) := by decide +kernel
theorem dX7_firstError_12 : decode cX7_firstError 12 = .ok (.aload_n 0, 1) := by decide +kernel
theorem dX7_firstError_13 : decode cX7_firstError 13 = .ok (.getfield 9, 3) := by decide +kernel
theorem dX7_firstError_16 : decode cX7_firstError 16 = .ok (.iload_n 2, 1) := by decide +kernel
theorem dX7_firstError_17 : decode cX7_firstError 17 = .ok (.iaload, 1) := by decide +kernel
theorem dX7_firstError_18 : decode cX7_firstError 18 = .ok (.invokestatic 19, 3) := by decide +kernel
theorem dX7_firstError_21 : decode cX7_firstError 21 = .ok (.istore_n 3, 1) := by decide +kernel
theorem dX7_firstError_22 : decode cX7_firstError 22 = .ok (.iload_n 1, 1) := by decide +kernel
theorem dX7_firstError_23 : decode cX7_firstError 23 = .ok (.ifCond .eq 8, 3) := by decide +kernel
theorem dX7_firstError_26 : decode cX7_firstError 26 = .ok (.iload_n 3, 1) := by decide +kernel
theorem dX7_firstError_27 : decode cX7_firstError 27 = .ok (.iconst (-1), 1) := by decide +kernel
theorem dX7_firstError_28 : decode cX7_firstError 28 = .ok (.if_icmp .ne 5, 3) := by decide +kernel
theorem dX7_firstError_31 : decode cX7_firstError 31 = .ok (.iload_n 2, 1) := by decide +kernel
theorem dX7_firstError_32 : decode cX7_firstError 32 = .ok (.ireturn, 1) := by decide +kernel
theorem dX7_firstError_33 : decode cX7_firstError 33 = .ok (.iload_n 1, 1) := by decide +kernel
theorem dX7_firstError_34 : decode cX7_firstError 34 = .ok (.iload_n 3, 1) := by decide +kernel
theorem dX7_firstError_35 : decode cX7_firstError 35 = .ok (.invokestatic 23, 3) := by decide +kernel
theorem dX7_firstError_38 : decode cX7_firstError 38 = .ok (.iconst 1, 1) := by decide +kernel
theorem dX7_firstError_39 : decode cX7_firstError 39 = .ok (.isub, 1) := by decide +kernel
theorem dX7_firstError_40 : decode cX7_firstError 40 = .ok (.iadd, 1) := by decide +kernel
theorem dX7_firstError_41 : decode cX7_firstError 41 = .ok (.istore_n 1, 1) := by decide +kernel
theorem dX7_firstError_42 : decode cX7_firstError 42 = .ok (.iinc 2 1, 3) := by decide +kernel
theorem dX7_firstError_45 : decode cX7_firstError 45 = .ok (.goto (-41), 3) := by decide +kernel
theorem dX7_firstError_48 : decode cX7_firstError 48 = .ok (.iload_n 1, 1) := by decide +kernel
theorem dX7_firstError_49 : decode cX7_firstError 49 = .ok (.ifCond .ne 8, 3) := by decide +kernel
theorem dX7_firstError_52 : decode cX7_firstError 52 = .ok (.bipush (-9), 2) := by decide +kernel
theorem dX7_firstError_54 : decode cX7_firstError 54 = .ok (.goto 7, 3) := by decide +kernel
theorem dX7_firstError_57 : decode cX7_firstError 57 = .ok (.aload_n 0, 1) := by decide +kernel
theorem dX7_firstError_58 : decode cX7_firstError 58 = .ok (.getfield 15, 3) := by decide +kernel
theorem dX7_firstError_61 : decode cX7_firstError 61 = .ok (.ireturn, 1) := by decide +kernel
theorem dX7_writeTo_0 : decode cX7_writeTo 0 = .ok (.aload_n 1, 1) := by decide +kernel
theorem dX7_writeTo_1 : decode cX7_writeTo 1 = .ok (.invokevirtual 26, 3) := by decide +kernel
theorem dX7_writeTo_4 : decode cX7_writeTo 4 = .ok (.iconst 0, 1) := by decide +kernel
theorem dX7_writeTo_5 : decode cX7_writeTo 5 = .ok (.istore_n 2, 1) := by decide +kernel
theorem dX7_writeTo_6 : decode cX7_writeTo 6 = .ok (.iload_n 2, 1) := by decide +kernel
theorem dX7_writeTo_7 : decode cX7_writeTo 7 = .ok (.aload_n 0, 1) := by decide +kernel
theorem dX7_writeTo_8 : decode cX7_writeTo 8 = .ok (.getfield 15, 3) := by decide +kernel
theorem dX7_writeTo_11 : decode cX7_writeTo 11 = .ok (.if_icmp .ge 22, 3) := by decide +kernel
theorem dX7_writeTo_14 : decode cX7_writeTo 14 = .ok (.aload_n 1, 1) := by decide +kernel
theorem dX7_writeTo_15 : decode cX7_writeTo 15 = .ok (.aload_n 0, 1) := by decide +kernel
theorem dX7_writeTo_16 : decode cX7_writeTo 16 = .ok (.getfield 9, 3) := by decide +kernel
theorem dX7_writeTo_19 : decode cX7_writeTo 19 = .ok (.iload_n 2, 1) := by decide +kernel
theorem dX7_writeTo_20 : decode cX7_writeTo 20 = .ok (.iaload, 1) := by decide +kernel
theorem dX7_writeTo_21 : decode cX7_writeTo 21 = .ok (.invokestatic 19, 3) := by decide +kernel
theorem dX7_writeTo_24 : decode cX7_writeTo 24 = .ok (.invokevirtual 31, 3) := by decide +kernel
theorem dX7_writeTo_27 : decode cX7_writeTo 27 = .ok (.iinc 2 1, 3) := by decide +kernel
theorem dX7_writeTo_30 : decode cX7_writeTo 30 = .ok (.goto (-24), 3) := by decide +kernel
theorem dX7_writeTo_33 : decode cX7_writeTo 33 = .ok (.return_, 1) := by decide +kernel
theorem dX7_tokenOf_0 : decode cX7_tokenOf 0 = .ok (.iload_n 0, 1) := by decide +kernel
theorem dX7_tokenOf_1 : decode cX7_tokenOf 1 = .ok (.bipush 76, 2) := by decide +kernel
theorem dX7_tokenOf_3 : decode cX7_tokenOf 3 = .ok (.if_icmp .ne 7, 3) := by decide +kernel
theorem dX7_tokenOf_6 : decode cX7_tokenOf 6 = .ok (.sipush 1001, 3) := by decide +kernel
theorem dX7_tokenOf_9 : decode cX7_tokenOf 9 = .ok (.ireturn, 1) := by decide +kernel
theorem dX7_tokenOf_10 : decode cX7_tokenOf 10 = .ok (.iload_n 0, 1) := by decide +kernel
theorem dX7_tokenOf_11 : decode cX7_tokenOf 11 = .ok (.bipush 64, 2) := by decide +kernel
theorem dX7_tokenOf_13 : decode cX7_tokenOf 13 = .ok (.if_icmp .ne 7, 3) := by decide +kernel
theorem dX7_tokenOf_16 : decode cX7_tokenOf 16 = .ok (.sipush 1000, 3) := by decide +kernel
theorem dX7_tokenOf_19 : decode cX7_tokenOf 19 = .ok (.ireturn, 1) := by decide +kernel
theorem dX7_tokenOf_20 : decode cX7_tokenOf 20 = .ok (.iload_n 0, 1) := by decide +kernel
theorem dX7_tokenOf_21 : decode cX7_tokenOf 21 = .ok (.bipush 48, 2) := by decide +kernel
theorem dX7_tokenOf_23 : decode cX7_tokenOf 23 = .ok (.if_icmp .lt 16, 3) := by decide +kernel
theorem dX7_tokenOf_26 : decode cX7_tokenOf 26 = .ok (.iload_n 0, 1) := by decide +kernel
theorem dX7_tokenOf_27 : decode cX7_tokenOf 27 = .ok (.bipush 57, 2) := by decide +kernel
theorem dX7_tokenOf_29 : decode cX7_tokenOf 29 = .ok (.if_icmp .gt 10, 3) := by decide +kernel
theorem dX7_tokenOf_32 : decode cX7_tokenOf 32 = .ok (.iload_n 0, 1) := by decide +kernel
theorem dX7_tokenOf_33 : decode cX7_tokenOf 33 = .ok (.bipush 48, 2) := by decide +kernel
theorem dX7_tokenOf_35 : decode cX7_tokenOf 35 = .ok (.isub, 1) := by decide +kernel
theorem dX7_tokenOf_36 : decode cX7_tokenOf 36 = .ok (.goto 4, 3) := by decide +kernel
theorem dX7_tokenOf_39 : decode cX7_tokenOf 39 = .ok (.iconst (-1), 1) := by decide +kernel
theorem dX7_tokenOf_40 : decode cX7_tokenOf 40 = .ok (.ireturn, 1) := by decide +kernel
end
section
theorem dX8_init_0 : decode cX8_init 0 = .ok (.aload_n 0, 1) := by decide +kernel
theorem dX8_init_1 : decode cX8_init 1 = .ok (.invokespecial 1, 3) := by decide +kernel
theorem dX8_init_4 : decode cX8_init 4 = .ok (.aload_n 0, 1) := by decide +kernel
theorem dX8_init_5 : decode cX8_init 5 = .ok (.new 7, 3) := by decide +kernel
theorem dX8_init_8 : decode cX8_init 8 = .ok (.dup, 1) := by decide +kernel
theorem dX8_init_9 : decode cX8_init 9 = .ok (.invokespecial 9, 3) := by decide +kernel
theorem dX8_init_12 : decode cX8_init 12 = .ok (.putfield 10, 3) := by decide +kernel
theorem dX8_init_15 : decode cX8_init 15 = .ok (.aload_n 0, 1) := by decide +kernel
theorem dX8_init_16 : decode cX8_init 16 = .ok (.new 7, 3) := by decide +kernel
theorem dX8_init_19 : decode cX8_init 19 = .ok (.dup, 1) := by decide +kernel
theorem dX8_init_20 : decode cX8_init 20 = .ok (.invokespecial 9, 3) := by decide +kernel
theorem dX8_init_23 : decode cX8_init 23 = .ok (.putfield 16, 3) := by decide +kernel
theorem dX8_init_26 : decode cX8_init 26 = .ok (.aload_n 0, 1) := by decide +kernel
theorem dX8_init_27 : decode cX8_init 27 = .ok (.new 7, 3) := by decide +kernel
theorem dX8_init_30 : decode cX8_init 30 = .ok (.dup, 1) := by decide +kernel
theorem dX8_init_31 : decode cX8_init 31 = .ok (.invokespecial 9, 3) := by decide +kernel
theorem dX8_init_34 : decode cX8_init 34 = .ok (.putfield 19, 3) := by decide +kernel
theorem dX8_init_37 : decode cX8_init 37 = .ok (.aload_n 0, 1) := by decide +kernel
theorem dX8_init_38 : decode cX8_init 38 = .ok (.new 7, 3) := by decide +kernel
theorem dX8_init_41 : decode cX8_init 41 = .ok (.dup, 1) := by decide +kernel
theorem dX8_init_42 : decode cX8_init 42 = .ok (.invokespecial 9, 3) := by decide +kernel
theorem dX8_init_45 : decode cX8_init 45 = .ok (.putfield 22, 3) := by decide +kernel
theorem dX8_init_48 : decode cX8_init 48 = .ok (.aload_n 0, 1) := by decide +kernel
theorem dX8_init_49 : decode cX8_init 49 = .ok (.new 7, 3) := by decide +kernel
theorem dX8_init_52 : decode cX8_init 52 = .ok (.dup, 1) := by decide +kernel
theorem dX8_init_53 : decode cX8_init 53 = .ok (.invokespecial 9, 3) := by decide +kernel
theorem dX8_init_56 : decode cX8_init 56 = .ok (.putfield 25, 3) := by decide +kernel
theorem dX8_init_59 : decode cX8_init 59 = .ok (.aload_n 0, 1) := by decide +kernel
theorem dX8_init_60 : decode cX8_init 60 = .ok (.new 28, 3) := by decide +kernel
theorem dX8_init_63 : decode cX8_init 63 = .ok (.dup, 1) := by decide +kernel
theorem dX8_init_64 : decode cX8_init 64 = .ok (.invokespecial 30, 3) := by decide +kernel
theorem dX8_init_67 : decode cX8_init 67 = .ok (.putfield 31, 3) := by decide +kernel
theorem dX8_init_70 : decode cX8_init 70 = .ok (.aload_n 0, 1) := by decide +kernel
theorem dX8_init_71 : decode cX8_init 71 = .ok (.new 35, 3) := by decide +kernel
theorem dX8_init_74 : decode cX8_init 74 = .ok (.dup, 1) := by decide +kernel
theorem dX8_init_75 : decode cX8_init 75 = .ok (.invokespecial 37, 3) := by decide +kernel
theorem dX8_init_78 : decode cX8_init 78 = .ok (.putfield 38, 3) := by decide +kernel
theorem dX8_init_81 : decode cX8_init 81 = .ok (.aload_n 0, 1) := by decide +kernel
theorem dX8_init_82 : decode cX8_init 82 = .ok (.new 42, 3) := by decide +kernel
theorem dX8_init_85 : decode cX8_init 85 = .ok (.dup, 1) := by decide +kernel
theorem dX8_init_86 : decode cX8_init 86 = .ok (.invokespecial 44, 3) := by decide +kernel
theorem dX8_init_89 : decode cX8_init 89 = .ok (.putfield 45, 3) := by decide +kernel
theorem dX8_init_92 : decode cX8_init 92 = .ok (.aload_n 0, 1) := by decide +kernel
theorem dX8_init_93 : decode cX8_init 93 = .ok (.new 49, 3) := by decide +kernel
theorem dX8_init_96 : decode cX8_init 96 = .ok (.dup, 1) := by decide +kernel
theorem dX8_init_97 : decode cX8_init 97 = .ok (.invokespecial 51, 3) := by decide +kernel
theorem dX8_init_100 : decode cX8_init 100 = .ok (.putfield 52, 3) := by decide +kernel
theorem dX8_init_103 : decode cX8_init 103 = .ok (.aload_n 0, 1) := by decide +kernel
theorem dX8_init_104 : decode cX8_init 104 = .ok (.new 56, 3) := by decide +kernel
theorem dX8_init_107 : decode cX8_init 107 = .ok (.dup, 1) := by decide +kernel
theorem dX8_init_108 : decode cX8_init 108 = .ok (.invokespecial 58, 3) := by decide +kernel
theorem dX8_init_111 : decode cX8_init 111 = .ok (.putfield 59, 3) := by decide +kernel
theorem dX8_init_114 : decode cX8_init 114 = .ok (.aload_n 0, 1) := by decide +kernel
theorem dX8_init_115 : decode cX8_init 115 = .ok (.new 63, 3) := by decide +kernel
theorem dX8_init_118 : decode cX8_init 118 = .ok (.dup, 1) := by decide +kernel
theorem dX8_init_119 : decode cX8_init 119 = .ok (.invokespecial 65, 3) := by decide +kernel
theorem dX8_init_122 : decode cX8_init 122 = .ok (.putfield 66, 3) := by decide +kernel
theorem dX8_init_125 : decode cX8_init 125 = .ok (.aload_n 0, 1) := by decide +kernel
theorem dX8_init_126 : decode cX8_init 126 = .ok (.lconst 0, 1) := by decide +kernel
theorem dX8_init_127 : decode cX8_init 127 = .ok (.putfield 70, 3) := by decide +kernel
theorem dX8_init_130 : decode cX8_init 130 = .ok (.aload_n 0, 1) := by decide +kernel
theorem dX8_init_131 : decode cX8_init 131 = .ok (.getfield 10, 3) := by decide +kernel
theorem dX8_init_134 : decode cX8_init 134 = .ok (.iconst 0, 1) := by decide +kernel
theorem dX8_init_135 : decode cX8_init 135 = .ok (.invokevirtual 74, 3) := by decide +kernel
theorem dX8_init_138 : decode cX8_init 138 = .ok (.return_, 1) := by decide +kernel
theorem dX8_append_0 : decode cX8_append 0 = .ok (.iload_n 1, 1) := by decide +kernel
theorem dX8_append_1 : decode cX8_append 1 = .ok (.ifCond .lt 10, 3) := by decide +kernel
theorem dX8_append_4 : decode cX8_append 4 = .ok (.iload_n 1, 1) := by decide +kernel
theorem dX8_append_5 : decode cX8_append 5 = .ok (.sipush 255, 3) := by decide +kernel
theorem dX8_append_8 : decode cX8_append 8 = .ok (.if_icmp .le 6, 3) := by decide +kernel
theorem dX8_append_11 : decode cX8_append 11 = .ok (.bipush (-2), 2) := by decide +kernel
theorem dX8_append_13 : decode cX8_append 13 = .ok (.ireturn, 1) := by decide +kernel
theorem dX8_append_14 : decode cX8_append 14 = .ok (.aload_n 0, 1) := by decide +kernel
theorem dX8_append_15 : decode cX8_append 15 = .ok (.getfield 59, 3) := by decide +kernel
theorem dX8_append_18 : decode cX8_append 18 = .ok (.iload_n 1, 1) := by decide +kernel
theorem dX8_append_19 : decode cX8_append 19 = .ok (.invokevirtual 78, 3) := by decide +kernel
theorem dX8_append_22 : decode cX8_append 22 = .ok (.ifCond .eq 13, 3) := by decide +kernel
theorem dX8_append_25 : decode cX8_append 25 = .ok (.aload_n 0, 1) := by decide +kernel
theorem dX8_append_26 : decode cX8_append 26 = .ok (.getfield 59, 3) := by decide +kernel
theorem dX8_append_29 : decode cX8_append 29 = .ok (.invokevirtual 82, 3) := by decide +kernel
theorem dX8_append_32 : decode cX8_append 32 = .ok (.goto 5, 3) := by decide +kernel
theorem dX8_append_35 : decode cX8_append 35 = .ok (.bipush (-4), 2) := by decide +kernel
theorem dX8_append_37 : decode cX8_append 37 = .ok (.ireturn, 1) := by decide +kernel
theorem dX8_clearText_0 : decode cX8_clearText 0 = .ok (.aload_n 0, 1) := by decide +kernel
theorem dX8_clearText_1 : decode cX8_clearText 1 = .ok (.getfield 59, 3) := by decide +kernel
theorem dX8_clearText_4 : decode cX8_clearText 4 = .ok (.invokevirtual 82, 3) := by decide +kernel
theorem dX8_clearText_7 : decode cX8_clearText 7 = .ok (.istore_n 1, 1) := by decide +kernel
theorem dX8_clearText_8 : decode cX8_clearText 8 = .ok (.aload_n 0, 1) := by decide +kernel
theorem dX8_clearText_9 : decode cX8_clearText 9 = .ok (.getfield 59, 3) := by decide +kernel
theorem dX8_clearText_12 : decode cX8_clearText 12 = .ok (.invokevirtual 86, 3) := by decide +kernel
theorem dX8_clearText_15 : decode cX8_clearText 15 = .ok (.iload_n 1, 1) := by decide +kernel
theorem dX8_clearText_16 : decode cX8_clearText 16 = .ok (.ireturn, 1) := by decide +kernel
theorem dX8_errorPosition_0 : decode cX8_errorPosition 0 = .ok (.aload_n 0, 1) := by decide +kernel
theorem dX8_errorPosition_1 : decode cX8_errorPosition 1 = .ok (.getfield 59, 3) := by decide +kernel
theorem dX8_errorPosition_4 : decode cX8_errorPosition 4 = .ok (.invokevirtual 89, 3) := by decide +kernel
theorem dX8_errorPosition_7 : decode cX8_errorPosition 7 = .ok (.ireturn, 1) := by decide +kernel
theorem dX8_load_0 : decode cX8_load 0 = .ok (.aload_n 0, 1) := by decide +kernel
theorem dX8_load_1 : decode cX8_load 1 = .ok (.getfield 59, 3) := by decide +kernel
theorem dX8_load_4 : decode cX8_load 4 = .ok (.invokevirtual 89, 3) := by decide +kernel
theorem dX8_load_7 : decode cX8_load 7 = .ok (.bipush (-9), 2) := by decide +kernel
theorem dX8_load_9 : decode cX8_load 9 = .ok (.if_icmp .eq 6, 3) := by decide +kernel
theorem dX8_load_12 : decode cX8_load 12 = .ok (.bipush (-3), 2) := by decide +kernel
theorem dX8_load_14 : decode cX8_load 14 = .ok (.ireturn, 1) := by decide +kernel
theorem dX8_load_15 : decode cX8_load 15 = .ok (.aload_n 0, 1) := by decide +kernel
theorem dX8_load_16 : decode cX8_load 16 = .ok (.getfield 59, 3) := by decide +kernel
theorem dX8_load_19 : decode cX8_load 19 = .ok (.aload_n 0, 1) := by decide +kernel
theorem dX8_load_20 : decode cX8_load 20 = .ok (.getfield 10, 3) := by decide +kernel
theorem dX8_load_23 : decode cX8_load 23 = .ok (.invokevirtual 92, 3) := by decide +kernel
theorem dX8_load_26 : decode cX8_load 26 = .ok (.aload_n 0, 1) := by decide +kernel
theorem dX8_load_27 : decode cX8_load 27 = .ok (.getfield 52, 3) := by decide +kernel
theorem dX8_load_30 : decode cX8_load 30 = .ok (.invokevirtual 96, 3) := by decide +kernel
theorem dX8_load_33 : decode cX8_load 33 = .ok (.aload_n 0, 1) := by decide +kernel
theorem dX8_load_34 : decode cX8_load 34 = .ok (.getfield 22, 3) := by decide +kernel
theorem dX8_load_37 : decode cX8_load 37 = .ok (.invokevirtual 99, 3) := by decide +kernel
theorem dX8_load_40 : decode cX8_load 40 = .ok (.aload_n 0, 1) := by decide +kernel
theorem dX8_load_41 : decode cX8_load 41 = .ok (.getfield 25, 3) := by decide +kernel
theorem dX8_load_44 : decode cX8_load 44 = .ok (.invokevirtual 99, 3) := by decide +kernel
theorem dX8_load_47 : decode cX8_load 47 = .ok (.aload_n 0, 1) := by decide +kernel
theorem dX8_load_48 : decode cX8_load 48 = .ok (.getfield 10, 3) := by decide +kernel
theorem dX8_load_51 : decode cX8_load 51 = .ok (.invokevirtual 100, 3) := by decide +kernel
theorem dX8_load_54 : decode cX8_load 54 = .ok (.ireturn, 1) := by decide +kernel
theorem dX8_size_0 : decode cX8_size 0 = .ok (.aload_n 0, 1) := by decide +kernel
theorem dX8_size_1 : decode cX8_size 1 = .ok (.getfield 10, 3) := by decide +kernel
theorem dX8_size_4 : decode cX8_size 4 = .ok (.invokevirtual 100, 3) := by decide +kernel
theorem dX8_size_7 : decode cX8_size 7 = .ok (.ireturn, 1) := by decide +kernel
theorem dX8_tokenAt_0 : decode cX8_tokenAt 0 = .ok (.aload_n 0, 1) := by decide +kernel
theorem dX8_tokenAt_1 : decode cX8_tokenAt 1 = .ok (.getfield 10, 3) := by decide +kernel
theorem dX8_tokenAt_4 : decode cX8_tokenAt 4 = .ok (.iload_n 1, 1) := by decide +kernel
theorem dX8_tokenAt_5 : decode cX8_tokenAt 5 = .ok (.invokevirtual 101, 3) := by decide +kernel
theorem dX8_tokenAt_8 : decode cX8_tokenAt 8 = .ok (.ifCond .eq 14, 3) := by decide +kernel
theorem dX8_tokenAt_11 : decode cX8_tokenAt 11 = .ok (.aload_n 0, 1) := by decide +kernel
theorem dX8_tokenAt_12 : decode cX8_tokenAt 12 = .ok (.getfield 10, 3) := by decide +kernel
theorem dX8_tokenAt_15 : decode cX8_tokenAt 15 = .ok (.iload_n 1, 1) := by decide +kernel
theorem dX8_tokenAt_16 : decode cX8_tokenAt 16 = .ok (.invokevirtual 104, 3) := by decide +kernel
theorem dX8_tokenAt_19 : decode cX8_tokenAt 19 = .ok (.goto 4, 3) := by decide +kernel
theorem dX8_tokenAt_22 : decode cX8_tokenAt 22 = .ok (.iconst (-1), 1) := by decide +kernel
theorem dX8_tokenAt_23 : decode cX8_tokenAt 23 = .ok (.ireturn, 1) := by decide +kernel
theorem dX8_nameAt_0 : decode cX8_nameAt 0 = .ok (.aload_n 0, 1) := by decide +kernel
theorem dX8_nameAt_1 : decode cX8_nameAt 1 = .ok (.getfield 10, 3) := by decide +kernel
theorem dX8_nameAt_4 : decode cX8_nameAt 4 = .ok (.iload_n 1, 1) := by decide +kernel
theorem dX8_nameAt_5 : decode cX8_nameAt 5 = .ok (.invokevirtual 101, 3) := by decide +kernel
theorem dX8_nameAt_8 : decode cX8_nameAt 8 = .ok (.ifCond .ne 5, 3) := by decide +kernel
theorem dX8_nameAt_11 : decode cX8_nameAt 11 = .ok (.iconst (-1), 1) := by decide +kernel
theorem dX8_nameAt_12 : decode cX8_nameAt 12 = .ok (.ireturn, 1) := by decide +kernel
theorem dX8_nameAt_13 : decode cX8_nameAt 13 = .ok (.aload_n 0, 1) := by decide +kernel
theorem dX8_nameAt_14 : decode cX8_nameAt 14 = .ok (.getfield 10, 3) := by decide +kernel
theorem dX8_nameAt_17 : decode cX8_nameAt 17 = .ok (.iload_n 1, 1) := by decide +kernel
theorem dX8_nameAt_18 : decode cX8_nameAt 18 = .ok (.invokevirtual 104, 3) := by decide +kernel
theorem dX8_nameAt_21 : decode cX8_nameAt 21 = .ok (.istore_n 2, 1) := by decide +kernel
theorem dX8_nameAt_22 : decode cX8_nameAt 22 = .ok (.iload_n 2, 1) := by decide +kernel
theorem dX8_nameAt_23 : decode cX8_nameAt 23 = .ok (.sipush 1000, 3) := by decide +kernel
theorem dX8_nameAt_26 : decode cX8_nameAt 26 = .ok (.if_icmp .ne 6, 3) := by decide +kernel
theorem dX8_nameAt_29 : decode cX8_nameAt 29 = .ok (.bipush (-9), 2) := by decide +kernel
theorem dX8_nameAt_31 : decode cX8_nameAt 31 = .ok (.ireturn, 1) := by decide +kernel
theorem dX8_nameAt_32 : decode cX8_nameAt 32 = .ok (.aload_n 0, 1) := by decide +kernel
theorem dX8_nameAt_33 : decode cX8_nameAt 33 = .ok (.getfield 31, 3) := by decide +kernel
theorem dX8_nameAt_36 : decode cX8_nameAt 36 = .ok (.aload_n 0, 1) := by decide +kernel
theorem dX8_nameAt_37 : decode cX8_nameAt 37 = .ok (.getfield 10, 3) := by decide +kernel
theorem dX8_nameAt_40 : decode cX8_nameAt 40 = .ok (.invokevirtual 108, 3) := by decide +kernel
theorem dX8_nameAt_43 : decode cX8_nameAt 43 = .ok (.aload_n 0, 1) := by decide +kernel
theorem dX8_nameAt_44 : decode cX8_nameAt 44 = .ok (.getfield 31, 3) := by decide +kernel
theorem dX8_nameAt_47 : decode cX8_nameAt 47 = .ok (.iload_n 1, 1) := by decide +kernel
theorem dX8_nameAt_48 : decode cX8_nameAt 48 = .ok (.invokevirtual 111, 3) := by decide +kernel
theorem dX8_nameAt_51 : decode cX8_nameAt 51 = .ok (.istore_n 3, 1) := by decide +kernel
theorem dX8_nameAt_52 : decode cX8_nameAt 52 = .ok (.iload_n 2, 1) := by decide +kernel
theorem dX8_nameAt_53 : decode cX8_nameAt 53 = .ok (.sipush 1001, 3) := by decide +kernel
theorem dX8_nameAt_56 : decode cX8_nameAt 56 = .ok (.if_icmp .ne 8, 3) := by decide +kernel
theorem dX8_nameAt_59 : decode cX8_nameAt 59 = .ok (.bipush 97, 2) := by decide +kernel
theorem dX8_nameAt_61 : decode cX8_nameAt 61 = .ok (.iload_n 3, 1) := by decide +kernel
theorem dX8_nameAt_62 : decode cX8_nameAt 62 = .ok (.iadd, 1) := by decide +kernel
theorem dX8_nameAt_63 : decode cX8_nameAt 63 = .ok (.ireturn, 1) := by decide +kernel
theorem dX8_nameAt_64 : decode cX8_nameAt 64 = .ok (.iload_n 2, 1) := by decide +kernel
theorem dX8_nameAt_65 : decode cX8_nameAt 65 = .ok (.iload_n 3, 1) := by decide +kernel
theorem dX8_nameAt_66 : decode cX8_nameAt 66 = .ok (.if_icmp .ge 14, 3) := by decide +kernel
theorem dX8_nameAt_69 : decode cX8_nameAt 69 = .ok (.bipush 97, 2) := by decide +kernel
theorem dX8_nameAt_71 : decode cX8_nameAt 71 = .ok (.iload_n 3, 1) := by decide +kernel
theorem dX8_nameAt_72 : decode cX8_nameAt 72 = .ok (.iadd, 1) := by decide +kernel
theorem dX8_nameAt_73 : decode cX8_nameAt 73 = .ok (.iconst 1, 1) := by decide +kernel
theorem dX8_nameAt_74 : decode cX8_nameAt 74 = .ok (.isub, 1) := by decide +kernel
theorem dX8_nameAt_75 : decode cX8_nameAt 75 = .ok (.iload_n 2, 1) := by decide +kernel
theorem dX8_nameAt_76 : decode cX8_nameAt 76 = .ok (.isub, 1) := by decide +kernel
theorem dX8_nameAt_77 : decode cX8_nameAt 77 = .ok (.goto 9, 3) := by decide +kernel
theorem dX8_nameAt_80 : decode cX8_nameAt 80 = .ok (.bipush 65, 2) := by decide +kernel
theorem dX8_nameAt_82 : decode cX8_nameAt 82 = .ok (.iload_n 2, 1) := by decide +kernel
theorem dX8_nameAt_83 : decode cX8_nameAt 83 = .ok (.iadd, 1) := by decide +kernel
theorem dX8_nameAt_84 : decode cX8_nameAt 84 = .ok (.iload_n 3, 1) := by decide +kernel
theorem dX8_nameAt_85 : decode cX8_nameAt 85 = .ok (.isub, 1) := by decide +kernel
theorem dX8_nameAt_86 : decode cX8_nameAt 86 = .ok (.ireturn, 1) := by decide +kernel
theorem dX8_redexCount_0 : decode cX8_redexCount 0 = .ok (.aload_n 0, 1) := by decide +kernel
theorem dX8_redexCount_1 : decode cX8_redexCount 1 = .ok (.getfield 10, 3) := by decide +kernel
theorem dX8_redexCount_4 : decode cX8_redexCount 4 = .ok (.invokestatic 114, 3) := by decide +kernel
theorem dX8_redexCount_7 : decode cX8_redexCount 7 = .ok (.ireturn, 1) := by decide +kernel
theorem dX8_chosenRedex_0 : decode cX8_chosenRedex 0 = .ok (.iload_n 1, 1) := by decide +kernel
theorem dX8_chosenRedex_1 : decode cX8_chosenRedex 1 = .ok (.invokestatic 118, 3) := by decide +kernel
theorem dX8_chosenRedex_4 : decode cX8_chosenRedex 4 = .ok (.ifCond .eq 14, 3) := by decide +kernel
theorem dX8_chosenRedex_7 : decode cX8_chosenRedex 7 = .ok (.aload_n 0, 1) := by decide +kernel
theorem dX8_chosenRedex_8 : decode cX8_chosenRedex 8 = .ok (.getfield 10, 3) := by decide +kernel
theorem dX8_chosenRedex_11 : decode cX8_chosenRedex 11 = .ok (.iload_n 1, 1) := by decide +kernel
theorem dX8_chosenRedex_12 : decode cX8_chosenRedex 12 = .ok (.invokestatic 121, 3) := by decide +kernel
theorem dX8_chosenRedex_15 : decode cX8_chosenRedex 15 = .ok (.goto 5, 3) := by decide +kernel
theorem dX8_chosenRedex_18 : decode cX8_chosenRedex 18 = .ok (.bipush (-2), 2) := by decide +kernel
theorem dX8_chosenRedex_20 : decode cX8_chosenRedex 20 = .ok (.ireturn, 1) := by decide +kernel
theorem dX8_freeVariables_0 : decode cX8_freeVariables 0 = .ok (.aload_n 0, 1) := by decide +kernel
theorem dX8_freeVariables_1 : decode cX8_freeVariables 1 = .ok (.getfield 31, 3) := by decide +kernel
theorem dX8_freeVariables_4 : decode cX8_freeVariables 4 = .ok (.aload_n 0, 1) := by decide +kernel
theorem dX8_freeVariables_5 : decode cX8_freeVariables 5 = .ok (.getfield 10, 3) := by decide +kernel
theorem dX8_freeVariables_8 : decode cX8_freeVariables 8 = .ok (.invokevirtual 108, 3) := by decide +kernel
theorem dX8_freeVariables_11 : decode cX8_freeVariables 11 = .ok (.iconst 0, 1) := by decide +kernel
theorem dX8_freeVariables_12 : decode cX8_freeVariables 12 = .ok (.istore_n 1, 1) := by decide +kernel
theorem dX8_freeVariables_13 : decode cX8_freeVariables 13 = .ok (.iconst 0, 1) := by decide +kernel
theorem dX8_freeVariables_14 : decode cX8_freeVariables 14 = .ok (.istore_n 2, 1) := by decide +kernel
theorem dX8_freeVariables_15 : decode cX8_freeVariables 15 = .ok (.iload_n 2, 1) := by decide +kernel
theorem dX8_freeVariables_16 : decode cX8_freeVariables 16 = .ok (.aload_n 0, 1) := by decide +kernel
theorem dX8_freeVariables_17 : decode cX8_freeVariables 17 = .ok (.getfield 10, 3) := by decide +kernel
theorem dX8_freeVariables_20 : decode cX8_freeVariables 20 = .ok (.invokevirtual 100, 3) := by decide +kernel
theorem dX8_freeVariables_23 : decode cX8_freeVariables 23 = .ok (.if_icmp .ge 51, 3) := by decide +kernel
theorem dX8_freeVariables_26 : decode cX8_freeVariables 26 = .ok (.aload_n 0, 1) := by decide +kernel
theorem dX8_freeVariables_27 : decode cX8_freeVariables 27 = .ok (.getfield 10, 3) := by decide +kernel
theorem dX8_freeVariables_30 : decode cX8_freeVariables 30 = .ok (.iload_n 2, 1) := by decide +kernel
theorem dX8_freeVariables_31 : decode cX8_freeVariables 31 = .ok (.invokevirtual 104, 3) := by decide +kernel
theorem dX8_freeVariables_34 : decode cX8_freeVariables 34 = .ok (.aload_n 0, 1) := by decide +kernel
theorem dX8_freeVariables_35 : decode cX8_freeVariables 35 = .ok (.getfield 31, 3) := by decide +kernel
theorem dX8_freeVariables_38 : decode cX8_freeVariables 38 = .ok (.iload_n 2, 1) := by decide +kernel
theorem dX8_freeVariables_39 : decode cX8_freeVariables 39 = .ok (.invokevirtual 111, 3) := by decide +kernel
theorem dX8_freeVariables_42 : decode cX8_freeVariables 42 = .ok (.isub, 1) := by decide +kernel
theorem dX8_freeVariables_43 : decode cX8_freeVariables 43 = .ok (.istore_n 3, 1) := by decide +kernel
theorem dX8_freeVariables_44 : decode cX8_freeVariables 44 = .ok (.aload_n 0, 1) := by decide +kernel
theorem dX8_freeVariables_45 : decode cX8_freeVariables 45 = .ok (.getfield 10, 3) := by decide +kernel
theorem dX8_freeVariables_48 : decode cX8_freeVariables 48 = .ok (.iload_n 2, 1) := by decide +kernel
theorem dX8_freeVariables_49 : decode cX8_freeVariables 49 = .ok (.invokevirtual 104, 3) := by decide +kernel
theorem dX8_freeVariables_52 : decode cX8_freeVariables 52 = .ok (.invokestatic 125, 3) := by decide +kernel
theorem dX8_freeVariables_55 : decode cX8_freeVariables 55 = .ok (.ifCond .eq 13, 3) := by decide +kernel
theorem dX8_freeVariables_58 : decode cX8_freeVariables 58 = .ok (.iload_n 3, 1) := by decide +kernel
theorem dX8_freeVariables_59 : decode cX8_freeVariables 59 = .ok (.ifCond .lt 9, 3) := by decide +kernel
theorem dX8_freeVariables_62 : decode cX8_freeVariables 62 = .ok (.iload_n 1, 1) := by decide +kernel
theorem dX8_freeVariables_63 : decode cX8_freeVariables 63 = .ok (.iconst 1, 1) := by decide +kernel
theorem dX8_freeVariables_64 : decode cX8_freeVariables 64 = .ok (.iload_n 3, 1) := by decide +kernel
theorem dX8_freeVariables_65 : decode cX8_freeVariables 65 = .ok (.ishl, 1) := by decide +kernel
theorem dX8_freeVariables_66 : decode cX8_freeVariables 66 = .ok (.ior, 1) := by decide +kernel
theorem dX8_freeVariables_67 : decode cX8_freeVariables 67 = .ok (.istore_n 1, 1) := by decide +kernel
theorem dX8_freeVariables_68 : decode cX8_freeVariables 68 = .ok (.iinc 2 1, 3) := by decide +kernel
theorem dX8_freeVariables_71 : decode cX8_freeVariables 71 = .ok (.goto (-56), 3) := by decide +kernel
theorem dX8_freeVariables_74 : decode cX8_freeVariables 74 = .ok (.iload_n 1, 1) := by decide +kernel
theorem dX8_freeVariables_75 : decode cX8_freeVariables 75 = .ok (.ireturn, 1) := by decide +kernel
theorem dX8_step_0 : decode cX8_step 0 = .ok (.iload_n 1, 1) := by decide +kernel
theorem dX8_step_1 : decode cX8_step 1 = .ok (.invokestatic 118, 3) := by decide +kernel
theorem dX8_step_4 : decode cX8_step 4 = .ok (.ifCond .ne 6, 3) := by decide +kernel
theorem dX8_step_7 : decode cX8_step 7 = .ok (.bipush (-2), 2) := by decide +kernel
theorem dX8_step_9 : decode cX8_step 9 = .ok (.ireturn, 1) := by decide +kernel
theorem dX8_step_10 : decode cX8_step 10 = .ok (.aload_n 0, 1) := by decide +kernel
theorem dX8_step_11 : decode cX8_step 11 = .ok (.getfield 10, 3) := by decide +kernel
theorem dX8_step_14 : decode cX8_step 14 = .ok (.iload_n 1, 1) := by decide +kernel
theorem dX8_step_15 : decode cX8_step 15 = .ok (.invokestatic 121, 3) := by decide +kernel
theorem dX8_step_18 : decode cX8_step 18 = .ok (.istore_n 2, 1) := by decide +kernel
theorem dX8_step_19 : decode cX8_step 19 = .ok (.iload_n 2, 1) := by decide +kernel
theorem dX8_step_20 : decode cX8_step 20 = .ok (.bipush (-9), 2) := by decide +kernel
theorem dX8_step_22 : decode cX8_step 22 = .ok (.if_icmp .ne 6, 3) := by decide +kernel
theorem dX8_step_25 : decode cX8_step 25 = .ok (.bipush (-3), 2) := by decide +kernel
theorem dX8_step_27 : decode cX8_step 27 = .ok (.ireturn, 1) := by decide +kernel
theorem dX8_step_28 : decode cX8_step 28 = .ok (.aload_n 0, 1) := by decide +kernel
theorem dX8_step_29 : decode cX8_step 29 = .ok (.getfield 16, 3) := by decide +kernel
theorem dX8_step_32 : decode cX8_step 32 = .ok (.aload_n 0, 1) := by decide +kernel
theorem dX8_step_33 : decode cX8_step 33 = .ok (.getfield 10, 3) := by decide +kernel
theorem dX8_step_36 : decode cX8_step 36 = .ok (.invokevirtual 128, 3) := by decide +kernel
theorem dX8_step_39 : decode cX8_step 39 = .ok (.aload_n 0, 1) := by decide +kernel
theorem dX8_step_40 : decode cX8_step 40 = .ok (.getfield 38, 3) := by decide +kernel
theorem dX8_step_43 : decode cX8_step 43 = .ok (.aload_n 0, 1) := by decide +kernel
theorem dX8_step_44 : decode cX8_step 44 = .ok (.getfield 16, 3) := by decide +kernel
theorem dX8_step_47 : decode cX8_step 47 = .ok (.iload_n 2, 1) := by decide +kernel
theorem dX8_step_48 : decode cX8_step 48 = .ok (.invokevirtual 131, 3) := by decide +kernel
theorem dX8_step_51 : decode cX8_step 51 = .ok (.ifCond .eq 10, 3) := by decide +kernel
theorem dX8_step_54 : decode cX8_step 54 = .ok (.aload_n 0, 1) := by decide +kernel
theorem dX8_step_55 : decode cX8_step 55 = .ok (.invokevirtual 135, 3) := by decide +kernel
theorem dX8_step_58 : decode cX8_step 58 = .ok (.goto 5, 3) := by decide +kernel
theorem dX8_step_61 : decode cX8_step 61 = .ok (.bipush (-4), 2) := by decide +kernel
theorem dX8_step_63 : decode cX8_step 63 = .ok (.ireturn, 1) := by decide +kernel
theorem dX8_run_0 : decode cX8_run 0 = .ok (.iload_n 1, 1) := by decide +kernel
theorem dX8_run_1 : decode cX8_run 1 = .ok (.invokestatic 118, 3) := by decide +kernel
theorem dX8_run_4 : decode cX8_run 4 = .ok (.ifCond .eq 14, 3) := by decide +kernel
theorem dX8_run_7 : decode cX8_run 7 = .ok (.iload_n 2, 1) := by decide +kernel
theorem dX8_run_8 : decode cX8_run 8 = .ok (.iconst 1, 1) := by decide +kernel
theorem dX8_run_9 : decode cX8_run 9 = .ok (.if_icmp .lt 9, 3) := by decide +kernel
theorem dX8_run_12 : decode cX8_run 12 = .ok (.iload_n 2, 1) := by decide +kernel
theorem dX8_run_13 : decode cX8_run 13 = .ok (.bipush 50, 2) := by decide +kernel
theorem dX8_run_15 : decode cX8_run 15 = .ok (.if_icmp .le 6, 3) := by decide +kernel
theorem dX8_run_18 : decode cX8_run 18 = .ok (.bipush (-2), 2) := by decide +kernel
theorem dX8_run_20 : decode cX8_run 20 = .ok (.ireturn, 1) := by decide +kernel
theorem dX8_run_21 : decode cX8_run 21 = .ok (.aload_n 0, 1) := by decide +kernel
theorem dX8_run_22 : decode cX8_run 22 = .ok (.getfield 16, 3) := by decide +kernel
theorem dX8_run_25 : decode cX8_run 25 = .ok (.aload_n 0, 1) := by decide +kernel
theorem dX8_run_26 : decode cX8_run 26 = .ok (.getfield 10, 3) := by decide +kernel
theorem dX8_run_29 : decode cX8_run 29 = .ok (.invokevirtual 128, 3) := by decide +kernel
theorem dX8_run_32 : decode cX8_run 32 = .ok (.aload_n 0, 1) := by decide +kernel
theorem dX8_run_33 : decode cX8_run 33 = .ok (.getfield 38, 3) := by decide +kernel
theorem dX8_run_36 : decode cX8_run 36 = .ok (.aload_n 0, 1) := by decide +kernel
theorem dX8_run_37 : decode cX8_run 37 = .ok (.getfield 16, 3) := by decide +kernel
theorem dX8_run_40 : decode cX8_run 40 = .ok (.iload_n 1, 1) := by decide +kernel
theorem dX8_run_41 : decode cX8_run 41 = .ok (.iload_n 2, 1) := by decide +kernel
theorem dX8_run_42 : decode cX8_run 42 = .ok (.invokevirtual 138, 3) := by decide +kernel
theorem dX8_run_45 : decode cX8_run 45 = .ok (.istore_n 3, 1) := by decide +kernel
theorem dX8_run_46 : decode cX8_run 46 = .ok (.aload_n 0, 1) := by decide +kernel
theorem dX8_run_47 : decode cX8_run 47 = .ok (.invokevirtual 135, 3) := by decide +kernel
theorem dX8_run_50 : decode cX8_run 50 = .ok (.pop, 1) := by decide +kernel
theorem dX8_run_51 : decode cX8_run 51 = .ok (.iload_n 3, 1) := by decide +kernel
theorem dX8_run_52 : decode cX8_run 52 = .ok (.ireturn, 1) := by decide +kernel
theorem dX8_abstractTerm_0 : decode cX8_abstractTerm 0 = .ok (.aload_n 0, 1) := by decide +kernel
theorem dX8_abstractTerm_1 : decode cX8_abstractTerm 1 = .ok (.getfield 16, 3) := by decide +kernel
theorem dX8_abstractTerm_4 : decode cX8_abstractTerm 4 = .ok (.aload_n 0, 1) := by decide +kernel
theorem dX8_abstractTerm_5 : decode cX8_abstractTerm 5 = .ok (.getfield 10, 3) := by decide +kernel
theorem dX8_abstractTerm_8 : decode cX8_abstractTerm 8 = .ok (.invokevirtual 128, 3) := by decide +kernel
theorem dX8_abstractTerm_11 : decode cX8_abstractTerm 11 = .ok (.aload_n 0, 1) := by decide +kernel
theorem dX8_abstractTerm_12 : decode cX8_abstractTerm 12 = .ok (.getfield 16, 3) := by decide +kernel
theorem dX8_abstractTerm_15 : decode cX8_abstractTerm 15 = .ok (.invokevirtual 142, 3) := by decide +kernel
theorem dX8_abstractTerm_18 : decode cX8_abstractTerm 18 = .ok (.ifCond .eq 10, 3) := by decide +kernel
theorem dX8_abstractTerm_21 : decode cX8_abstractTerm 21 = .ok (.aload_n 0, 1) := by decide +kernel
theorem dX8_abstractTerm_22 : decode cX8_abstractTerm 22 = .ok (.invokevirtual 135, 3) := by decide +kernel
theorem dX8_abstractTerm_25 : decode cX8_abstractTerm 25 = .ok (.goto 5, 3) := by decide +kernel
theorem dX8_abstractTerm_28 : decode cX8_abstractTerm 28 = .ok (.bipush (-4), 2) := by decide +kernel
theorem dX8_abstractTerm_30 : decode cX8_abstractTerm 30 = .ok (.ireturn, 1) := by decide +kernel
theorem dX8_applyTo_0 : decode cX8_applyTo 0 = .ok (.iload_n 1, 1) := by decide +kernel
theorem dX8_applyTo_1 : decode cX8_applyTo 1 = .ok (.invokestatic 146, 3) := by decide +kernel
theorem dX8_applyTo_4 : decode cX8_applyTo 4 = .ok (.ifCond .ne 5, 3) := by decide +kernel
theorem dX8_applyTo_7 : decode cX8_applyTo 7 = .ok (.iconst (-1), 1) := by decide +kernel
theorem dX8_applyTo_8 : decode cX8_applyTo 8 = .ok (.ireturn, 1) := by decide +kernel
theorem dX8_applyTo_9 : decode cX8_applyTo 9 = .ok (.aload_n 0, 1) := by decide +kernel
theorem dX8_applyTo_10 : decode cX8_applyTo 10 = .ok (.iload_n 1, 1) := by decide +kernel
theorem dX8_applyTo_11 : decode cX8_applyTo 11 = .ok (.invokevirtual 149, 3) := by decide +kernel
theorem dX8_applyTo_14 : decode cX8_applyTo 14 = .ok (.astore_n 2, 1) := by decide +kernel
theorem dX8_applyTo_15 : decode cX8_applyTo 15 = .ok (.aload_n 2, 1) := by decide +kernel
theorem dX8_applyTo_16 : decode cX8_applyTo 16 = .ok (.invokevirtual 100, 3) := by decide +kernel
theorem dX8_applyTo_19 : decode cX8_applyTo 19 = .ok (.ifCond .ne 6, 3) := by decide +kernel
theorem dX8_applyTo_22 : decode cX8_applyTo 22 = .ok (.bipush (-3), 2) := by decide +kernel
theorem dX8_applyTo_24 : decode cX8_applyTo 24 = .ok (.ireturn, 1) := by decide +kernel
theorem dX8_applyTo_25 : decode cX8_applyTo 25 = .ok (.aload_n 0, 1) := by decide +kernel
theorem dX8_applyTo_26 : decode cX8_applyTo 26 = .ok (.getfield 16, 3) := by decide +kernel
theorem dX8_applyTo_29 : decode cX8_applyTo 29 = .ok (.invokevirtual 99, 3) := by decide +kernel
theorem dX8_applyTo_32 : decode cX8_applyTo 32 = .ok (.aload_n 0, 1) := by decide +kernel
theorem dX8_applyTo_33 : decode cX8_applyTo 33 = .ok (.getfield 16, 3) := by decide +kernel
theorem dX8_applyTo_36 : decode cX8_applyTo 36 = .ok (.sipush 1000, 3) := by decide +kernel
theorem dX8_applyTo_39 : decode cX8_applyTo 39 = .ok (.invokevirtual 74, 3) := by decide +kernel
theorem dX8_applyTo_42 : decode cX8_applyTo 42 = .ok (.aload_n 0, 1) := by decide +kernel
theorem dX8_applyTo_43 : decode cX8_applyTo 43 = .ok (.getfield 16, 3) := by decide +kernel
theorem dX8_applyTo_46 : decode cX8_applyTo 46 = .ok (.aload_n 0, 1) := by decide +kernel
theorem dX8_applyTo_47 : decode cX8_applyTo 47 = .ok (.getfield 10, 3) := by decide +kernel
theorem dX8_applyTo_50 : decode cX8_applyTo 50 = .ok (.iconst 0, 1) := by decide +kernel
theorem dX8_applyTo_51 : decode cX8_applyTo 51 = .ok (.aload_n 0, 1) := by decide +kernel
theorem dX8_applyTo_52 : decode cX8_applyTo 52 = .ok (.getfield 10, 3) := by decide +kernel
theorem dX8_applyTo_55 : decode cX8_applyTo 55 = .ok (.invokevirtual 100, 3) := by decide +kernel
theorem dX8_applyTo_58 : decode cX8_applyTo 58 = .ok (.invokevirtual 153, 3) := by decide +kernel
theorem dX8_applyTo_61 : decode cX8_applyTo 61 = .ok (.aload_n 0, 1) := by decide +kernel
theorem dX8_applyTo_62 : decode cX8_applyTo 62 = .ok (.getfield 16, 3) := by decide +kernel
theorem dX8_applyTo_65 : decode cX8_applyTo 65 = .ok (.aload_n 2, 1) := by decide +kernel
theorem dX8_applyTo_66 : decode cX8_applyTo 66 = .ok (.iconst 0, 1) := by decide +kernel
theorem dX8_applyTo_67 : decode cX8_applyTo 67 = .ok (.aload_n 2, 1) := by decide +kernel
theorem dX8_applyTo_68 : decode cX8_applyTo 68 = .ok (.invokevirtual 100, 3) := by decide +kernel
theorem dX8_applyTo_71 : decode cX8_applyTo 71 = .ok (.invokevirtual 153, 3) := by decide +kernel
theorem dX8_applyTo_74 : decode cX8_applyTo 74 = .ok (.aload_n 0, 1) := by decide +kernel
theorem dX8_applyTo_75 : decode cX8_applyTo 75 = .ok (.getfield 16, 3) := by decide +kernel
theorem dX8_applyTo_78 : decode cX8_applyTo 78 = .ok (.invokevirtual 157, 3) := by decide +kernel
theorem dX8_applyTo_81 : decode cX8_applyTo 81 = .ok (.ifCond .eq 8, 3) := by decide +kernel
theorem dX8_applyTo_84 : decode cX8_applyTo 84 = .ok (.bipush (-4), 2) := by decide +kernel
theorem dX8_applyTo_86 : decode cX8_applyTo 86 = .ok (.goto 7, 3) := by decide +kernel
theorem dX8_applyTo_89 : decode cX8_applyTo 89 = .ok (.aload_n 0, 1) := by decide +kernel
theorem dX8_applyTo_90 : decode cX8_applyTo 90 = .ok (.invokevirtual 135, 3) := by decide +kernel
theorem dX8_applyTo_93 : decode cX8_applyTo 93 = .ok (.ireturn, 1) := by decide +kernel
theorem dX8_substitute_0 : decode cX8_substitute 0 = .ok (.iload_n 2, 1) := by decide +kernel
theorem dX8_substitute_1 : decode cX8_substitute 1 = .ok (.invokestatic 146, 3) := by decide +kernel
theorem dX8_substitute_4 : decode cX8_substitute 4 = .ok (.ifCond .ne 5, 3) := by decide +kernel
theorem dX8_substitute_7 : decode cX8_substitute 7 = .ok (.iconst (-1), 1) := by decide +kernel
theorem dX8_substitute_8 : decode cX8_substitute 8 = .ok (.ireturn, 1) := by decide +kernel
theorem dX8_substitute_9 : decode cX8_substitute 9 = .ok (.iload_n 1, 1) := by decide +kernel
theorem dX8_substitute_10 : decode cX8_substitute 10 = .ok (.ifCond .lt 9, 3) := by decide +kernel
theorem dX8_substitute_13 : decode cX8_substitute 13 = .ok (.iload_n 1, 1) := by decide +kernel
theorem dX8_substitute_14 : decode cX8_substitute 14 = .ok (.bipush 9, 2) := by decide +kernel
theorem dX8_substitute_16 : decode cX8_substitute 16 = .ok (.if_icmp .le 6, 3) := by decide +kernel
theorem dX8_substitute_19 : decode cX8_substitute 19 = .ok (.bipush (-2), 2) := by decide +kernel
theorem dX8_substitute_21 : decode cX8_substitute 21 = .ok (.ireturn, 1) := by decide +kernel
theorem dX8_substitute_22 : decode cX8_substitute 22 = .ok (.aload_n 0, 1) := by decide +kernel
theorem dX8_substitute_23 : decode cX8_substitute 23 = .ok (.iload_n 2, 1) := by decide +kernel
theorem dX8_substitute_24 : decode cX8_substitute 24 = .ok (.invokevirtual 149, 3) := by decide +kernel
theorem dX8_substitute_27 : decode cX8_substitute 27 = .ok (.astore_n 3, 1) := by decide +kernel
theorem dX8_substitute_28 : decode cX8_substitute 28 = .ok (.aload_n 3, 1) := by decide +kernel
theorem dX8_substitute_29 : decode cX8_substitute 29 = .ok (.invokevirtual 100, 3) := by decide +kernel
theorem dX8_substitute_32 : decode cX8_substitute 32 = .ok (.ifCond .ne 6, 3) := by decide +kernel
theorem dX8_substitute_35 : decode cX8_substitute 35 = .ok (.bipush (-3), 2) := by decide +kernel
theorem dX8_substitute_37 : decode cX8_substitute 37 = .ok (.ireturn, 1) := by decide +kernel
theorem dX8_substitute_38 : decode cX8_substitute 38 = .ok (.aload_n 0, 1) := by decide +kernel
theorem dX8_substitute_39 : decode cX8_substitute 39 = .ok (.getfield 16, 3) := by decide +kernel
theorem dX8_substitute_42 : decode cX8_substitute 42 = .ok (.aload_n 0, 1) := by decide +kernel
theorem dX8_substitute_43 : decode cX8_substitute 43 = .ok (.getfield 10, 3) := by decide +kernel
theorem dX8_substitute_46 : decode cX8_substitute 46 = .ok (.invokevirtual 128, 3) := by decide +kernel
theorem dX8_substitute_49 : decode cX8_substitute 49 = .ok (.aload_n 0, 1) := by decide +kernel
theorem dX8_substitute_50 : decode cX8_substitute 50 = .ok (.getfield 38, 3) := by decide +kernel
theorem dX8_substitute_53 : decode cX8_substitute 53 = .ok (.aload_n 0, 1) := by decide +kernel
theorem dX8_substitute_54 : decode cX8_substitute 54 = .ok (.getfield 16, 3) := by decide +kernel
theorem dX8_substitute_57 : decode cX8_substitute 57 = .ok (.iload_n 1, 1) := by decide +kernel
theorem dX8_substitute_58 : decode cX8_substitute 58 = .ok (.aload_n 3, 1) := by decide +kernel
theorem dX8_substitute_59 : decode cX8_substitute 59 = .ok (.invokevirtual 160, 3) := by decide +kernel
theorem dX8_substitute_62 : decode cX8_substitute 62 = .ok (.ifCond .eq 10, 3) := by decide +kernel
theorem dX8_substitute_65 : decode cX8_substitute 65 = .ok (.aload_n 0, 1) := by decide +kernel
theorem dX8_substitute_66 : decode cX8_substitute 66 = .ok (.invokevirtual 135, 3) := by decide +kernel
theorem dX8_substitute_69 : decode cX8_substitute 69 = .ok (.goto 5, 3) := by decide +kernel
theorem dX8_substitute_72 : decode cX8_substitute 72 = .ok (.bipush (-4), 2) := by decide +kernel
theorem dX8_substitute_74 : decode cX8_substitute 74 = .ok (.ireturn, 1) := by decide +kernel
theorem dX8_undo_0 : decode cX8_undo 0 = .ok (.aload_n 0, 1) := by decide +kernel
theorem dX8_undo_1 : decode cX8_undo 1 = .ok (.getfield 52, 3) := by decide +kernel
theorem dX8_undo_4 : decode cX8_undo 4 = .ok (.aload_n 0, 1) := by decide +kernel
theorem dX8_undo_5 : decode cX8_undo 5 = .ok (.getfield 10, 3) := by decide +kernel
theorem dX8_undo_8 : decode cX8_undo 8 = .ok (.invokevirtual 164, 3) := by decide +kernel
theorem dX8_undo_11 : decode cX8_undo 11 = .ok (.ifCond .eq 13, 3) := by decide +kernel
theorem dX8_undo_14 : decode cX8_undo 14 = .ok (.aload_n 0, 1) := by decide +kernel
theorem dX8_undo_15 : decode cX8_undo 15 = .ok (.getfield 52, 3) := by decide +kernel
theorem dX8_undo_18 : decode cX8_undo 18 = .ok (.invokevirtual 168, 3) := by decide +kernel
theorem dX8_undo_21 : decode cX8_undo 21 = .ok (.goto 5, 3) := by decide +kernel
theorem dX8_undo_24 : decode cX8_undo 24 = .ok (.bipush (-3), 2) := by decide +kernel
theorem dX8_undo_26 : decode cX8_undo 26 = .ok (.ireturn, 1) := by decide +kernel
theorem dX8_stepsOfRun_0 : decode cX8_stepsOfRun 0 = .ok (.iload_n 1, 1) := by decide +kernel
theorem dX8_stepsOfRun_1 : decode cX8_stepsOfRun 1 = .ok (.iload_n 2, 1) := by decide +kernel
theorem dX8_stepsOfRun_2 : decode cX8_stepsOfRun 2 = .ok (.invokestatic 171, 3) := by decide +kernel
theorem dX8_stepsOfRun_5 : decode cX8_stepsOfRun 5 = .ok (.ifCond .eq 12, 3) := by decide +kernel
theorem dX8_stepsOfRun_8 : decode cX8_stepsOfRun 8 = .ok (.aload_n 0, 1) := by decide +kernel
theorem dX8_stepsOfRun_9 : decode cX8_stepsOfRun 9 = .ok (.iload_n 1, 1) := by decide +kernel
theorem dX8_stepsOfRun_10 : decode cX8_stepsOfRun 10 = .ok (.iload_n 2, 1) := by decide +kernel
theorem dX8_stepsOfRun_11 : decode cX8_stepsOfRun 11 = .ok (.invokevirtual 175, 3) := by decide +kernel
theorem dX8_stepsOfRun_14 : decode cX8_stepsOfRun 14 = .ok (.goto 5, 3) := by decide +kernel
theorem dX8_stepsOfRun_17 : decode cX8_stepsOfRun 17 = .ok (.bipush (-2), 2) := by decide +kernel
theorem dX8_stepsOfRun_19 : decode cX8_stepsOfRun 19 = .ok (.ireturn, 1) := by decide +kernel
theorem dX8_sizeAfterRun_0 : decode cX8_sizeAfterRun 0 = .ok (.iload_n 1, 1) := by decide +kernel
theorem dX8_sizeAfterRun_1 : decode cX8_sizeAfterRun 1 = .ok (.iload_n 2, 1) := by decide +kernel
theorem dX8_sizeAfterRun_2 : decode cX8_sizeAfterRun 2 = .ok (.invokestatic 171, 3) := by decide +kernel
theorem dX8_sizeAfterRun_5 : decode cX8_sizeAfterRun 5 = .ok (.ifCond .ne 6, 3) := by decide +kernel
theorem dX8_sizeAfterRun_8 : decode cX8_sizeAfterRun 8 = .ok (.bipush (-2), 2) := by decide +kernel
theorem dX8_sizeAfterRun_10 : decode cX8_sizeAfterRun 10 = .ok (.ireturn, 1) := by decide +kernel
theorem dX8_sizeAfterRun_11 : decode cX8_sizeAfterRun 11 = .ok (.aload_n 0, 1) := by decide +kernel
theorem dX8_sizeAfterRun_12 : decode cX8_sizeAfterRun 12 = .ok (.iload_n 1, 1) := by decide +kernel
theorem dX8_sizeAfterRun_13 : decode cX8_sizeAfterRun 13 = .ok (.iload_n 2, 1) := by decide +kernel
theorem dX8_sizeAfterRun_14 : decode cX8_sizeAfterRun 14 = .ok (.invokevirtual 175, 3) := by decide +kernel
theorem dX8_sizeAfterRun_17 : decode cX8_sizeAfterRun 17 = .ok (.pop, 1) := by decide +kernel
theorem dX8_sizeAfterRun_18 : decode cX8_sizeAfterRun 18 = .ok (.aload_n 0, 1) := by decide +kernel
theorem dX8_sizeAfterRun_19 : decode cX8_sizeAfterRun 19 = .ok (.getfield 16, 3) := by decide +kernel
theorem dX8_sizeAfterRun_22 : decode cX8_sizeAfterRun 22 = .ok (.invokevirtual 100, 3) := by decide +kernel
theorem dX8_sizeAfterRun_25 : decode cX8_sizeAfterRun 25 = .ok (.ireturn, 1) := by decide +kernel
theorem dX8_normalSize_0 : decode cX8_normalSize 0 = .ok (.aload_n 0, 1) := by decide +kernel
theorem dX8_normalSize_1 : decode cX8_normalSize 1 = .ok (.aload_n 0, 1) := by decide +kernel
theorem dX8_normalSize_2 : decode cX8_normalSize 2 = .ok (.getfield 16, 3) := by decide +kernel
theorem dX8_normalSize_5 : decode cX8_normalSize 5 = .ok (.aload_n 0, 1) := by decide +kernel
theorem dX8_normalSize_6 : decode cX8_normalSize 6 = .ok (.getfield 10, 3) := by decide +kernel
theorem dX8_normalSize_9 : decode cX8_normalSize 9 = .ok (.invokevirtual 179, 3) := by decide +kernel
theorem dX8_normalSize_12 : decode cX8_normalSize 12 = .ok (.ifCond .eq 13, 3) := by decide +kernel
theorem dX8_normalSize_15 : decode cX8_normalSize 15 = .ok (.aload_n 0, 1) := by decide +kernel
theorem dX8_normalSize_16 : decode cX8_normalSize 16 = .ok (.getfield 16, 3) := by decide +kernel
theorem dX8_normalSize_19 : decode cX8_normalSize 19 = .ok (.invokevirtual 100, 3) := by decide +kernel
theorem dX8_normalSize_22 : decode cX8_normalSize 22 = .ok (.goto 5, 3) := by decide +kernel
theorem dX8_normalSize_25 : decode cX8_normalSize 25 = .ok (.bipush (-9), 2) := by decide +kernel
theorem dX8_normalSize_27 : decode cX8_normalSize 27 = .ok (.ireturn, 1) := by decide +kernel
theorem dX8_normalTokenAt_0 : decode cX8_normalTokenAt 0 = .ok (.aload_n 0, 1) := by decide +kernel
theorem dX8_normalTokenAt_1 : decode cX8_normalTokenAt 1 = .ok (.aload_n 0, 1) := by decide +kernel
theorem dX8_normalTokenAt_2 : decode cX8_normalTokenAt 2 = .ok (.getfield 16, 3) := by decide +kernel
theorem dX8_normalTokenAt_5 : decode cX8_normalTokenAt 5 = .ok (.aload_n 0, 1) := by decide +kernel
theorem dX8_normalTokenAt_6 : decode cX8_normalTokenAt 6 = .ok (.getfield 10, 3) := by decide +kernel
theorem dX8_normalTokenAt_9 : decode cX8_normalTokenAt 9 = .ok (.invokevirtual 179, 3) := by decide +kernel
theorem dX8_normalTokenAt_12 : decode cX8_normalTokenAt 12 = .ok (.ifCond .ne 6, 3) := by decide +kernel
theorem dX8_normalTokenAt_15 : decode cX8_normalTokenAt 15 = .ok (.bipush (-9), 2) := by decide +kernel
theorem dX8_normalTokenAt_17 : decode cX8_normalTokenAt 17 = .ok (.ireturn, 1) := by decide +kernel
theorem dX8_normalTokenAt_18 : decode cX8_normalTokenAt 18 = .ok (.aload_n 0, 1) := by decide +kernel
theorem dX8_normalTokenAt_19 : decode cX8_normalTokenAt 19 = .ok (.getfield 16, 3) := by decide +kernel
theorem dX8_normalTokenAt_22 : decode cX8_normalTokenAt 22 = .ok (.iload_n 1, 1) := by decide +kernel
theorem dX8_normalTokenAt_23 : decode cX8_normalTokenAt 23 = .ok (.invokevirtual 101, 3) := by decide +kernel
theorem dX8_normalTokenAt_26 : decode cX8_normalTokenAt 26 = .ok (.ifCond .eq 14, 3) := by decide +kernel
theorem dX8_normalTokenAt_29 : decode cX8_normalTokenAt 29 = .ok (.aload_n 0, 1) := by decide +kernel
theorem dX8_normalTokenAt_30 : decode cX8_normalTokenAt 30 = .ok (.getfield 16, 3) := by decide +kernel
theorem dX8_normalTokenAt_33 : decode cX8_normalTokenAt 33 = .ok (.iload_n 1, 1) := by decide +kernel
theorem dX8_normalTokenAt_34 : decode cX8_normalTokenAt 34 = .ok (.invokevirtual 104, 3) := by decide +kernel
theorem dX8_normalTokenAt_37 : decode cX8_normalTokenAt 37 = .ok (.goto 4, 3) := by decide +kernel
theorem dX8_normalTokenAt_40 : decode cX8_normalTokenAt 40 = .ok (.iconst (-1), 1) := by decide +kernel
theorem dX8_normalTokenAt_41 : decode cX8_normalTokenAt 41 = .ok (.ireturn, 1) := by decide +kernel
theorem dX8_isEquivalent_0 : decode cX8_isEquivalent 0 = .ok (.iload_n 1, 1) := by decide +kernel
theorem dX8_isEquivalent_1 : decode cX8_isEquivalent 1 = .ok (.invokestatic 146, 3) := by decide +kernel
theorem dX8_isEquivalent_4 : decode cX8_isEquivalent 4 = .ok (.ifCond .ne 5, 3) := by decide +kernel
theorem dX8_isEquivalent_7 : decode cX8_isEquivalent 7 = .ok (.iconst (-1), 1) := by decide +kernel
theorem dX8_isEquivalent_8 : decode cX8_isEquivalent 8 = .ok (.ireturn, 1) := by decide +kernel
theorem dX8_isEquivalent_9 : decode cX8_isEquivalent 9 = .ok (.aload_n 0, 1) := by decide +kernel
theorem dX8_isEquivalent_10 : decode cX8_isEquivalent 10 = .ok (.iload_n 1, 1) := by decide +kernel
theorem dX8_isEquivalent_11 : decode cX8_isEquivalent 11 = .ok (.invokevirtual 149, 3) := by decide +kernel
theorem dX8_isEquivalent_14 : decode cX8_isEquivalent 14 = .ok (.astore_n 2, 1) := by decide +kernel
theorem dX8_isEquivalent_15 : decode cX8_isEquivalent 15 = .ok (.aload_n 2, 1) := by decide +kernel
theorem dX8_isEquivalent_16 : decode cX8_isEquivalent 16 = .ok (.invokevirtual 100, 3) := by decide +kernel
theorem dX8_isEquivalent_19 : decode cX8_isEquivalent 19 = .ok (.ifCond .ne 6, 3) := by decide +kernel
theorem dX8_isEquivalent_22 : decode cX8_isEquivalent 22 = .ok (.bipush (-3), 2) := by decide +kernel
theorem dX8_isEquivalent_24 : decode cX8_isEquivalent 24 = .ok (.ireturn, 1) := by decide +kernel
theorem dX8_isEquivalent_25 : decode cX8_isEquivalent 25 = .ok (.aload_n 0, 1) := by decide +kernel
theorem dX8_isEquivalent_26 : decode cX8_isEquivalent 26 = .ok (.aload_n 0, 1) := by decide +kernel
theorem dX8_isEquivalent_27 : decode cX8_isEquivalent 27 = .ok (.getfield 16, 3) := by decide +kernel
theorem dX8_isEquivalent_30 : decode cX8_isEquivalent 30 = .ok (.aload_n 0, 1) := by decide +kernel
theorem dX8_isEquivalent_31 : decode cX8_isEquivalent 31 = .ok (.getfield 10, 3) := by decide +kernel
theorem dX8_isEquivalent_34 : decode cX8_isEquivalent 34 = .ok (.invokevirtual 179, 3) := by decide +kernel
theorem dX8_isEquivalent_37 : decode cX8_isEquivalent 37 = .ok (.ifCond .eq 15, 3) := by decide +kernel
theorem dX8_isEquivalent_40 : decode cX8_isEquivalent 40 = .ok (.aload_n 0, 1) := by decide +kernel
theorem dX8_isEquivalent_41 : decode cX8_isEquivalent 41 = .ok (.aload_n 0, 1) := by decide +kernel
theorem dX8_isEquivalent_42 : decode cX8_isEquivalent 42 = .ok (.getfield 19, 3) := by decide +kernel
theorem dX8_isEquivalent_45 : decode cX8_isEquivalent 45 = .ok (.aload_n 2, 1) := by decide +kernel
theorem dX8_isEquivalent_46 : decode cX8_isEquivalent 46 = .ok (.invokevirtual 179, 3) := by decide +kernel
theorem dX8_isEquivalent_49 : decode cX8_isEquivalent 49 = .ok (.ifCond .ne 6, 3) := by decide +kernel
theorem dX8_isEquivalent_52 : decode cX8_isEquivalent 52 = .ok (.bipush (-9), 2) := by decide +kernel
theorem dX8_isEquivalent_54 : decode cX8_isEquivalent 54 = .ok (.ireturn, 1) := by decide +kernel
theorem dX8_isEquivalent_55 : decode cX8_isEquivalent 55 = .ok (.aload_n 0, 1) := by decide +kernel
theorem dX8_isEquivalent_56 : decode cX8_isEquivalent 56 = .ok (.getfield 16, 3) := by decide +kernel
theorem dX8_isEquivalent_59 : decode cX8_isEquivalent 59 = .ok (.aload_n 0, 1) := by decide +kernel
theorem dX8_isEquivalent_60 : decode cX8_isEquivalent 60 = .ok (.getfield 19, 3) := by decide +kernel
theorem dX8_isEquivalent_63 : decode cX8_isEquivalent 63 = .ok (.invokevirtual 183, 3) := by decide +kernel
theorem dX8_isEquivalent_66 : decode cX8_isEquivalent 66 = .ok (.ifCond .eq 7, 3) := by decide +kernel
theorem dX8_isEquivalent_69 : decode cX8_isEquivalent 69 = .ok (.iconst 1, 1) := by decide +kernel
theorem dX8_isEquivalent_70 : decode cX8_isEquivalent 70 = .ok (.goto 4, 3) := by decide +kernel
theorem dX8_isEquivalent_73 : decode cX8_isEquivalent 73 = .ok (.iconst 0, 1) := by decide +kernel
theorem dX8_isEquivalent_74 : decode cX8_isEquivalent 74 = .ok (.ireturn, 1) := by decide +kernel
theorem dX8_machineSteps_0 : decode cX8_machineSteps 0 = .ok (.iload_n 1, 1) := by decide +kernel
theorem dX8_machineSteps_1 : decode cX8_machineSteps 1 = .ok (.ifCond .lt 17, 3) := by decide +kernel
theorem dX8_machineSteps_4 : decode cX8_machineSteps 4 = .ok (.iload_n 1, 1) := by decide +kernel
theorem dX8_machineSteps_5 : decode cX8_machineSteps 5 = .ok (.iconst 5, 1) := by decide +kernel
theorem dX8_machineSteps_6 : decode cX8_machineSteps 6 = .ok (.if_icmp .ge 12, 3) := by decide +kernel
theorem dX8_machineSteps_9 : decode cX8_machineSteps 9 = .ok (.iload_n 2, 1) := by decide +kernel
theorem dX8_machineSteps_10 : decode cX8_machineSteps 10 = .ok (.ifCond .lt 8, 3) := by decide +kernel
theorem dX8_machineSteps_13 : decode cX8_machineSteps 13 = .ok (.iload_n 2, 1) := by decide +kernel
theorem dX8_machineSteps_14 : decode cX8_machineSteps 14 = .ok (.iconst 1, 1) := by decide +kernel
theorem dX8_machineSteps_15 : decode cX8_machineSteps 15 = .ok (.if_icmp .le 6, 3) := by decide +kernel
theorem dX8_machineSteps_18 : decode cX8_machineSteps 18 = .ok (.bipush (-2), 2) := by decide +kernel
theorem dX8_machineSteps_20 : decode cX8_machineSteps 20 = .ok (.ireturn, 1) := by decide +kernel
theorem dX8_machineSteps_21 : decode cX8_machineSteps 21 = .ok (.aload_n 0, 1) := by decide +kernel
theorem dX8_machineSteps_22 : decode cX8_machineSteps 22 = .ok (.getfield 45, 3) := by decide +kernel
theorem dX8_machineSteps_25 : decode cX8_machineSteps 25 = .ok (.aload_n 0, 1) := by decide +kernel
theorem dX8_machineSteps_26 : decode cX8_machineSteps 26 = .ok (.getfield 10, 3) := by decide +kernel
theorem dX8_machineSteps_29 : decode cX8_machineSteps 29 = .ok (.iload_n 2, 1) := by decide +kernel
theorem dX8_machineSteps_30 : decode cX8_machineSteps 30 = .ok (.iconst 1, 1) := by decide +kernel
theorem dX8_machineSteps_31 : decode cX8_machineSteps 31 = .ok (.if_icmp .ne 7, 3) := by decide +kernel
theorem dX8_machineSteps_34 : decode cX8_machineSteps 34 = .ok (.iconst 1, 1) := by decide +kernel
theorem dX8_machineSteps_35 : decode cX8_machineSteps 35 = .ok (.goto 4, 3) := by decide +kernel
theorem dX8_machineSteps_38 : decode cX8_machineSteps 38 = .ok (.iconst 0, 1) := by decide +kernel
theorem dX8_machineSteps_39 : decode cX8_machineSteps 39 = .ok (.invokevirtual 186, 3) := by decide +kernel
theorem dX8_machineSteps_42 : decode cX8_machineSteps 42 = .ok (.ifCond .eq 14, 3) := by decide +kernel
theorem dX8_machineSteps_45 : decode cX8_machineSteps 45 = .ok (.aload_n 0, 1) := by decide +kernel
theorem dX8_machineSteps_46 : decode cX8_machineSteps 46 = .ok (.getfield 45, 3) := by decide +kernel
theorem dX8_machineSteps_49 : decode cX8_machineSteps 49 = .ok (.iload_n 1, 1) := by decide +kernel
theorem dX8_machineSteps_50 : decode cX8_machineSteps 50 = .ok (.invokevirtual 190, 3) := by decide +kernel
theorem dX8_machineSteps_53 : decode cX8_machineSteps 53 = .ok (.goto 5, 3) := by decide +kernel
theorem dX8_machineSteps_56 : decode cX8_machineSteps 56 = .ok (.bipush (-9), 2) := by decide +kernel
theorem dX8_machineSteps_58 : decode cX8_machineSteps 58 = .ok (.ireturn, 1) := by decide +kernel
theorem dX8_machinePeak_0 : decode cX8_machinePeak 0 = .ok (.iload_n 1, 1) := by decide +kernel
theorem dX8_machinePeak_1 : decode cX8_machinePeak 1 = .ok (.ifCond .lt 8, 3) := by decide +kernel
theorem dX8_machinePeak_4 : decode cX8_machinePeak 4 = .ok (.iload_n 1, 1) := by decide +kernel
theorem dX8_machinePeak_5 : decode cX8_machinePeak 5 = .ok (.iconst 1, 1) := by decide +kernel
theorem dX8_machinePeak_6 : decode cX8_machinePeak 6 = .ok (.if_icmp .le 6, 3) := by decide +kernel
theorem dX8_machinePeak_9 : decode cX8_machinePeak 9 = .ok (.bipush (-2), 2) := by decide +kernel
theorem dX8_machinePeak_11 : decode cX8_machinePeak 11 = .ok (.ireturn, 1) := by decide +kernel
theorem dX8_machinePeak_12 : decode cX8_machinePeak 12 = .ok (.aload_n 0, 1) := by decide +kernel
theorem dX8_machinePeak_13 : decode cX8_machinePeak 13 = .ok (.getfield 45, 3) := by decide +kernel
theorem dX8_machinePeak_16 : decode cX8_machinePeak 16 = .ok (.aload_n 0, 1) := by decide +kernel
theorem dX8_machinePeak_17 : decode cX8_machinePeak 17 = .ok (.getfield 10, 3) := by decide +kernel
theorem dX8_machinePeak_20 : decode cX8_machinePeak 20 = .ok (.iload_n 1, 1) := by decide +kernel
theorem dX8_machinePeak_21 : decode cX8_machinePeak 21 = .ok (.iconst 1, 1) := by decide +kernel
theorem dX8_machinePeak_22 : decode cX8_machinePeak 22 = .ok (.if_icmp .ne 7, 3) := by decide +kernel
theorem dX8_machinePeak_25 : decode cX8_machinePeak 25 = .ok (.iconst 1, 1) := by decide +kernel
theorem dX8_machinePeak_26 : decode cX8_machinePeak 26 = .ok (.goto 4, 3) := by decide +kernel
theorem dX8_machinePeak_29 : decode cX8_machinePeak 29 = .ok (.iconst 0, 1) := by decide +kernel
theorem dX8_machinePeak_30 : decode cX8_machinePeak 30 = .ok (.invokevirtual 186, 3) := by decide +kernel
theorem dX8_machinePeak_33 : decode cX8_machinePeak 33 = .ok (.ifCond .eq 13, 3) := by decide +kernel
theorem dX8_machinePeak_36 : decode cX8_machinePeak 36 = .ok (.aload_n 0, 1) := by decide +kernel
theorem dX8_machinePeak_37 : decode cX8_machinePeak 37 = .ok (.getfield 45, 3) := by decide +kernel
theorem dX8_machinePeak_40 : decode cX8_machinePeak 40 = .ok (.invokevirtual 193, 3) := by decide +kernel
theorem dX8_machinePeak_43 : decode cX8_machinePeak 43 = .ok (.goto 5, 3) := by decide +kernel
theorem dX8_machinePeak_46 : decode cX8_machinePeak 46 = .ok (.bipush (-9), 2) := by decide +kernel
theorem dX8_machinePeak_48 : decode cX8_machinePeak 48 = .ok (.ireturn, 1) := by decide +kernel
theorem dX8_runScript_0 : decode cX8_runScript 0 = .ok (.iload_n 1, 1) := by decide +kernel
theorem dX8_runScript_1 : decode cX8_runScript 1 = .ok (.iconst 1, 1) := by decide +kernel
theorem dX8_runScript_2 : decode cX8_runScript 2 = .ok (.if_icmp .lt 24, 3) := by decide +kernel
theorem dX8_runScript_5 : decode cX8_runScript 5 = .ok (.iload_n 1, 1) := by decide +kernel
theorem dX8_runScript_6 : decode cX8_runScript 6 = .ok (.iconst 4, 1) := by decide +kernel
theorem dX8_runScript_7 : decode cX8_runScript 7 = .ok (.if_icmp .gt 19, 3) := by decide +kernel
theorem dX8_runScript_10 : decode cX8_runScript 10 = .ok (.lload_n 2, 1) := by decide +kernel
theorem dX8_runScript_11 : decode cX8_runScript 11 = .ok (.lconst 0, 1) := by decide +kernel
theorem dX8_runScript_12 : decode cX8_runScript 12 = .ok (.lcmp, 1) := by decide +kernel
theorem dX8_runScript_13 : decode cX8_runScript 13 = .ok (.ifCond .lt 13, 3) := by decide +kernel
theorem dX8_runScript_16 : decode cX8_runScript 16 = .ok (.lload_n 2, 1) := by decide +kernel
theorem dX8_runScript_17 : decode cX8_runScript 17 = .ok (.iload_n 1, 1) := by decide +kernel
theorem dX8_runScript_18 : decode cX8_runScript 18 = .ok (.invokestatic 196, 3) := by decide +kernel
theorem dX8_runScript_21 : decode cX8_runScript 21 = .ok (.lconst 0, 1) := by decide +kernel
theorem dX8_runScript_22 : decode cX8_runScript 22 = .ok (.lcmp, 1) := by decide +kernel
theorem dX8_runScript_23 : decode cX8_runScript 23 = .ok (.ifCond .eq 6, 3) := by decide +kernel
theorem dX8_runScript_26 : decode cX8_runScript 26 = .ok (.bipush (-2), 2) := by decide +kernel
theorem dX8_runScript_28 : decode cX8_runScript 28 = .ok (.ireturn, 1) := by decide +kernel
theorem dX8_runScript_29 : decode cX8_runScript 29 = .ok (.aload_n 0, 1) := by decide +kernel
theorem dX8_runScript_30 : decode cX8_runScript 30 = .ok (.getfield 16, 3) := by decide +kernel
theorem dX8_runScript_33 : decode cX8_runScript 33 = .ok (.aload_n 0, 1) := by decide +kernel
theorem dX8_runScript_34 : decode cX8_runScript 34 = .ok (.getfield 10, 3) := by decide +kernel
theorem dX8_runScript_37 : decode cX8_runScript 37 = .ok (.invokevirtual 128, 3) := by decide +kernel
theorem dX8_runScript_40 : decode cX8_runScript 40 = .ok (.iconst 0, 1) := by decide +kernel
theorem dX8_runScript_41 : decode cX8_runScript 41 = .ok (.istore 4, 2) := by decide +kernel
theorem dX8_runScript_43 : decode cX8_runScript 43 = .ok (.iload 4, 2) := by decide +kernel
theorem dX8_runScript_45 : decode cX8_runScript 45 = .ok (.iload_n 1, 1) := by decide +kernel
theorem dX8_runScript_46 : decode cX8_runScript 46 = .ok (.if_icmp .ge 38, 3) := by decide +kernel
theorem dX8_runScript_49 : decode cX8_runScript 49 = .ok (.lload_n 2, 1) := by decide +kernel
theorem dX8_runScript_50 : decode cX8_runScript 50 = .ok (.iload_n 1, 1) := by decide +kernel
theorem dX8_runScript_51 : decode cX8_runScript 51 = .ok (.iconst 1, 1) := by decide +kernel
theorem dX8_runScript_52 : decode cX8_runScript 52 = .ok (.isub, 1) := by decide +kernel
theorem dX8_runScript_53 : decode cX8_runScript 53 = .ok (.iload 4, 2) := by decide +kernel
theorem dX8_runScript_55 : decode cX8_runScript 55 = .ok (.isub, 1) := by decide +kernel
theorem dX8_runScript_56 : decode cX8_runScript 56 = .ok (.invokestatic 196, 3) := by decide +kernel
theorem dX8_runScript_59 : decode cX8_runScript 59 = .ok (.ldc2_w 200, 3) := by decide +kernel
theorem dX8_runScript_62 : decode cX8_runScript 62 = .ok (.lrem, 1) := by decide +kernel
theorem dX8_runScript_63 : decode cX8_runScript 63 = .ok (.l2i, 1) := by decide +kernel
theorem dX8_runScript_64 : decode cX8_runScript 64 = .ok (.istore 5, 2) := by decide +kernel
theorem dX8_runScript_66 : decode cX8_runScript 66 = .ok (.aload_n 0, 1) := by decide +kernel
theorem dX8_runScript_67 : decode cX8_runScript 67 = .ok (.iload 5, 2) := by decide +kernel
theorem dX8_runScript_69 : decode cX8_runScript 69 = .ok (.invokevirtual 202, 3) := by decide +kernel
theorem dX8_runScript_72 : decode cX8_runScript 72 = .ok (.ifCond .ne 6, 3) := by decide +kernel
theorem dX8_runScript_75 : decode cX8_runScript 75 = .ok (.iload 4, 2) := by decide +kernel
theorem dX8_runScript_77 : decode cX8_runScript 77 = .ok (.ireturn, 1) := by decide +kernel
theorem dX8_runScript_78 : decode cX8_runScript 78 = .ok (.iinc 4 1, 3) := by decide +kernel
theorem dX8_runScript_81 : decode cX8_runScript 81 = .ok (.goto (-38), 3) := by decide +kernel
theorem dX8_runScript_84 : decode cX8_runScript 84 = .ok (.bipush (-9), 2) := by decide +kernel
theorem dX8_runScript_86 : decode cX8_runScript 86 = .ok (.ireturn, 1) := by decide +kernel
theorem dX8_observe_0 : decode cX8_observe 0 = .ok (.iload_n 1, 1) := by decide +kernel
theorem dX8_observe_1 : decode cX8_observe 1 = .ok (.ifCond .lt 21, 3) := by decide +kernel
theorem dX8_observe_4 : decode cX8_observe 4 = .ok (.iload_n 1, 1) := by decide +kernel
theorem dX8_observe_5 : decode cX8_observe 5 = .ok (.bipush 50, 2) := by decide +kernel
theorem dX8_observe_7 : decode cX8_observe 7 = .ok (.if_icmp .gt 15, 3) := by decide +kernel
theorem dX8_observe_10 : decode cX8_observe 10 = .ok (.iload_n 2, 1) := by decide +kernel
theorem dX8_observe_11 : decode cX8_observe 11 = .ok (.iconst 1, 1) := by decide +kernel
theorem dX8_observe_12 : decode cX8_observe 12 = .ok (.if_icmp .lt 10, 3) := by decide +kernel
theorem dX8_observe_15 : decode cX8_observe 15 = .ok (.iload_n 2, 1) := by decide +kernel
theorem dX8_observe_16 : decode cX8_observe 16 = .ok (.sipush 200, 3) := by decide +kernel
theorem dX8_observe_19 : decode cX8_observe 19 = .ok (.if_icmp .le 6, 3) := by decide +kernel
theorem dX8_observe_22 : decode cX8_observe 22 = .ok (.bipush (-2), 2) := by decide +kernel
theorem dX8_observe_24 : decode cX8_observe 24 = .ok (.ireturn, 1) := by decide +kernel
theorem dX8_observe_25 : decode cX8_observe 25 = .ok (.aload_n 0, 1) := by decide +kernel
theorem dX8_observe_26 : decode cX8_observe 26 = .ok (.getfield 66, 3) := by decide +kernel
theorem dX8_observe_29 : decode cX8_observe 29 = .ok (.iload_n 1, 1) := by decide +kernel
theorem dX8_observe_30 : decode cX8_observe 30 = .ok (.iload_n 2, 1) := by decide +kernel
theorem dX8_observe_31 : decode cX8_observe 31 = .ok (.invokevirtual 205, 3) := by decide +kernel
theorem dX8_observe_34 : decode cX8_observe 34 = .ok (.aload_n 0, 1) := by decide +kernel
theorem dX8_observe_35 : decode cX8_observe 35 = .ok (.getfield 66, 3) := by decide +kernel
theorem dX8_observe_38 : decode cX8_observe 38 = .ok (.invokevirtual 208, 3) := by decide +kernel
theorem dX8_observe_41 : decode cX8_observe 41 = .ok (.ireturn, 1) := by decide +kernel
theorem dX8_forgetAfter_0 : decode cX8_forgetAfter 0 = .ok (.iload_n 1, 1) := by decide +kernel
theorem dX8_forgetAfter_1 : decode cX8_forgetAfter 1 = .ok (.ifCond .lt 9, 3) := by decide +kernel
theorem dX8_forgetAfter_4 : decode cX8_forgetAfter 4 = .ok (.iload_n 1, 1) := by decide +kernel
theorem dX8_forgetAfter_5 : decode cX8_forgetAfter 5 = .ok (.bipush 50, 2) := by decide +kernel
theorem dX8_forgetAfter_7 : decode cX8_forgetAfter 7 = .ok (.if_icmp .le 6, 3) := by decide +kernel
theorem dX8_forgetAfter_10 : decode cX8_forgetAfter 10 = .ok (.bipush (-2), 2) := by decide +kernel
theorem dX8_forgetAfter_12 : decode cX8_forgetAfter 12 = .ok (.ireturn, 1) := by decide +kernel
theorem dX8_forgetAfter_13 : decode cX8_forgetAfter 13 = .ok (.aload_n 0, 1) := by decide +kernel
theorem dX8_forgetAfter_14 : decode cX8_forgetAfter 14 = .ok (.getfield 66, 3) := by decide +kernel
theorem dX8_forgetAfter_17 : decode cX8_forgetAfter 17 = .ok (.iload_n 1, 1) := by decide +kernel
theorem dX8_forgetAfter_18 : decode cX8_forgetAfter 18 = .ok (.invokevirtual 209, 3) := by decide +kernel
theorem dX8_forgetAfter_21 : decode cX8_forgetAfter 21 = .ok (.aload_n 0, 1) := by decide +kernel
theorem dX8_forgetAfter_22 : decode cX8_forgetAfter 22 = .ok (.getfield 66, 3) := by decide +kernel
theorem dX8_forgetAfter_25 : decode cX8_forgetAfter 25 = .ok (.invokevirtual 208, 3) := by decide +kernel
theorem dX8_forgetAfter_28 : decode cX8_forgetAfter 28 = .ok (.ireturn, 1) := by decide +kernel
theorem dX8_possibleStrategies_0 : decode cX8_possibleStrategies 0 = .ok (.iconst 0, 1) := by decide +kernel
theorem dX8_possibleStrategies_1 : decode cX8_possibleStrategies 1 = .ok (.istore_n 1, 1) := by decide +kernel
theorem dX8_possibleStrategies_2 : decode cX8_possibleStrategies 2 = .ok (.iconst 0, 1) := by decide +kernel
theorem dX8_possibleStrategies_3 : decode cX8_possibleStrategies 3 = .ok (.istore_n 2, 1) := by decide +kernel
theorem dX8_possibleStrategies_4 : decode cX8_possibleStrategies 4 = .ok (.iload_n 2, 1) := by decide +kernel
theorem dX8_possibleStrategies_5 : decode cX8_possibleStrategies 5 = .ok (.iconst 4, 1) := by decide +kernel
theorem dX8_possibleStrategies_6 : decode cX8_possibleStrategies 6 = .ok (.if_icmp .ge 23, 3) := by decide +kernel
theorem dX8_possibleStrategies_9 : decode cX8_possibleStrategies 9 = .ok (.aload_n 0, 1) := by decide +kernel
theorem dX8_possibleStrategies_10 : decode cX8_possibleStrategies 10 = .ok (.iload_n 2, 1) := by decide +kernel
theorem dX8_possibleStrategies_11 : decode cX8_possibleStrategies 11 = .ok (.invokevirtual 212, 3) := by decide +kernel
theorem dX8_possibleStrategies_14 : decode cX8_possibleStrategies 14 = .ok (.ifCond .eq 9, 3) := by decide +kernel
theorem dX8_possibleStrategies_17 : decode cX8_possibleStrategies 17 = .ok (.iload_n 1, 1) := by decide +kernel
theorem dX8_possibleStrategies_18 : decode cX8_possibleStrategies 18 = .ok (.iconst 1, 1) := by decide +kernel
theorem dX8_possibleStrategies_19 : decode cX8_possibleStrategies 19 = .ok (.iload_n 2, 1) := by decide +kernel
theorem dX8_possibleStrategies_20 : decode cX8_possibleStrategies 20 = .ok (.ishl, 1) := by decide +kernel
theorem dX8_possibleStrategies_21 : decode cX8_possibleStrategies 21 = .ok (.ior, 1) := by decide +kernel
theorem dX8_possibleStrategies_22 : decode cX8_possibleStrategies 22 = .ok (.istore_n 1, 1) := by decide +kernel
theorem dX8_possibleStrategies_23 : decode cX8_possibleStrategies 23 = .ok (.iinc 2 1, 3) := by decide +kernel
theorem dX8_possibleStrategies_26 : decode cX8_possibleStrategies 26 = .ok (.goto (-22), 3) := by decide +kernel
theorem dX8_possibleStrategies_29 : decode cX8_possibleStrategies 29 = .ok (.iload_n 1, 1) := by decide +kernel
theorem dX8_possibleStrategies_30 : decode cX8_possibleStrategies 30 = .ok (.ireturn, 1) := by decide +kernel
theorem dX8_setSeed_0 : decode cX8_setSeed 0 = .ok (.aload_n 0, 1) := by decide +kernel
theorem dX8_setSeed_1 : decode cX8_setSeed 1 = .ok (.getfield 70, 3) := by decide +kernel
theorem dX8_setSeed_4 : decode cX8_setSeed 4 = .ok (.lstore_n 3, 1) := by decide +kernel
theorem dX8_setSeed_5 : decode cX8_setSeed 5 = .ok (.aload_n 0, 1) := by decide +kernel
theorem dX8_setSeed_6 : decode cX8_setSeed 6 = .ok (.lload_n 1, 1) := by decide +kernel
theorem dX8_setSeed_7 : decode cX8_setSeed 7 = .ok (.putfield 70, 3) := by decide +kernel
theorem dX8_setSeed_10 : decode cX8_setSeed 10 = .ok (.lload_n 3, 1) := by decide +kernel
theorem dX8_setSeed_11 : decode cX8_setSeed 11 = .ok (.lreturn, 1) := by decide +kernel
theorem dX8_randomReduction_0 : decode cX8_randomReduction 0 = .ok (.iload_n 1, 1) := by decide +kernel
theorem dX8_randomReduction_1 : decode cX8_randomReduction 1 = .ok (.iconst 1, 1) := by decide +kernel
theorem dX8_randomReduction_2 : decode cX8_randomReduction 2 = .ok (.if_icmp .lt 9, 3) := by decide +kernel
theorem dX8_randomReduction_5 : decode cX8_randomReduction 5 = .ok (.iload_n 1, 1) := by decide +kernel
theorem dX8_randomReduction_6 : decode cX8_randomReduction 6 = .ok (.bipush 30, 2) := by decide +kernel
theorem dX8_randomReduction_8 : decode cX8_randomReduction 8 = .ok (.if_icmp .le 6, 3) := by decide +kernel
theorem dX8_randomReduction_11 : decode cX8_randomReduction 11 = .ok (.bipush (-2), 2) := by decide +kernel
theorem dX8_randomReduction_13 : decode cX8_randomReduction 13 = .ok (.ireturn, 1) := by decide +kernel
theorem dX8_randomReduction_14 : decode cX8_randomReduction 14 = .ok (.aload_n 0, 1) := by decide +kernel
theorem dX8_randomReduction_15 : decode cX8_randomReduction 15 = .ok (.getfield 16, 3) := by decide +kernel
theorem dX8_randomReduction_18 : decode cX8_randomReduction 18 = .ok (.aload_n 0, 1) := by decide +kernel
theorem dX8_randomReduction_19 : decode cX8_randomReduction 19 = .ok (.getfield 10, 3) := by decide +kernel
theorem dX8_randomReduction_22 : decode cX8_randomReduction 22 = .ok (.invokevirtual 128, 3) := by decide +kernel
theorem dX8_randomReduction_25 : decode cX8_randomReduction 25 = .ok (.iconst 0, 1) := by decide +kernel
theorem dX8_randomReduction_26 : decode cX8_randomReduction 26 = .ok (.istore_n 2, 1) := by decide +kernel
theorem dX8_randomReduction_27 : decode cX8_randomReduction 27 = .ok (.iconst 0, 1) := by decide +kernel
theorem dX8_randomReduction_28 : decode cX8_randomReduction 28 = .ok (.istore_n 3, 1) := by decide +kernel
theorem dX8_randomReduction_29 : decode cX8_randomReduction 29 = .ok (.iload_n 3, 1) := by decide +kernel
theorem dX8_randomReduction_30 : decode cX8_randomReduction 30 = .ok (.iload_n 1, 1) := by decide +kernel
theorem dX8_randomReduction_31 : decode cX8_randomReduction 31 = .ok (.if_icmp .ge 23, 3) := by decide +kernel
theorem dX8_randomReduction_34 : decode cX8_randomReduction 34 = .ok (.aload_n 0, 1) := by decide +kernel
theorem dX8_randomReduction_35 : decode cX8_randomReduction 35 = .ok (.invokevirtual 215, 3) := by decide +kernel
theorem dX8_randomReduction_38 : decode cX8_randomReduction 38 = .ok (.iload_n 2, 1) := by decide +kernel
theorem dX8_randomReduction_39 : decode cX8_randomReduction 39 = .ok (.aload_n 0, 1) := by decide +kernel
theorem dX8_randomReduction_40 : decode cX8_randomReduction 40 = .ok (.getfield 16, 3) := by decide +kernel
theorem dX8_randomReduction_43 : decode cX8_randomReduction 43 = .ok (.invokevirtual 100, 3) := by decide +kernel
theorem dX8_randomReduction_46 : decode cX8_randomReduction 46 = .ok (.iadd, 1) := by decide +kernel
theorem dX8_randomReduction_47 : decode cX8_randomReduction 47 = .ok (.istore_n 2, 1) := by decide +kernel
theorem dX8_randomReduction_48 : decode cX8_randomReduction 48 = .ok (.iinc 3 1, 3) := by decide +kernel
theorem dX8_randomReduction_51 : decode cX8_randomReduction 51 = .ok (.goto (-22), 3) := by decide +kernel
theorem dX8_randomReduction_54 : decode cX8_randomReduction 54 = .ok (.iload_n 2, 1) := by decide +kernel
theorem dX8_randomReduction_55 : decode cX8_randomReduction 55 = .ok (.ireturn, 1) := by decide +kernel
theorem dX8_save_0 : decode cX8_save 0 = .ok (.iload_n 1, 1) := by decide +kernel
theorem dX8_save_1 : decode cX8_save 1 = .ok (.invokestatic 146, 3) := by decide +kernel
theorem dX8_save_4 : decode cX8_save 4 = .ok (.ifCond .ne 5, 3) := by decide +kernel
theorem dX8_save_7 : decode cX8_save 7 = .ok (.iconst (-1), 1) := by decide +kernel
theorem dX8_save_8 : decode cX8_save 8 = .ok (.ireturn, 1) := by decide +kernel
theorem dX8_save_9 : decode cX8_save 9 = .ok (.aload_n 0, 1) := by decide +kernel
theorem dX8_save_10 : decode cX8_save 10 = .ok (.iload_n 1, 1) := by decide +kernel
theorem dX8_save_11 : decode cX8_save 11 = .ok (.invokevirtual 149, 3) := by decide +kernel
theorem dX8_save_14 : decode cX8_save 14 = .ok (.aload_n 0, 1) := by decide +kernel
theorem dX8_save_15 : decode cX8_save 15 = .ok (.getfield 10, 3) := by decide +kernel
theorem dX8_save_18 : decode cX8_save 18 = .ok (.invokevirtual 128, 3) := by decide +kernel
theorem dX8_save_21 : decode cX8_save 21 = .ok (.aload_n 0, 1) := by decide +kernel
theorem dX8_save_22 : decode cX8_save 22 = .ok (.getfield 10, 3) := by decide +kernel
theorem dX8_save_25 : decode cX8_save 25 = .ok (.invokevirtual 100, 3) := by decide +kernel
theorem dX8_save_28 : decode cX8_save 28 = .ok (.ireturn, 1) := by decide +kernel
theorem dX8_restore_0 : decode cX8_restore 0 = .ok (.iload_n 1, 1) := by decide +kernel
theorem dX8_restore_1 : decode cX8_restore 1 = .ok (.invokestatic 146, 3) := by decide +kernel
theorem dX8_restore_4 : decode cX8_restore 4 = .ok (.ifCond .ne 5, 3) := by decide +kernel
theorem dX8_restore_7 : decode cX8_restore 7 = .ok (.iconst (-1), 1) := by decide +kernel
theorem dX8_restore_8 : decode cX8_restore 8 = .ok (.ireturn, 1) := by decide +kernel
theorem dX8_restore_9 : decode cX8_restore 9 = .ok (.aload_n 0, 1) := by decide +kernel
theorem dX8_restore_10 : decode cX8_restore 10 = .ok (.iload_n 1, 1) := by decide +kernel
theorem dX8_restore_11 : decode cX8_restore 11 = .ok (.invokevirtual 149, 3) := by decide +kernel
theorem dX8_restore_14 : decode cX8_restore 14 = .ok (.astore_n 2, 1) := by decide +kernel
theorem dX8_restore_15 : decode cX8_restore 15 = .ok (.aload_n 2, 1) := by decide +kernel
theorem dX8_restore_16 : decode cX8_restore 16 = .ok (.invokevirtual 100, 3) := by decide +kernel
theorem dX8_restore_19 : decode cX8_restore 19 = .ok (.ifCond .ne 6, 3) := by decide +kernel
theorem dX8_restore_22 : decode cX8_restore 22 = .ok (.bipush (-3), 2) := by decide +kernel
theorem dX8_restore_24 : decode cX8_restore 24 = .ok (.ireturn, 1) := by decide +kernel
theorem dX8_restore_25 : decode cX8_restore 25 = .ok (.aload_n 0, 1) := by decide +kernel
theorem dX8_restore_26 : decode cX8_restore 26 = .ok (.getfield 10, 3) := by decide +kernel
theorem dX8_restore_29 : decode cX8_restore 29 = .ok (.aload_n 2, 1) := by decide +kernel
theorem dX8_restore_30 : decode cX8_restore 30 = .ok (.invokevirtual 128, 3) := by decide +kernel
theorem dX8_restore_33 : decode cX8_restore 33 = .ok (.aload_n 0, 1) := by decide +kernel
theorem dX8_restore_34 : decode cX8_restore 34 = .ok (.getfield 52, 3) := by decide +kernel
theorem dX8_restore_37 : decode cX8_restore 37 = .ok (.invokevirtual 96, 3) := by decide +kernel
theorem dX8_restore_40 : decode cX8_restore 40 = .ok (.aload_n 0, 1) := by decide +kernel
theorem dX8_restore_41 : decode cX8_restore 41 = .ok (.getfield 10, 3) := by decide +kernel
theorem dX8_restore_44 : decode cX8_restore 44 = .ok (.invokevirtual 100, 3) := by decide +kernel
theorem dX8_restore_47 : decode cX8_restore 47 = .ok (.ireturn, 1) := by decide +kernel
theorem dX8_isVariable_0 : decode cX8_isVariable 0 = .ok (.iload_n 0, 1) := by decide +kernel
theorem dX8_isVariable_1 : decode cX8_isVariable 1 = .ok (.ifCond .lt 14, 3) := by decide +kernel
theorem dX8_isVariable_4 : decode cX8_isVariable 4 = .ok (.iload_n 0, 1) := by decide +kernel
theorem dX8_isVariable_5 : decode cX8_isVariable 5 = .ok (.sipush 1000, 3) := by decide +kernel
theorem dX8_isVariable_8 : decode cX8_isVariable 8 = .ok (.if_icmp .ge 7, 3) := by decide +kernel
theorem dX8_isVariable_11 : decode cX8_isVariable 11 = .ok (.iconst 1, 1) := by decide +kernel
theorem dX8_isVariable_12 : decode cX8_isVariable 12 = .ok (.goto 4, 3) := by decide +kernel
theorem dX8_isVariable_15 : decode cX8_isVariable 15 = .ok (.iconst 0, 1) := by decide +kernel
theorem dX8_isVariable_16 : decode cX8_isVariable 16 = .ok (.ireturn, 1) := by decide +kernel
theorem dX8_parts_0 : decode cX8_parts 0 = .ok (.iload_n 0, 1) := by decide +kernel
theorem dX8_parts_1 : decode cX8_parts 1 = .ok (.tableswitch 31 1000 1002 #[27, 29, 29], 27) := by decide +kernel
theorem dX8_parts_28 : decode cX8_parts 28 = .ok (.iconst 2, 1) := by decide +kernel
theorem dX8_parts_29 : decode cX8_parts 29 = .ok (.ireturn, 1) := by decide +kernel
theorem dX8_parts_30 : decode cX8_parts 30 = .ok (.iconst 1, 1) := by decide +kernel
theorem dX8_parts_31 : decode cX8_parts 31 = .ok (.ireturn, 1) := by decide +kernel
theorem dX8_parts_32 : decode cX8_parts 32 = .ok (.iconst 0, 1) := by decide +kernel
theorem dX8_parts_33 : decode cX8_parts 33 = .ok (.ireturn, 1) := by decide +kernel
theorem dX8_isStrategy_0 : decode cX8_isStrategy 0 = .ok (.iload_n 0, 1) := by decide +kernel
theorem dX8_isStrategy_1 : decode cX8_isStrategy 1 = .ok (.ifCond .lt 12, 3) := by decide +kernel
theorem dX8_isStrategy_4 : decode cX8_isStrategy 4 = .ok (.iload_n 0, 1) := by decide +kernel
theorem dX8_isStrategy_5 : decode cX8_isStrategy 5 = .ok (.iconst 4, 1) := by decide +kernel
theorem dX8_isStrategy_6 : decode cX8_isStrategy 6 = .ok (.if_icmp .ge 7, 3) := by decide +kernel
theorem dX8_isStrategy_9 : decode cX8_isStrategy 9 = .ok (.iconst 1, 1) := by decide +kernel
theorem dX8_isStrategy_10 : decode cX8_isStrategy 10 = .ok (.goto 4, 3) := by decide +kernel
theorem dX8_isStrategy_13 : decode cX8_isStrategy 13 = .ok (.iconst 0, 1) := by decide +kernel
theorem dX8_isStrategy_14 : decode cX8_isStrategy 14 = .ok (.ireturn, 1) := by decide +kernel
theorem dX8_isSlot_0 : decode cX8_isSlot 0 = .ok (.iload_n 0, 1) := by decide +kernel
theorem dX8_isSlot_1 : decode cX8_isSlot 1 = .ok (.ifCond .eq 8, 3) := by decide +kernel
theorem dX8_isSlot_4 : decode cX8_isSlot 4 = .ok (.iload_n 0, 1) := by decide +kernel
theorem dX8_isSlot_5 : decode cX8_isSlot 5 = .ok (.iconst 1, 1) := by decide +kernel
theorem dX8_isSlot_6 : decode cX8_isSlot 6 = .ok (.if_icmp .ne 7, 3) := by decide +kernel
theorem dX8_isSlot_9 : decode cX8_isSlot 9 = .ok (.iconst 1, 1) := by decide +kernel
theorem dX8_isSlot_10 : decode cX8_isSlot 10 = .ok (.goto 4, 3) := by decide +kernel
theorem dX8_isSlot_13 : decode cX8_isSlot 13 = .ok (.iconst 0, 1) := by decide +kernel
theorem dX8_isSlot_14 : decode cX8_isSlot 14 = .ok (.ireturn, 1) := by decide +kernel
theorem dX8_isPrediction_0 : decode cX8_isPrediction 0 = .ok (.iload_n 0, 1) := by decide +kernel
theorem dX8_isPrediction_1 : decode cX8_isPrediction 1 = .ok (.invokestatic 118, 3) := by decide +kernel
theorem dX8_isPrediction_4 : decode cX8_isPrediction 4 = .ok (.ifCond .eq 18, 3) := by decide +kernel
theorem dX8_isPrediction_7 : decode cX8_isPrediction 7 = .ok (.iload_n 1, 1) := by decide +kernel
theorem dX8_isPrediction_8 : decode cX8_isPrediction 8 = .ok (.ifCond .lt 14, 3) := by decide +kernel
theorem dX8_isPrediction_11 : decode cX8_isPrediction 11 = .ok (.iload_n 1, 1) := by decide +kernel
theorem dX8_isPrediction_12 : decode cX8_isPrediction 12 = .ok (.sipush 200, 3) := by decide +kernel
theorem dX8_isPrediction_15 : decode cX8_isPrediction 15 = .ok (.if_icmp .gt 7, 3) := by decide +kernel
theorem dX8_isPrediction_18 : decode cX8_isPrediction 18 = .ok (.iconst 1, 1) := by decide +kernel
theorem dX8_isPrediction_19 : decode cX8_isPrediction 19 = .ok (.goto 4, 3) := by decide +kernel
theorem dX8_isPrediction_22 : decode cX8_isPrediction 22 = .ok (.iconst 0, 1) := by decide +kernel
theorem dX8_isPrediction_23 : decode cX8_isPrediction 23 = .ok (.ireturn, 1) := by decide +kernel
theorem dX8_slotTerm_0 : decode cX8_slotTerm 0 = .ok (.iload_n 1, 1) := by decide +kernel
theorem dX8_slotTerm_1 : decode cX8_slotTerm 1 = .ok (.ifCond .ne 10, 3) := by decide +kernel
theorem dX8_slotTerm_4 : decode cX8_slotTerm 4 = .ok (.aload_n 0, 1) := by decide +kernel
theorem dX8_slotTerm_5 : decode cX8_slotTerm 5 = .ok (.getfield 22, 3) := by decide +kernel
theorem dX8_slotTerm_8 : decode cX8_slotTerm 8 = .ok (.goto 7, 3) := by decide +kernel
theorem dX8_slotTerm_11 : decode cX8_slotTerm 11 = .ok (.aload_n 0, 1) := by decide +kernel
theorem dX8_slotTerm_12 : decode cX8_slotTerm 12 = .ok (.getfield 25, 3) := by decide +kernel
theorem dX8_slotTerm_15 : decode cX8_slotTerm 15 = .ok (.areturn, 1) := by decide +kernel
theorem dX8_actWithCopy_0 : decode cX8_actWithCopy 0 = .ok (.aload_n 0, 1) := by decide +kernel
theorem dX8_actWithCopy_1 : decode cX8_actWithCopy 1 = .ok (.getfield 52, 3) := by decide +kernel
theorem dX8_actWithCopy_4 : decode cX8_actWithCopy 4 = .ok (.aload_n 0, 1) := by decide +kernel
theorem dX8_actWithCopy_5 : decode cX8_actWithCopy 5 = .ok (.getfield 10, 3) := by decide +kernel
theorem dX8_actWithCopy_8 : decode cX8_actWithCopy 8 = .ok (.invokevirtual 218, 3) := by decide +kernel
theorem dX8_actWithCopy_11 : decode cX8_actWithCopy 11 = .ok (.aload_n 0, 1) := by decide +kernel
theorem dX8_actWithCopy_12 : decode cX8_actWithCopy 12 = .ok (.getfield 10, 3) := by decide +kernel
theorem dX8_actWithCopy_15 : decode cX8_actWithCopy 15 = .ok (.aload_n 0, 1) := by decide +kernel
theorem dX8_actWithCopy_16 : decode cX8_actWithCopy 16 = .ok (.getfield 16, 3) := by decide +kernel
theorem dX8_actWithCopy_19 : decode cX8_actWithCopy 19 = .ok (.invokevirtual 128, 3) := by decide +kernel
theorem dX8_actWithCopy_22 : decode cX8_actWithCopy 22 = .ok (.aload_n 0, 1) := by decide +kernel
theorem dX8_actWithCopy_23 : decode cX8_actWithCopy 23 = .ok (.getfield 10, 3) := by decide +kernel
theorem dX8_actWithCopy_26 : decode cX8_actWithCopy 26 = .ok (.invokevirtual 100, 3) := by decide +kernel
theorem dX8_actWithCopy_29 : decode cX8_actWithCopy 29 = .ok (.ireturn, 1) := by decide +kernel
theorem dX8_performOnCopy_0 : decode cX8_performOnCopy 0 = .ok (.aload_n 0, 1) := by decide +kernel
theorem dX8_performOnCopy_1 : decode cX8_performOnCopy 1 = .ok (.getfield 16, 3) := by decide +kernel
theorem dX8_performOnCopy_4 : decode cX8_performOnCopy 4 = .ok (.aload_n 0, 1) := by decide +kernel
theorem dX8_performOnCopy_5 : decode cX8_performOnCopy 5 = .ok (.getfield 10, 3) := by decide +kernel
theorem dX8_performOnCopy_8 : decode cX8_performOnCopy 8 = .ok (.invokevirtual 128, 3) := by decide +kernel
theorem dX8_performOnCopy_11 : decode cX8_performOnCopy 11 = .ok (.aload_n 0, 1) := by decide +kernel
theorem dX8_performOnCopy_12 : decode cX8_performOnCopy 12 = .ok (.getfield 38, 3) := by decide +kernel
theorem dX8_performOnCopy_15 : decode cX8_performOnCopy 15 = .ok (.aload_n 0, 1) := by decide +kernel
theorem dX8_performOnCopy_16 : decode cX8_performOnCopy 16 = .ok (.getfield 16, 3) := by decide +kernel
theorem dX8_performOnCopy_19 : decode cX8_performOnCopy 19 = .ok (.iload_n 1, 1) := by decide +kernel
theorem dX8_performOnCopy_20 : decode cX8_performOnCopy 20 = .ok (.iload_n 2, 1) := by decide +kernel
theorem dX8_performOnCopy_21 : decode cX8_performOnCopy 21 = .ok (.invokevirtual 138, 3) := by decide +kernel
theorem dX8_performOnCopy_24 : decode cX8_performOnCopy 24 = .ok (.ireturn, 1) := by decide +kernel
theorem dX8_normaliseInto_0 : decode cX8_normaliseInto 0 = .ok (.aload_n 1, 1) := by decide +kernel
theorem dX8_normaliseInto_1 : decode cX8_normaliseInto 1 = .ok (.aload_n 2, 1) := by decide +kernel
theorem dX8_normaliseInto_2 : decode cX8_normaliseInto 2 = .ok (.invokevirtual 128, 3) := by decide +kernel
theorem dX8_normaliseInto_5 : decode cX8_normaliseInto 5 = .ok (.aload_n 0, 1) := by decide +kernel
theorem dX8_normaliseInto_6 : decode cX8_normaliseInto 6 = .ok (.getfield 38, 3) := by decide +kernel
theorem dX8_normaliseInto_9 : decode cX8_normaliseInto 9 = .ok (.aload_n 1, 1) := by decide +kernel
theorem dX8_normaliseInto_10 : decode cX8_normaliseInto 10 = .ok (.iconst 0, 1) := by decide +kernel
theorem dX8_normaliseInto_11 : decode cX8_normaliseInto 11 = .ok (.sipush 200, 3) := by decide +kernel
theorem dX8_normaliseInto_14 : decode cX8_normaliseInto 14 = .ok (.invokevirtual 138, 3) := by decide +kernel
theorem dX8_normaliseInto_17 : decode cX8_normaliseInto 17 = .ok (.pop, 1) := by decide +kernel
theorem dX8_normaliseInto_18 : decode cX8_normaliseInto 18 = .ok (.aload_n 1, 1) := by decide +kernel
theorem dX8_normaliseInto_19 : decode cX8_normaliseInto 19 = .ok (.iconst 0, 1) := by decide +kernel
theorem dX8_normaliseInto_20 : decode cX8_normaliseInto 20 = .ok (.invokestatic 221, 3) := by decide +kernel
theorem dX8_normaliseInto_23 : decode cX8_normaliseInto 23 = .ok (.bipush (-9), 2) := by decide +kernel
theorem dX8_normaliseInto_25 : decode cX8_normaliseInto 25 = .ok (.if_icmp .ne 7, 3) := by decide +kernel
theorem dX8_normaliseInto_28 : decode cX8_normaliseInto 28 = .ok (.iconst 1, 1) := by decide +kernel
theorem dX8_normaliseInto_29 : decode cX8_normaliseInto 29 = .ok (.goto 4, 3) := by decide +kernel
theorem dX8_normaliseInto_32 : decode cX8_normaliseInto 32 = .ok (.iconst 0, 1) := by decide +kernel
theorem dX8_normaliseInto_33 : decode cX8_normaliseInto 33 = .ok (.ireturn, 1) := by decide +kernel
theorem dX8_withoutLowGroups_0 : decode cX8_withoutLowGroups 0 = .ok (.lload_n 0, 1) := by decide +kernel
theorem dX8_withoutLowGroups_1 : decode cX8_withoutLowGroups 1 = .ok (.lstore_n 3, 1) := by decide +kernel
theorem dX8_withoutLowGroups_2 : decode cX8_withoutLowGroups 2 = .ok (.iconst 0, 1) := by decide +kernel
theorem dX8_withoutLowGroups_3 : decode cX8_withoutLowGroups 3 = .ok (.istore 5, 2) := by decide +kernel
theorem dX8_withoutLowGroups_5 : decode cX8_withoutLowGroups 5 = .ok (.iload 5, 2) := by decide +kernel
theorem dX8_withoutLowGroups_7 : decode cX8_withoutLowGroups 7 = .ok (.iload_n 2, 1) := by decide +kernel
theorem dX8_withoutLowGroups_8 : decode cX8_withoutLowGroups 8 = .ok (.if_icmp .ge 15, 3) := by decide +kernel
theorem dX8_withoutLowGroups_11 : decode cX8_withoutLowGroups 11 = .ok (.lload_n 3, 1) := by decide +kernel
theorem dX8_withoutLowGroups_12 : decode cX8_withoutLowGroups 12 = .ok (.ldc2_w 200, 3) := by decide +kernel
theorem dX8_withoutLowGroups_15 : decode cX8_withoutLowGroups 15 = .ok (.ldiv, 1) := by decide +kernel
theorem dX8_withoutLowGroups_16 : decode cX8_withoutLowGroups 16 = .ok (.lstore_n 3, 1) := by decide +kernel
theorem dX8_withoutLowGroups_17 : decode cX8_withoutLowGroups 17 = .ok (.iinc 5 1, 3) := by decide +kernel
theorem dX8_withoutLowGroups_20 : decode cX8_withoutLowGroups 20 = .ok (.goto (-15), 3) := by decide +kernel
theorem dX8_withoutLowGroups_23 : decode cX8_withoutLowGroups 23 = .ok (.lload_n 3, 1) := by decide +kernel
theorem dX8_withoutLowGroups_24 : decode cX8_withoutLowGroups 24 = .ok (.lreturn, 1) := by decide +kernel
theorem dX8_commandSucceeds_0 : decode cX8_commandSucceeds 0 = .ok (.iload_n 1, 1) := by decide +kernel
theorem dX8_commandSucceeds_1 : decode cX8_commandSucceeds 1 = .ok (.bipush 10, 2) := by decide +kernel
theorem dX8_commandSucceeds_3 : decode cX8_commandSucceeds 3 = .ok (.idiv, 1) := by decide +kernel
theorem dX8_commandSucceeds_4 : decode cX8_commandSucceeds 4 = .ok (.bipush 10, 2) := by decide +kernel
theorem dX8_commandSucceeds_6 : decode cX8_commandSucceeds 6 = .ok (.irem, 1) := by decide +kernel
theorem dX8_commandSucceeds_7 : decode cX8_commandSucceeds 7 = .ok (.istore_n 2, 1) := by decide +kernel
theorem dX8_commandSucceeds_8 : decode cX8_commandSucceeds 8 = .ok (.iload_n 1, 1) := by decide +kernel
theorem dX8_commandSucceeds_9 : decode cX8_commandSucceeds 9 = .ok (.bipush 10, 2) := by decide +kernel
theorem dX8_commandSucceeds_11 : decode cX8_commandSucceeds 11 = .ok (.irem, 1) := by decide +kernel
theorem dX8_commandSucceeds_12 : decode cX8_commandSucceeds 12 = .ok (.istore_n 3, 1) := by decide +kernel
theorem dX8_commandSucceeds_13 : decode cX8_commandSucceeds 13 = .ok (.iload_n 1, 1) := by decide +kernel
theorem dX8_commandSucceeds_14 : decode cX8_commandSucceeds 14 = .ok (.bipush 100, 2) := by decide +kernel
theorem dX8_commandSucceeds_16 : decode cX8_commandSucceeds 16 = .ok (.idiv, 1) := by decide +kernel
theorem dX8_commandSucceeds_17 : decode cX8_commandSucceeds 17 = .ok (.tableswitch 167 1 5 #[35, 62, 82, 102, 144], 35) := by decide +kernel
theorem dX8_commandSucceeds_52 : decode cX8_commandSucceeds 52 = .ok (.iload_n 2, 1) := by decide +kernel
theorem dX8_commandSucceeds_53 : decode cX8_commandSucceeds 53 = .ok (.ifCond .ne 24, 3) := by decide +kernel
theorem dX8_commandSucceeds_56 : decode cX8_commandSucceeds 56 = .ok (.aload_n 0, 1) := by decide +kernel
theorem dX8_commandSucceeds_57 : decode cX8_commandSucceeds 57 = .ok (.getfield 38, 3) := by decide +kernel
theorem dX8_commandSucceeds_60 : decode cX8_commandSucceeds 60 = .ok (.aload_n 0, 1) := by decide +kernel
theorem dX8_commandSucceeds_61 : decode cX8_commandSucceeds 61 = .ok (.getfield 16, 3) := by decide +kernel
theorem dX8_commandSucceeds_64 : decode cX8_commandSucceeds 64 = .ok (.iload_n 3, 1) := by decide +kernel
theorem dX8_commandSucceeds_65 : decode cX8_commandSucceeds 65 = .ok (.iconst 1, 1) := by decide +kernel
theorem dX8_commandSucceeds_66 : decode cX8_commandSucceeds 66 = .ok (.invokevirtual 138, 3) := by decide +kernel
theorem dX8_commandSucceeds_69 : decode cX8_commandSucceeds 69 = .ok (.iconst 1, 1) := by decide +kernel
theorem dX8_commandSucceeds_70 : decode cX8_commandSucceeds 70 = .ok (.if_icmp .ne 7, 3) := by decide +kernel
theorem dX8_commandSucceeds_73 : decode cX8_commandSucceeds 73 = .ok (.iconst 1, 1) := by decide +kernel
theorem dX8_commandSucceeds_74 : decode cX8_commandSucceeds 74 = .ok (.goto 4, 3) := by decide +kernel
theorem dX8_commandSucceeds_77 : decode cX8_commandSucceeds 77 = .ok (.iconst 0, 1) := by decide +kernel
theorem dX8_commandSucceeds_78 : decode cX8_commandSucceeds 78 = .ok (.ireturn, 1) := by decide +kernel
theorem dX8_commandSucceeds_79 : decode cX8_commandSucceeds 79 = .ok (.aload_n 0, 1) := by decide +kernel
theorem dX8_commandSucceeds_80 : decode cX8_commandSucceeds 80 = .ok (.getfield 16, 3) := by decide +kernel
theorem dX8_commandSucceeds_83 : decode cX8_commandSucceeds 83 = .ok (.invokevirtual 100, 3) := by decide +kernel
theorem dX8_commandSucceeds_86 : decode cX8_commandSucceeds 86 = .ok (.iload_n 1, 1) := by decide +kernel
theorem dX8_commandSucceeds_87 : decode cX8_commandSucceeds 87 = .ok (.bipush 100, 2) := by decide +kernel
theorem dX8_commandSucceeds_89 : decode cX8_commandSucceeds 89 = .ok (.irem, 1) := by decide +kernel
theorem dX8_commandSucceeds_90 : decode cX8_commandSucceeds 90 = .ok (.if_icmp .ne 7, 3) := by decide +kernel
theorem dX8_commandSucceeds_93 : decode cX8_commandSucceeds 93 = .ok (.iconst 1, 1) := by decide +kernel
theorem dX8_commandSucceeds_94 : decode cX8_commandSucceeds 94 = .ok (.goto 4, 3) := by decide +kernel
theorem dX8_commandSucceeds_97 : decode cX8_commandSucceeds 97 = .ok (.iconst 0, 1) := by decide +kernel
theorem dX8_commandSucceeds_98 : decode cX8_commandSucceeds 98 = .ok (.ireturn, 1) := by decide +kernel
theorem dX8_commandSucceeds_99 : decode cX8_commandSucceeds 99 = .ok (.aload_n 0, 1) := by decide +kernel
theorem dX8_commandSucceeds_100 : decode cX8_commandSucceeds 100 = .ok (.getfield 16, 3) := by decide +kernel
theorem dX8_commandSucceeds_103 : decode cX8_commandSucceeds 103 = .ok (.invokestatic 114, 3) := by decide +kernel
theorem dX8_commandSucceeds_106 : decode cX8_commandSucceeds 106 = .ok (.iload_n 1, 1) := by decide +kernel
theorem dX8_commandSucceeds_107 : decode cX8_commandSucceeds 107 = .ok (.bipush 100, 2) := by decide +kernel
theorem dX8_commandSucceeds_109 : decode cX8_commandSucceeds 109 = .ok (.irem, 1) := by decide +kernel
theorem dX8_commandSucceeds_110 : decode cX8_commandSucceeds 110 = .ok (.if_icmp .ne 7, 3) := by decide +kernel
theorem dX8_commandSucceeds_113 : decode cX8_commandSucceeds 113 = .ok (.iconst 1, 1) := by decide +kernel
theorem dX8_commandSucceeds_114 : decode cX8_commandSucceeds 114 = .ok (.goto 4, 3) := by decide +kernel
theorem dX8_commandSucceeds_117 : decode cX8_commandSucceeds 117 = .ok (.iconst 0, 1) := by decide +kernel
theorem dX8_commandSucceeds_118 : decode cX8_commandSucceeds 118 = .ok (.ireturn, 1) := by decide +kernel
theorem dX8_commandSucceeds_119 : decode cX8_commandSucceeds 119 = .ok (.aload_n 0, 1) := by decide +kernel
theorem dX8_commandSucceeds_120 : decode cX8_commandSucceeds 120 = .ok (.getfield 19, 3) := by decide +kernel
theorem dX8_commandSucceeds_123 : decode cX8_commandSucceeds 123 = .ok (.aload_n 0, 1) := by decide +kernel
theorem dX8_commandSucceeds_124 : decode cX8_commandSucceeds 124 = .ok (.getfield 16, 3) := by decide +kernel
theorem dX8_commandSucceeds_127 : decode cX8_commandSucceeds 127 = .ok (.invokevirtual 128, 3) := by decide +kernel
theorem dX8_commandSucceeds_130 : decode cX8_commandSucceeds 130 = .ok (.iload_n 2, 1) := by decide +kernel
theorem dX8_commandSucceeds_131 : decode cX8_commandSucceeds 131 = .ok (.invokestatic 118, 3) := by decide +kernel
theorem dX8_commandSucceeds_134 : decode cX8_commandSucceeds 134 = .ok (.ifCond .eq 25, 3) := by decide +kernel
theorem dX8_commandSucceeds_137 : decode cX8_commandSucceeds 137 = .ok (.aload_n 0, 1) := by decide +kernel
theorem dX8_commandSucceeds_138 : decode cX8_commandSucceeds 138 = .ok (.getfield 38, 3) := by decide +kernel
theorem dX8_commandSucceeds_141 : decode cX8_commandSucceeds 141 = .ok (.aload_n 0, 1) := by decide +kernel
theorem dX8_commandSucceeds_142 : decode cX8_commandSucceeds 142 = .ok (.getfield 19, 3) := by decide +kernel
theorem dX8_commandSucceeds_145 : decode cX8_commandSucceeds 145 = .ok (.iload_n 2, 1) := by decide +kernel
theorem dX8_commandSucceeds_146 : decode cX8_commandSucceeds 146 = .ok (.bipush 9, 2) := by decide +kernel
theorem dX8_commandSucceeds_148 : decode cX8_commandSucceeds 148 = .ok (.invokevirtual 138, 3) := by decide +kernel
theorem dX8_commandSucceeds_151 : decode cX8_commandSucceeds 151 = .ok (.iload_n 3, 1) := by decide +kernel
theorem dX8_commandSucceeds_152 : decode cX8_commandSucceeds 152 = .ok (.if_icmp .ne 7, 3) := by decide +kernel
theorem dX8_commandSucceeds_155 : decode cX8_commandSucceeds 155 = .ok (.iconst 1, 1) := by decide +kernel
theorem dX8_commandSucceeds_156 : decode cX8_commandSucceeds 156 = .ok (.goto 4, 3) := by decide +kernel
theorem dX8_commandSucceeds_159 : decode cX8_commandSucceeds 159 = .ok (.iconst 0, 1) := by decide +kernel
theorem dX8_commandSucceeds_160 : decode cX8_commandSucceeds 160 = .ok (.ireturn, 1) := by decide +kernel
theorem dX8_commandSucceeds_161 : decode cX8_commandSucceeds 161 = .ok (.iload_n 1, 1) := by decide +kernel
theorem dX8_commandSucceeds_162 : decode cX8_commandSucceeds 162 = .ok (.sipush 500, 3) := by decide +kernel
theorem dX8_commandSucceeds_165 : decode cX8_commandSucceeds 165 = .ok (.if_icmp .ne 17, 3) := by decide +kernel
theorem dX8_commandSucceeds_168 : decode cX8_commandSucceeds 168 = .ok (.aload_n 0, 1) := by decide +kernel
theorem dX8_commandSucceeds_169 : decode cX8_commandSucceeds 169 = .ok (.getfield 16, 3) := by decide +kernel
theorem dX8_commandSucceeds_172 : decode cX8_commandSucceeds 172 = .ok (.invokevirtual 142, 3) := by decide +kernel
theorem dX8_commandSucceeds_175 : decode cX8_commandSucceeds 175 = .ok (.ifCond .eq 7, 3) := by decide +kernel
theorem dX8_commandSucceeds_178 : decode cX8_commandSucceeds 178 = .ok (.iconst 1, 1) := by decide +kernel
theorem dX8_commandSucceeds_179 : decode cX8_commandSucceeds 179 = .ok (.goto 4, 3) := by decide +kernel
theorem dX8_commandSucceeds_182 : decode cX8_commandSucceeds 182 = .ok (.iconst 0, 1) := by decide +kernel
theorem dX8_commandSucceeds_183 : decode cX8_commandSucceeds 183 = .ok (.ireturn, 1) := by decide +kernel
theorem dX8_commandSucceeds_184 : decode cX8_commandSucceeds 184 = .ok (.iconst 0, 1) := by decide +kernel
theorem dX8_commandSucceeds_185 : decode cX8_commandSucceeds 185 = .ok (.ireturn, 1) := by decide +kernel
theorem dX8_observationsHold_0 : decode cX8_observationsHold 0 = .ok (.aload_n 0, 1) := by decide +kernel
theorem dX8_observationsHold_1 : decode cX8_observationsHold 1 = .ok (.getfield 16, 3) := by decide +kernel
theorem dX8_observationsHold_4 : decode cX8_observationsHold 4 = .ok (.aload_n 0, 1) := by decide +kernel
theorem dX8_observationsHold_5 : decode cX8_observationsHold 5 = .ok (.getfield 10, 3) := by decide +kernel
theorem dX8_observationsHold_8 : decode cX8_observationsHold 8 = .ok (.invokevirtual 128, 3) := by decide +kernel
theorem dX8_observationsHold_11 : decode cX8_observationsHold 11 = .ok (.aload_n 0, 1) := by decide +kernel
theorem dX8_observationsHold_12 : decode cX8_observationsHold 12 = .ok (.getfield 66, 3) := by decide +kernel
theorem dX8_observationsHold_15 : decode cX8_observationsHold 15 = .ok (.invokevirtual 224, 3) := by decide +kernel
theorem dX8_observationsHold_18 : decode cX8_observationsHold 18 = .ok (.bipush 50, 2) := by decide +kernel
theorem dX8_observationsHold_20 : decode cX8_observationsHold 20 = .ok (.invokestatic 227, 3) := by decide +kernel
theorem dX8_observationsHold_23 : decode cX8_observationsHold 23 = .ok (.istore_n 2, 1) := by decide +kernel
theorem dX8_observationsHold_24 : decode cX8_observationsHold 24 = .ok (.iconst 0, 1) := by decide +kernel
theorem dX8_observationsHold_25 : decode cX8_observationsHold 25 = .ok (.istore_n 3, 1) := by decide +kernel
theorem dX8_observationsHold_26 : decode cX8_observationsHold 26 = .ok (.iload_n 3, 1) := by decide +kernel
theorem dX8_observationsHold_27 : decode cX8_observationsHold 27 = .ok (.iload_n 2, 1) := by decide +kernel
theorem dX8_observationsHold_28 : decode cX8_observationsHold 28 = .ok (.if_icmp .gt 47, 3) := by decide +kernel
theorem dX8_observationsHold_31 : decode cX8_observationsHold 31 = .ok (.iload_n 3, 1) := by decide +kernel
theorem dX8_observationsHold_32 : decode cX8_observationsHold 32 = .ok (.ifCond .le 17, 3) := by decide +kernel
theorem dX8_observationsHold_35 : decode cX8_observationsHold 35 = .ok (.aload_n 0, 1) := by decide +kernel
theorem dX8_observationsHold_36 : decode cX8_observationsHold 36 = .ok (.getfield 38, 3) := by decide +kernel
theorem dX8_observationsHold_39 : decode cX8_observationsHold 39 = .ok (.aload_n 0, 1) := by decide +kernel
theorem dX8_observationsHold_40 : decode cX8_observationsHold 40 = .ok (.getfield 16, 3) := by decide +kernel
theorem dX8_observationsHold_43 : decode cX8_observationsHold 43 = .ok (.iload_n 1, 1) := by decide +kernel
theorem dX8_observationsHold_44 : decode cX8_observationsHold 44 = .ok (.iconst 1, 1) := by decide +kernel
theorem dX8_observationsHold_45 : decode cX8_observationsHold 45 = .ok (.invokevirtual 138, 3) := by decide +kernel
theorem dX8_observationsHold_48 : decode cX8_observationsHold 48 = .ok (.pop, 1) := by decide +kernel
theorem dX8_observationsHold_49 : decode cX8_observationsHold 49 = .ok (.aload_n 0, 1) := by decide +kernel
theorem dX8_observationsHold_50 : decode cX8_observationsHold 50 = .ok (.getfield 66, 3) := by decide +kernel
theorem dX8_observationsHold_53 : decode cX8_observationsHold 53 = .ok (.iload_n 3, 1) := by decide +kernel
theorem dX8_observationsHold_54 : decode cX8_observationsHold 54 = .ok (.aload_n 0, 1) := by decide +kernel
theorem dX8_observationsHold_55 : decode cX8_observationsHold 55 = .ok (.getfield 16, 3) := by decide +kernel
theorem dX8_observationsHold_58 : decode cX8_observationsHold 58 = .ok (.invokevirtual 100, 3) := by decide +kernel
theorem dX8_observationsHold_61 : decode cX8_observationsHold 61 = .ok (.invokevirtual 232, 3) := by decide +kernel
theorem dX8_observationsHold_64 : decode cX8_observationsHold 64 = .ok (.ifCond .ne 5, 3) := by decide +kernel
theorem dX8_observationsHold_67 : decode cX8_observationsHold 67 = .ok (.iconst 0, 1) := by decide +kernel
theorem dX8_observationsHold_68 : decode cX8_observationsHold 68 = .ok (.ireturn, 1) := by decide +kernel
theorem dX8_observationsHold_69 : decode cX8_observationsHold 69 = .ok (.iinc 3 1, 3) := by decide +kernel
theorem dX8_observationsHold_72 : decode cX8_observationsHold 72 = .ok (.goto (-46), 3) := by decide +kernel
theorem dX8_observationsHold_75 : decode cX8_observationsHold 75 = .ok (.iconst 1, 1) := by decide +kernel
theorem dX8_observationsHold_76 : decode cX8_observationsHold 76 = .ok (.ireturn, 1) := by decide +kernel
theorem dX8_randomStepOnCopy_0 : decode cX8_randomStepOnCopy 0 = .ok (.aload_n 0, 1) := by decide +kernel
theorem dX8_randomStepOnCopy_1 : decode cX8_randomStepOnCopy 1 = .ok (.aload_n 0, 1) := by decide +kernel
theorem dX8_randomStepOnCopy_2 : decode cX8_randomStepOnCopy 2 = .ok (.getfield 70, 3) := by decide +kernel
theorem dX8_randomStepOnCopy_5 : decode cX8_randomStepOnCopy 5 = .ok (.ldc2_w 235, 3) := by decide +kernel
theorem dX8_randomStepOnCopy_8 : decode cX8_randomStepOnCopy 8 = .ok (.lmul, 1) := by decide +kernel
theorem dX8_randomStepOnCopy_9 : decode cX8_randomStepOnCopy 9 = .ok (.ldc2_w 237, 3) := by decide +kernel
theorem dX8_randomStepOnCopy_12 : decode cX8_randomStepOnCopy 12 = .ok (.ladd, 1) := by decide +kernel
theorem dX8_randomStepOnCopy_13 : decode cX8_randomStepOnCopy 13 = .ok (.putfield 70, 3) := by decide +kernel
theorem dX8_randomStepOnCopy_16 : decode cX8_randomStepOnCopy 16 = .ok (.aload_n 0, 1) := by decide +kernel
theorem dX8_randomStepOnCopy_17 : decode cX8_randomStepOnCopy 17 = .ok (.getfield 70, 3) := by decide +kernel
theorem dX8_randomStepOnCopy_20 : decode cX8_randomStepOnCopy 20 = .ok (.bipush 33, 2) := by decide +kernel
theorem dX8_randomStepOnCopy_22 : decode cX8_randomStepOnCopy 22 = .ok (.lushr, 1) := by decide +kernel
theorem dX8_randomStepOnCopy_23 : decode cX8_randomStepOnCopy 23 = .ok (.l2i, 1) := by decide +kernel
theorem dX8_randomStepOnCopy_24 : decode cX8_randomStepOnCopy 24 = .ok (.istore_n 1, 1) := by decide +kernel
theorem dX8_randomStepOnCopy_25 : decode cX8_randomStepOnCopy 25 = .ok (.aload_n 0, 1) := by decide +kernel
theorem dX8_randomStepOnCopy_26 : decode cX8_randomStepOnCopy 26 = .ok (.getfield 16, 3) := by decide +kernel
theorem dX8_randomStepOnCopy_29 : decode cX8_randomStepOnCopy 29 = .ok (.invokestatic 114, 3) := by decide +kernel
theorem dX8_randomStepOnCopy_32 : decode cX8_randomStepOnCopy 32 = .ok (.istore_n 2, 1) := by decide +kernel
theorem dX8_randomStepOnCopy_33 : decode cX8_randomStepOnCopy 33 = .ok (.iload_n 2, 1) := by decide +kernel
theorem dX8_randomStepOnCopy_34 : decode cX8_randomStepOnCopy 34 = .ok (.ifCond .le 25, 3) := by decide +kernel
theorem dX8_randomStepOnCopy_37 : decode cX8_randomStepOnCopy 37 = .ok (.aload_n 0, 1) := by decide +kernel
theorem dX8_randomStepOnCopy_38 : decode cX8_randomStepOnCopy 38 = .ok (.getfield 38, 3) := by decide +kernel
theorem dX8_randomStepOnCopy_41 : decode cX8_randomStepOnCopy 41 = .ok (.aload_n 0, 1) := by decide +kernel
theorem dX8_randomStepOnCopy_42 : decode cX8_randomStepOnCopy 42 = .ok (.getfield 16, 3) := by decide +kernel
theorem dX8_randomStepOnCopy_45 : decode cX8_randomStepOnCopy 45 = .ok (.aload_n 0, 1) := by decide +kernel
theorem dX8_randomStepOnCopy_46 : decode cX8_randomStepOnCopy 46 = .ok (.getfield 16, 3) := by decide +kernel
theorem dX8_randomStepOnCopy_49 : decode cX8_randomStepOnCopy 49 = .ok (.iload_n 1, 1) := by decide +kernel
theorem dX8_randomStepOnCopy_50 : decode cX8_randomStepOnCopy 50 = .ok (.iload_n 2, 1) := by decide +kernel
theorem dX8_randomStepOnCopy_51 : decode cX8_randomStepOnCopy 51 = .ok (.irem, 1) := by decide +kernel
theorem dX8_randomStepOnCopy_52 : decode cX8_randomStepOnCopy 52 = .ok (.invokestatic 239, 3) := by decide +kernel
theorem dX8_randomStepOnCopy_55 : decode cX8_randomStepOnCopy 55 = .ok (.invokevirtual 131, 3) := by decide +kernel
theorem dX8_randomStepOnCopy_58 : decode cX8_randomStepOnCopy 58 = .ok (.pop, 1) := by decide +kernel
theorem dX8_randomStepOnCopy_59 : decode cX8_randomStepOnCopy 59 = .ok (.return_, 1) := by decide +kernel
end
section
theorem dX9_init_0 : decode cX9_init 0 = .ok (.aload_n 0, 1) := by decide +kernel
theorem dX9_init_1 : decode cX9_init 1 = .ok (.invokespecial 1, 3) := by decide +kernel
theorem dX9_init_4 : decode cX9_init 4 = .ok (.aload_n 0, 1) := by decide +kernel
theorem dX9_init_5 : decode cX9_init 5 = .ok (.bipush 60, 2) := by decide +kernel
theorem dX9_init_7 : decode cX9_init 7 = .ok (.newarray .int, 2) := by decide +kernel
theorem dX9_init_9 : decode cX9_init 9 = .ok (.putfield 7, 3) := by decide +kernel
theorem dX9_init_12 : decode cX9_init 12 = .ok (.aload_n 0, 1) := by decide +kernel
theorem dX9_init_13 : decode cX9_init 13 = .ok (.sipush 201, 3) := by decide +kernel
theorem dX9_init_16 : decode cX9_init 16 = .ok (.newarray .int, 2) := by decide +kernel
theorem dX9_init_18 : decode cX9_init 18 = .ok (.putfield 13, 3) := by decide +kernel
theorem dX9_init_21 : decode cX9_init 21 = .ok (.aload_n 0, 1) := by decide +kernel
theorem dX9_init_22 : decode cX9_init 22 = .ok (.sipush 201, 3) := by decide +kernel
theorem dX9_init_25 : decode cX9_init 25 = .ok (.newarray .int, 2) := by decide +kernel
theorem dX9_init_27 : decode cX9_init 27 = .ok (.putfield 16, 3) := by decide +kernel
theorem dX9_init_30 : decode cX9_init 30 = .ok (.aload_n 0, 1) := by decide +kernel
theorem dX9_init_31 : decode cX9_init 31 = .ok (.sipush 201, 3) := by decide +kernel
theorem dX9_init_34 : decode cX9_init 34 = .ok (.newarray .int, 2) := by decide +kernel
theorem dX9_init_36 : decode cX9_init 36 = .ok (.putfield 19, 3) := by decide +kernel
theorem dX9_init_39 : decode cX9_init 39 = .ok (.aload_n 0, 1) := by decide +kernel
theorem dX9_init_40 : decode cX9_init 40 = .ok (.sipush 201, 3) := by decide +kernel
theorem dX9_init_43 : decode cX9_init 43 = .ok (.newarray .int, 2) := by decide +kernel
theorem dX9_init_45 : decode cX9_init 45 = .ok (.putfield 22, 3) := by decide +kernel
theorem dX9_init_48 : decode cX9_init 48 = .ok (.aload_n 0, 1) := by decide +kernel
theorem dX9_init_49 : decode cX9_init 49 = .ok (.sipush 2814, 3) := by decide +kernel
theorem dX9_init_52 : decode cX9_init 52 = .ok (.newarray .int, 2) := by decide +kernel
theorem dX9_init_54 : decode cX9_init 54 = .ok (.putfield 25, 3) := by decide +kernel
theorem dX9_init_57 : decode cX9_init 57 = .ok (.aload_n 0, 1) := by decide +kernel
theorem dX9_init_58 : decode cX9_init 58 = .ok (.sipush 402, 3) := by decide +kernel
theorem dX9_init_61 : decode cX9_init 61 = .ok (.newarray .int, 2) := by decide +kernel
theorem dX9_init_63 : decode cX9_init 63 = .ok (.putfield 28, 3) := by decide +kernel
theorem dX9_init_66 : decode cX9_init 66 = .ok (.aload_n 0, 1) := by decide +kernel
theorem dX9_init_67 : decode cX9_init 67 = .ok (.iconst 2, 1) := by decide +kernel
theorem dX9_init_68 : decode cX9_init 68 = .ok (.newarray .boolean, 2) := by decide +kernel
theorem dX9_init_70 : decode cX9_init 70 = .ok (.putfield 31, 3) := by decide +kernel
theorem dX9_init_73 : decode cX9_init 73 = .ok (.aload_n 0, 1) := by decide +kernel
theorem dX9_init_74 : decode cX9_init 74 = .ok (.bipush 6, 2) := by decide +kernel
theorem dX9_init_76 : decode cX9_init 76 = .ok (.newarray .int, 2) := by decide +kernel
theorem dX9_init_78 : decode cX9_init 78 = .ok (.putfield 35, 3) := by decide +kernel
theorem dX9_init_81 : decode cX9_init 81 = .ok (.aload_n 0, 1) := by decide +kernel
theorem dX9_init_82 : decode cX9_init 82 = .ok (.bipush 6, 2) := by decide +kernel
theorem dX9_init_84 : decode cX9_init 84 = .ok (.newarray .int, 2) := by decide +kernel
theorem dX9_init_86 : decode cX9_init 86 = .ok (.putfield 38, 3) := by decide +kernel
theorem dX9_init_89 : decode cX9_init 89 = .ok (.aload_n 0, 1) := by decide +kernel
theorem dX9_init_90 : decode cX9_init 90 = .ok (.sipush 201, 3) := by decide +kernel
theorem dX9_init_93 : decode cX9_init 93 = .ok (.newarray .int, 2) := by decide +kernel
theorem dX9_init_95 : decode cX9_init 95 = .ok (.putfield 41, 3) := by decide +kernel
theorem dX9_init_98 : decode cX9_init 98 = .ok (.aload_n 0, 1) := by decide +kernel
theorem dX9_init_99 : decode cX9_init 99 = .ok (.sipush 201, 3) := by decide +kernel
theorem dX9_init_102 : decode cX9_init 102 = .ok (.newarray .int, 2) := by decide +kernel
theorem dX9_init_104 : decode cX9_init 104 = .ok (.putfield 44, 3) := by decide +kernel
theorem dX9_init_107 : decode cX9_init 107 = .ok (.aload_n 0, 1) := by decide +kernel
theorem dX9_init_108 : decode cX9_init 108 = .ok (.sipush 201, 3) := by decide +kernel
theorem dX9_init_111 : decode cX9_init 111 = .ok (.newarray .boolean, 2) := by decide +kernel
theorem dX9_init_113 : decode cX9_init 113 = .ok (.putfield 47, 3) := by decide +kernel
theorem dX9_init_116 : decode cX9_init 116 = .ok (.aload_n 0, 1) := by decide +kernel
theorem dX9_init_117 : decode cX9_init 117 = .ok (.sipush 321, 3) := by decide +kernel
theorem dX9_init_120 : decode cX9_init 120 = .ok (.newarray .int, 2) := by decide +kernel
theorem dX9_init_122 : decode cX9_init 122 = .ok (.putfield 50, 3) := by decide +kernel
theorem dX9_init_125 : decode cX9_init 125 = .ok (.aload_n 0, 1) := by decide +kernel
theorem dX9_init_126 : decode cX9_init 126 = .ok (.sipush 321, 3) := by decide +kernel
theorem dX9_init_129 : decode cX9_init 129 = .ok (.newarray .int, 2) := by decide +kernel
theorem dX9_init_131 : decode cX9_init 131 = .ok (.putfield 53, 3) := by decide +kernel
theorem dX9_init_134 : decode cX9_init 134 = .ok (.aload_n 0, 1) := by decide +kernel
theorem dX9_init_135 : decode cX9_init 135 = .ok (.iconst 5, 1) := by decide +kernel
theorem dX9_init_136 : decode cX9_init 136 = .ok (.newarray .int, 2) := by decide +kernel
theorem dX9_init_138 : decode cX9_init 138 = .ok (.putfield 56, 3) := by decide +kernel
theorem dX9_init_141 : decode cX9_init 141 = .ok (.aload_n 0, 1) := by decide +kernel
theorem dX9_init_142 : decode cX9_init 142 = .ok (.getfield 13, 3) := by decide +kernel
theorem dX9_init_145 : decode cX9_init 145 = .ok (.sipush 200, 3) := by decide +kernel
theorem dX9_init_148 : decode cX9_init 148 = .ok (.iconst 1, 1) := by decide +kernel
theorem dX9_init_149 : decode cX9_init 149 = .ok (.iastore, 1) := by decide +kernel
theorem dX9_init_150 : decode cX9_init 150 = .ok (.return_, 1) := by decide +kernel
theorem dX9_in_0 : decode cX9_in 0 = .ok (.lload_n 0, 1) := by decide +kernel
theorem dX9_in_1 : decode cX9_in 1 = .ok (.lload_n 2, 1) := by decide +kernel
theorem dX9_in_2 : decode cX9_in 2 = .ok (.lcmp, 1) := by decide +kernel
theorem dX9_in_3 : decode cX9_in 3 = .ok (.ifCond .lt 14, 3) := by decide +kernel
theorem dX9_in_6 : decode cX9_in 6 = .ok (.lload_n 0, 1) := by decide +kernel
theorem dX9_in_7 : decode cX9_in 7 = .ok (.lload 4, 2) := by decide +kernel
theorem dX9_in_9 : decode cX9_in 9 = .ok (.lcmp, 1) := by decide +kernel
theorem dX9_in_10 : decode cX9_in 10 = .ok (.ifCond .gt 7, 3) := by decide +kernel
theorem dX9_in_13 : decode cX9_in 13 = .ok (.iconst 1, 1) := by decide +kernel
theorem dX9_in_14 : decode cX9_in 14 = .ok (.goto 4, 3) := by decide +kernel
theorem dX9_in_17 : decode cX9_in 17 = .ok (.iconst 0, 1) := by decide +kernel
theorem dX9_in_18 : decode cX9_in 18 = .ok (.ireturn, 1) := by decide +kernel
theorem dX9_assign_0 : decode cX9_assign 0 = .ok (.iconst 0, 1) := by decide +kernel
theorem dX9_assign_1 : decode cX9_assign 1 = .ok (.istore_n 2, 1) := by decide +kernel
theorem dX9_assign_2 : decode cX9_assign 2 = .ok (.iload_n 2, 1) := by decide +kernel
theorem dX9_assign_3 : decode cX9_assign 3 = .ok (.sipush 201, 3) := by decide +kernel
theorem dX9_assign_6 : decode cX9_assign 6 = .ok (.if_icmp .ge 15, 3) := by decide +kernel
theorem dX9_assign_9 : decode cX9_assign 9 = .ok (.aload_n 1, 1) := by decide +kernel
theorem dX9_assign_10 : decode cX9_assign 10 = .ok (.iload_n 2, 1) := by decide +kernel
theorem dX9_assign_11 : decode cX9_assign 11 = .ok (.aload_n 0, 1) := by decide +kernel
theorem dX9_assign_12 : decode cX9_assign 12 = .ok (.iload_n 2, 1) := by decide +kernel
theorem dX9_assign_13 : decode cX9_assign 13 = .ok (.iaload, 1) := by decide +kernel
theorem dX9_assign_14 : decode cX9_assign 14 = .ok (.iastore, 1) := by decide +kernel
theorem dX9_assign_15 : decode cX9_assign 15 = .ok (.iinc 2 1, 3) := by decide +kernel
theorem dX9_assign_18 : decode cX9_assign 18 = .ok (.goto (-16), 3) := by decide +kernel
theorem dX9_assign_21 : decode cX9_assign 21 = .ok (.return_, 1) := by decide +kernel
theorem dX9_isVariable_0 : decode cX9_isVariable 0 = .ok (.iload_n 0, 1) := by decide +kernel
theorem dX9_isVariable_1 : decode cX9_isVariable 1 = .ok (.sipush 1000, 3) := by decide +kernel
theorem dX9_isVariable_4 : decode cX9_isVariable 4 = .ok (.if_icmp .ge 7, 3) := by decide +kernel
theorem dX9_isVariable_7 : decode cX9_isVariable 7 = .ok (.iconst 1, 1) := by decide +kernel
theorem dX9_isVariable_8 : decode cX9_isVariable 8 = .ok (.goto 4, 3) := by decide +kernel
theorem dX9_isVariable_11 : decode cX9_isVariable 11 = .ok (.iconst 0, 1) := by decide +kernel
theorem dX9_isVariable_12 : decode cX9_isVariable 12 = .ok (.ireturn, 1) := by decide +kernel
theorem dX9_parts_0 : decode cX9_parts 0 = .ok (.iload_n 0, 1) := by decide +kernel
theorem dX9_parts_1 : decode cX9_parts 1 = .ok (.ldc 63, 2) := by decide +kernel
theorem dX9_parts_3 : decode cX9_parts 3 = .ok (.if_icmp .lt 14, 3) := by decide +kernel
theorem dX9_parts_6 : decode cX9_parts 6 = .ok (.iconst 1, 1) := by decide +kernel
theorem dX9_parts_7 : decode cX9_parts 7 = .ok (.iload_n 0, 1) := by decide +kernel
theorem dX9_parts_8 : decode cX9_parts 8 = .ok (.ldc 63, 2) := by decide +kernel
theorem dX9_parts_10 : decode cX9_parts 10 = .ok (.isub, 1) := by decide +kernel
theorem dX9_parts_11 : decode cX9_parts 11 = .ok (.sipush 1000, 3) := by decide +kernel
theorem dX9_parts_14 : decode cX9_parts 14 = .ok (.idiv, 1) := by decide +kernel
theorem dX9_parts_15 : decode cX9_parts 15 = .ok (.iadd, 1) := by decide +kernel
theorem dX9_parts_16 : decode cX9_parts 16 = .ok (.ireturn, 1) := by decide +kernel
theorem dX9_parts_17 : decode cX9_parts 17 = .ok (.iload_n 0, 1) := by decide +kernel
theorem dX9_parts_18 : decode cX9_parts 18 = .ok (.sipush 1000, 3) := by decide +kernel
theorem dX9_parts_21 : decode cX9_parts 21 = .ok (.if_icmp .ne 7, 3) := by decide +kernel
theorem dX9_parts_24 : decode cX9_parts 24 = .ok (.iconst 2, 1) := by decide +kernel
theorem dX9_parts_25 : decode cX9_parts 25 = .ok (.goto 15, 3) := by decide +kernel
theorem dX9_parts_28 : decode cX9_parts 28 = .ok (.iload_n 0, 1) := by decide +kernel
theorem dX9_parts_29 : decode cX9_parts 29 = .ok (.sipush 1001, 3) := by decide +kernel
theorem dX9_parts_32 : decode cX9_parts 32 = .ok (.if_icmp .ne 7, 3) := by decide +kernel
theorem dX9_parts_35 : decode cX9_parts 35 = .ok (.iconst 1, 1) := by decide +kernel
theorem dX9_parts_36 : decode cX9_parts 36 = .ok (.goto 4, 3) := by decide +kernel
theorem dX9_parts_39 : decode cX9_parts 39 = .ok (.iconst 0, 1) := by decide +kernel
theorem dX9_parts_40 : decode cX9_parts 40 = .ok (.ireturn, 1) := by decide +kernel
theorem dX9_end_0 : decode cX9_end 0 = .ok (.iconst 1, 1) := by decide +kernel
theorem dX9_end_1 : decode cX9_end 1 = .ok (.istore_n 2, 1) := by decide +kernel
theorem dX9_end_2 : decode cX9_end 2 = .ok (.iload_n 1, 1) := by decide +kernel
theorem dX9_end_3 : decode cX9_end 3 = .ok (.istore_n 3, 1) := by decide +kernel
theorem dX9_end_4 : decode cX9_end 4 = .ok (.iload_n 2, 1) := by decide +kernel
theorem dX9_end_5 : decode cX9_end 5 = .ok (.ifCond .le 20, 3) := by decide +kernel
theorem dX9_end_8 : decode cX9_end 8 = .ok (.iload_n 2, 1) := by decide +kernel
theorem dX9_end_9 : decode cX9_end 9 = .ok (.aload_n 0, 1) := by decide +kernel
theorem dX9_end_10 : decode cX9_end 10 = .ok (.iload_n 3, 1) := by decide +kernel
theorem dX9_end_11 : decode cX9_end 11 = .ok (.iaload, 1) := by decide +kernel
theorem dX9_end_12 : decode cX9_end 12 = .ok (.invokestatic 64, 3) := by decide +kernel
theorem dX9_end_15 : decode cX9_end 15 = .ok (.iconst 1, 1) := by decide +kernel
theorem dX9_end_16 : decode cX9_end 16 = .ok (.isub, 1) := by decide +kernel
theorem dX9_end_17 : decode cX9_end 17 = .ok (.iadd, 1) := by decide +kernel
theorem dX9_end_18 : decode cX9_end 18 = .ok (.istore_n 2, 1) := by decide +kernel
theorem dX9_end_19 : decode cX9_end 19 = .ok (.iinc 3 1, 3) := by decide +kernel
theorem dX9_end_22 : decode cX9_end 22 = .ok (.goto (-18), 3) := by decide +kernel
theorem dX9_end_25 : decode cX9_end 25 = .ok (.iload_n 3, 1) := by decide +kernel
theorem dX9_end_26 : decode cX9_end 26 = .ok (.ireturn, 1) := by decide +kernel
theorem dX9_layDepths_0 : decode cX9_layDepths 0 = .ok (.iconst 0, 1) := by decide +kernel
theorem dX9_layDepths_1 : decode cX9_layDepths 1 = .ok (.istore 4, 2) := by decide +kernel
theorem dX9_layDepths_3 : decode cX9_layDepths 3 = .ok (.iconst 0, 1) := by decide +kernel
theorem dX9_layDepths_4 : decode cX9_layDepths 4 = .ok (.istore 5, 2) := by decide +kernel
theorem dX9_layDepths_6 : decode cX9_layDepths 6 = .ok (.iload_n 2, 1) := by decide +kernel
theorem dX9_layDepths_7 : decode cX9_layDepths 7 = .ok (.istore 6, 2) := by decide +kernel
theorem dX9_layDepths_9 : decode cX9_layDepths 9 = .ok (.iload 6, 2) := by decide +kernel
theorem dX9_layDepths_11 : decode cX9_layDepths 11 = .ok (.iload_n 3, 1) := by decide +kernel
theorem dX9_layDepths_12 : decode cX9_layDepths 12 = .ok (.if_icmp .ge 182, 3) := by decide +kernel
theorem dX9_layDepths_15 : decode cX9_layDepths 15 = .ok (.aload_n 0, 1) := by decide +kernel
theorem dX9_layDepths_16 : decode cX9_layDepths 16 = .ok (.getfield 41, 3) := by decide +kernel
theorem dX9_layDepths_19 : decode cX9_layDepths 19 = .ok (.iload 6, 2) := by decide +kernel
theorem dX9_layDepths_21 : decode cX9_layDepths 21 = .ok (.iload 5, 2) := by decide +kernel
theorem dX9_layDepths_23 : decode cX9_layDepths 23 = .ok (.iastore, 1) := by decide +kernel
theorem dX9_layDepths_24 : decode cX9_layDepths 24 = .ok (.aload_n 1, 1) := by decide +kernel
theorem dX9_layDepths_25 : decode cX9_layDepths 25 = .ok (.iload 6, 2) := by decide +kernel
theorem dX9_layDepths_27 : decode cX9_layDepths 27 = .ok (.iaload, 1) := by decide +kernel
theorem dX9_layDepths_28 : decode cX9_layDepths 28 = .ok (.invokestatic 68, 3) := by decide +kernel
theorem dX9_layDepths_31 : decode cX9_layDepths 31 = .ok (.ifCond .ne 65, 3) := by decide +kernel
theorem dX9_layDepths_34 : decode cX9_layDepths 34 = .ok (.aload_n 0, 1) := by decide +kernel
theorem dX9_layDepths_35 : decode cX9_layDepths 35 = .ok (.getfield 44, 3) := by decide +kernel
theorem dX9_layDepths_38 : decode cX9_layDepths 38 = .ok (.iload 4, 2) := by decide +kernel
theorem dX9_layDepths_40 : decode cX9_layDepths 40 = .ok (.aload_n 1, 1) := by decide +kernel
theorem dX9_layDepths_41 : decode cX9_layDepths 41 = .ok (.iload 6, 2) := by decide +kernel
theorem dX9_layDepths_43 : decode cX9_layDepths 43 = .ok (.iaload, 1) := by decide +kernel
theorem dX9_layDepths_44 : decode cX9_layDepths 44 = .ok (.invokestatic 64, 3) := by decide +kernel
theorem dX9_layDepths_47 : decode cX9_layDepths 47 = .ok (.iastore, 1) := by decide +kernel
theorem dX9_layDepths_48 : decode cX9_layDepths 48 = .ok (.aload_n 0, 1) := by decide +kernel
theorem dX9_layDepths_49 : decode cX9_layDepths 49 = .ok (.getfield 47, 3) := by decide +kernel
theorem dX9_layDepths_52 : decode cX9_layDepths 52 = .ok (.iload 4, 2) := by decide +kernel
theorem dX9_layDepths_54 : decode cX9_layDepths 54 = .ok (.aload_n 1, 1) := by decide +kernel
theorem dX9_layDepths_55 : decode cX9_layDepths 55 = .ok (.iload 6, 2) := by decide +kernel
theorem dX9_layDepths_57 : decode cX9_layDepths 57 = .ok (.iaload, 1) := by decide +kernel
theorem dX9_layDepths_58 : decode cX9_layDepths 58 = .ok (.sipush 1001, 3) := by decide +kernel
theorem dX9_layDepths_61 : decode cX9_layDepths 61 = .ok (.if_icmp .ne 7, 3) := by decide +kernel
theorem dX9_layDepths_64 : decode cX9_layDepths 64 = .ok (.iconst 1, 1) := by decide +kernel
theorem dX9_layDepths_65 : decode cX9_layDepths 65 = .ok (.goto 4, 3) := by decide +kernel
theorem dX9_layDepths_68 : decode cX9_layDepths 68 = .ok (.iconst 0, 1) := by decide +kernel
theorem dX9_layDepths_69 : decode cX9_layDepths 69 = .ok (.bastore, 1) := by decide +kernel
theorem dX9_layDepths_70 : decode cX9_layDepths 70 = .ok (.iload 5, 2) := by decide +kernel
theorem dX9_layDepths_72 : decode cX9_layDepths 72 = .ok (.aload_n 0, 1) := by decide +kernel
theorem dX9_layDepths_73 : decode cX9_layDepths 73 = .ok (.getfield 47, 3) := by decide +kernel
theorem dX9_layDepths_76 : decode cX9_layDepths 76 = .ok (.iload 4, 2) := by decide +kernel
theorem dX9_layDepths_78 : decode cX9_layDepths 78 = .ok (.baload, 1) := by decide +kernel
theorem dX9_layDepths_79 : decode cX9_layDepths 79 = .ok (.ifCond .eq 7, 3) := by decide +kernel
theorem dX9_layDepths_82 : decode cX9_layDepths 82 = .ok (.iconst 1, 1) := by decide +kernel
theorem dX9_layDepths_83 : decode cX9_layDepths 83 = .ok (.goto 4, 3) := by decide +kernel
theorem dX9_layDepths_86 : decode cX9_layDepths 86 = .ok (.iconst 0, 1) := by decide +kernel
theorem dX9_layDepths_87 : decode cX9_layDepths 87 = .ok (.iadd, 1) := by decide +kernel
theorem dX9_layDepths_88 : decode cX9_layDepths 88 = .ok (.istore 5, 2) := by decide +kernel
theorem dX9_layDepths_90 : decode cX9_layDepths 90 = .ok (.iinc 4 1, 3) := by decide +kernel
theorem dX9_layDepths_93 : decode cX9_layDepths 93 = .ok (.goto 95, 3) := by decide +kernel
theorem dX9_layDepths_96 : decode cX9_layDepths 96 = .ok (.iload 4, 2) := by decide +kernel
theorem dX9_layDepths_98 : decode cX9_layDepths 98 = .ok (.ifCond .le 7, 3) := by decide +kernel
theorem dX9_layDepths_101 : decode cX9_layDepths 101 = .ok (.iconst 1, 1) := by decide +kernel
theorem dX9_layDepths_102 : decode cX9_layDepths 102 = .ok (.goto 4, 3) := by decide +kernel
theorem dX9_layDepths_105 : decode cX9_layDepths 105 = .ok (.iconst 0, 1) := by decide +kernel
theorem dX9_layDepths_106 : decode cX9_layDepths 106 = .ok (.istore 7, 2) := by decide +kernel
theorem dX9_layDepths_108 : decode cX9_layDepths 108 = .ok (.iload 7, 2) := by decide +kernel
theorem dX9_layDepths_110 : decode cX9_layDepths 110 = .ok (.ifCond .eq 78, 3) := by decide +kernel
theorem dX9_layDepths_113 : decode cX9_layDepths 113 = .ok (.aload_n 0, 1) := by decide +kernel
theorem dX9_layDepths_114 : decode cX9_layDepths 114 = .ok (.getfield 44, 3) := by decide +kernel
theorem dX9_layDepths_117 : decode cX9_layDepths 117 = .ok (.iload 4, 2) := by decide +kernel
theorem dX9_layDepths_119 : decode cX9_layDepths 119 = .ok (.iconst 1, 1) := by decide +kernel
theorem dX9_layDepths_120 : decode cX9_layDepths 120 = .ok (.isub, 1) := by decide +kernel
theorem dX9_layDepths_121 : decode cX9_layDepths 121 = .ok (.dup2, 1) := by decide +kernel
theorem dX9_layDepths_122 : decode cX9_layDepths 122 = .ok (.iaload, 1) := by decide +kernel
theorem dX9_layDepths_123 : decode cX9_layDepths 123 = .ok (.iconst 1, 1) := by decide +kernel
theorem dX9_layDepths_124 : decode cX9_layDepths 124 = .ok (.isub, 1) := by decide +kernel
theorem dX9_layDepths_125 : decode cX9_layDepths 125 = .ok (.iastore, 1) := by decide +kernel
theorem dX9_layDepths_126 : decode cX9_layDepths 126 = .ok (.aload_n 0, 1) := by decide +kernel
theorem dX9_layDepths_127 : decode cX9_layDepths 127 = .ok (.getfield 44, 3) := by decide +kernel
theorem dX9_layDepths_130 : decode cX9_layDepths 130 = .ok (.iload 4, 2) := by decide +kernel
theorem dX9_layDepths_132 : decode cX9_layDepths 132 = .ok (.iconst 1, 1) := by decide +kernel
theorem dX9_layDepths_133 : decode cX9_layDepths 133 = .ok (.isub, 1) := by decide +kernel
theorem dX9_layDepths_134 : decode cX9_layDepths 134 = .ok (.iaload, 1) := by decide +kernel
theorem dX9_layDepths_135 : decode cX9_layDepths 135 = .ok (.ifCond .ne 7, 3) := by decide +kernel
theorem dX9_layDepths_138 : decode cX9_layDepths 138 = .ok (.iconst 1, 1) := by decide +kernel
theorem dX9_layDepths_139 : decode cX9_layDepths 139 = .ok (.goto 4, 3) := by decide +kernel
theorem dX9_layDepths_142 : decode cX9_layDepths 142 = .ok (.iconst 0, 1) := by decide +kernel
theorem dX9_layDepths_143 : decode cX9_layDepths 143 = .ok (.istore 7, 2) := by decide +kernel
theorem dX9_layDepths_145 : decode cX9_layDepths 145 = .ok (.iload 7, 2) := by decide +kernel
theorem dX9_layDepths_147 : decode cX9_layDepths 147 = .ok (.ifCond .eq (-39), 3) := by decide +kernel
theorem dX9_layDepths_150 : decode cX9_layDepths 150 = .ok (.iinc 4 (-1), 3) := by decide +kernel
theorem dX9_layDepths_153 : decode cX9_layDepths 153 = .ok (.iload 5, 2) := by decide +kernel
theorem dX9_layDepths_155 : decode cX9_layDepths 155 = .ok (.aload_n 0, 1) := by decide +kernel
theorem dX9_layDepths_156 : decode cX9_layDepths 156 = .ok (.getfield 47, 3) := by decide +kernel
theorem dX9_layDepths_159 : decode cX9_layDepths 159 = .ok (.iload 4, 2) := by decide +kernel
theorem dX9_layDepths_161 : decode cX9_layDepths 161 = .ok (.baload, 1) := by decide +kernel
theorem dX9_layDepths_162 : decode cX9_layDepths 162 = .ok (.ifCond .eq 7, 3) := by decide +kernel
theorem dX9_layDepths_165 : decode cX9_layDepths 165 = .ok (.iconst 1, 1) := by decide +kernel
theorem dX9_layDepths_166 : decode cX9_layDepths 166 = .ok (.goto 4, 3) := by decide +kernel
theorem dX9_layDepths_169 : decode cX9_layDepths 169 = .ok (.iconst 0, 1) := by decide +kernel
theorem dX9_layDepths_170 : decode cX9_layDepths 170 = .ok (.isub, 1) := by decide +kernel
theorem dX9_layDepths_171 : decode cX9_layDepths 171 = .ok (.istore 5, 2) := by decide +kernel
theorem dX9_layDepths_173 : decode cX9_layDepths 173 = .ok (.iload 4, 2) := by decide +kernel
theorem dX9_layDepths_175 : decode cX9_layDepths 175 = .ok (.ifCond .le 7, 3) := by decide +kernel
theorem dX9_layDepths_178 : decode cX9_layDepths 178 = .ok (.iconst 1, 1) := by decide +kernel
theorem dX9_layDepths_179 : decode cX9_layDepths 179 = .ok (.goto 4, 3) := by decide +kernel
theorem dX9_layDepths_182 : decode cX9_layDepths 182 = .ok (.iconst 0, 1) := by decide +kernel
theorem dX9_layDepths_183 : decode cX9_layDepths 183 = .ok (.istore 7, 2) := by decide +kernel
theorem dX9_layDepths_185 : decode cX9_layDepths 185 = .ok (.goto (-77), 3) := by decide +kernel
theorem dX9_layDepths_188 : decode cX9_layDepths 188 = .ok (.iinc 6 1, 3) := by decide +kernel
theorem dX9_layDepths_191 : decode cX9_layDepths 191 = .ok (.goto (-182), 3) := by decide +kernel
theorem dX9_layDepths_194 : decode cX9_layDepths 194 = .ok (.return_, 1) := by decide +kernel
theorem dX9_isRedex_0 : decode cX9_isRedex 0 = .ok (.aload_n 0, 1) := by decide +kernel
theorem dX9_isRedex_1 : decode cX9_isRedex 1 = .ok (.iload_n 1, 1) := by decide +kernel
theorem dX9_isRedex_2 : decode cX9_isRedex 2 = .ok (.iaload, 1) := by decide +kernel
theorem dX9_isRedex_3 : decode cX9_isRedex 3 = .ok (.sipush 1000, 3) := by decide +kernel
theorem dX9_isRedex_6 : decode cX9_isRedex 6 = .ok (.if_icmp .ne 18, 3) := by decide +kernel
theorem dX9_isRedex_9 : decode cX9_isRedex 9 = .ok (.aload_n 0, 1) := by decide +kernel
theorem dX9_isRedex_10 : decode cX9_isRedex 10 = .ok (.iload_n 1, 1) := by decide +kernel
theorem dX9_isRedex_11 : decode cX9_isRedex 11 = .ok (.iconst 1, 1) := by decide +kernel
theorem dX9_isRedex_12 : decode cX9_isRedex 12 = .ok (.iadd, 1) := by decide +kernel
theorem dX9_isRedex_13 : decode cX9_isRedex 13 = .ok (.iaload, 1) := by decide +kernel
theorem dX9_isRedex_14 : decode cX9_isRedex 14 = .ok (.sipush 1001, 3) := by decide +kernel
theorem dX9_isRedex_17 : decode cX9_isRedex 17 = .ok (.if_icmp .ne 7, 3) := by decide +kernel
theorem dX9_isRedex_20 : decode cX9_isRedex 20 = .ok (.iconst 1, 1) := by decide +kernel
theorem dX9_isRedex_21 : decode cX9_isRedex 21 = .ok (.goto 4, 3) := by decide +kernel
theorem dX9_isRedex_24 : decode cX9_isRedex 24 = .ok (.iconst 0, 1) := by decide +kernel
theorem dX9_isRedex_25 : decode cX9_isRedex 25 = .ok (.ireturn, 1) := by decide +kernel
theorem dX9_redexes_0 : decode cX9_redexes 0 = .ok (.iconst 0, 1) := by decide +kernel
theorem dX9_redexes_1 : decode cX9_redexes 1 = .ok (.istore_n 1, 1) := by decide +kernel
theorem dX9_redexes_2 : decode cX9_redexes 2 = .ok (.iconst 0, 1) := by decide +kernel
theorem dX9_redexes_3 : decode cX9_redexes 3 = .ok (.istore_n 2, 1) := by decide +kernel
theorem dX9_redexes_4 : decode cX9_redexes 4 = .ok (.iload_n 2, 1) := by decide +kernel
theorem dX9_redexes_5 : decode cX9_redexes 5 = .ok (.aload_n 0, 1) := by decide +kernel
theorem dX9_redexes_6 : decode cX9_redexes 6 = .ok (.sipush 200, 3) := by decide +kernel
theorem dX9_redexes_9 : decode cX9_redexes 9 = .ok (.iaload, 1) := by decide +kernel
theorem dX9_redexes_10 : decode cX9_redexes 10 = .ok (.iconst 1, 1) := by decide +kernel
theorem dX9_redexes_11 : decode cX9_redexes 11 = .ok (.isub, 1) := by decide +kernel
theorem dX9_redexes_12 : decode cX9_redexes 12 = .ok (.if_icmp .ge 25, 3) := by decide +kernel
theorem dX9_redexes_15 : decode cX9_redexes 15 = .ok (.iload_n 1, 1) := by decide +kernel
theorem dX9_redexes_16 : decode cX9_redexes 16 = .ok (.aload_n 0, 1) := by decide +kernel
theorem dX9_redexes_17 : decode cX9_redexes 17 = .ok (.iload_n 2, 1) := by decide +kernel
theorem dX9_redexes_18 : decode cX9_redexes 18 = .ok (.invokestatic 72, 3) := by decide +kernel
theorem dX9_redexes_21 : decode cX9_redexes 21 = .ok (.ifCond .eq 7, 3) := by decide +kernel
theorem dX9_redexes_24 : decode cX9_redexes 24 = .ok (.iconst 1, 1) := by decide +kernel
theorem dX9_redexes_25 : decode cX9_redexes 25 = .ok (.goto 4, 3) := by decide +kernel
theorem dX9_redexes_28 : decode cX9_redexes 28 = .ok (.iconst 0, 1) := by decide +kernel
theorem dX9_redexes_29 : decode cX9_redexes 29 = .ok (.iadd, 1) := by decide +kernel
theorem dX9_redexes_30 : decode cX9_redexes 30 = .ok (.istore_n 1, 1) := by decide +kernel
theorem dX9_redexes_31 : decode cX9_redexes 31 = .ok (.iinc 2 1, 3) := by decide +kernel
theorem dX9_redexes_34 : decode cX9_redexes 34 = .ok (.goto (-30), 3) := by decide +kernel
theorem dX9_redexes_37 : decode cX9_redexes 37 = .ok (.iload_n 1, 1) := by decide +kernel
theorem dX9_redexes_38 : decode cX9_redexes 38 = .ok (.ireturn, 1) := by decide +kernel
theorem dX9_isInnermost_0 : decode cX9_isInnermost 0 = .ok (.aload_n 0, 1) := by decide +kernel
theorem dX9_isInnermost_1 : decode cX9_isInnermost 1 = .ok (.iload_n 1, 1) := by decide +kernel
theorem dX9_isInnermost_2 : decode cX9_isInnermost 2 = .ok (.invokestatic 76, 3) := by decide +kernel
theorem dX9_isInnermost_5 : decode cX9_isInnermost 5 = .ok (.istore_n 2, 1) := by decide +kernel
theorem dX9_isInnermost_6 : decode cX9_isInnermost 6 = .ok (.iload_n 1, 1) := by decide +kernel
theorem dX9_isInnermost_7 : decode cX9_isInnermost 7 = .ok (.iconst 1, 1) := by decide +kernel
theorem dX9_isInnermost_8 : decode cX9_isInnermost 8 = .ok (.iadd, 1) := by decide +kernel
theorem dX9_isInnermost_9 : decode cX9_isInnermost 9 = .ok (.istore_n 3, 1) := by decide +kernel
theorem dX9_isInnermost_10 : decode cX9_isInnermost 10 = .ok (.iload_n 3, 1) := by decide +kernel
theorem dX9_isInnermost_11 : decode cX9_isInnermost 11 = .ok (.iload_n 2, 1) := by decide +kernel
theorem dX9_isInnermost_12 : decode cX9_isInnermost 12 = .ok (.iconst 1, 1) := by decide +kernel
theorem dX9_isInnermost_13 : decode cX9_isInnermost 13 = .ok (.isub, 1) := by decide +kernel
theorem dX9_isInnermost_14 : decode cX9_isInnermost 14 = .ok (.if_icmp .ge 19, 3) := by decide +kernel
theorem dX9_isInnermost_17 : decode cX9_isInnermost 17 = .ok (.aload_n 0, 1) := by decide +kernel
theorem dX9_isInnermost_18 : decode cX9_isInnermost 18 = .ok (.iload_n 3, 1) := by decide +kernel
theorem dX9_isInnermost_19 : decode cX9_isInnermost 19 = .ok (.invokestatic 72, 3) := by decide +kernel
theorem dX9_isInnermost_22 : decode cX9_isInnermost 22 = .ok (.ifCond .eq 5, 3) := by decide +kernel
theorem dX9_isInnermost_25 : decode cX9_isInnermost 25 = .ok (.iconst 0, 1) := by decide +kernel
theorem dX9_isInnermost_26 : decode cX9_isInnermost 26 = .ok (.ireturn, 1) := by decide +kernel
theorem dX9_isInnermost_27 : decode cX9_isInnermost 27 = .ok (.iinc 3 1, 3) := by decide +kernel
theorem dX9_isInnermost_30 : decode cX9_isInnermost 30 = .ok (.goto (-20), 3) := by decide +kernel
theorem dX9_isInnermost_33 : decode cX9_isInnermost 33 = .ok (.iconst 1, 1) := by decide +kernel
theorem dX9_isInnermost_34 : decode cX9_isInnermost 34 = .ok (.ireturn, 1) := by decide +kernel
theorem dX9_choose_0 : decode cX9_choose 0 = .ok (.bipush (-9), 2) := by decide +kernel
theorem dX9_choose_2 : decode cX9_choose 2 = .ok (.istore_n 2, 1) := by decide +kernel
theorem dX9_choose_3 : decode cX9_choose 3 = .ok (.iconst 1, 1) := by decide +kernel
theorem dX9_choose_4 : decode cX9_choose 4 = .ok (.istore_n 3, 1) := by decide +kernel
theorem dX9_choose_5 : decode cX9_choose 5 = .ok (.iconst 0, 1) := by decide +kernel
theorem dX9_choose_6 : decode cX9_choose 6 = .ok (.istore 4, 2) := by decide +kernel
theorem dX9_choose_8 : decode cX9_choose 8 = .ok (.iload 4, 2) := by decide +kernel
theorem dX9_choose_10 : decode cX9_choose 10 = .ok (.aload_n 0, 1) := by decide +kernel
theorem dX9_choose_11 : decode cX9_choose 11 = .ok (.sipush 200, 3) := by decide +kernel
theorem dX9_choose_14 : decode cX9_choose 14 = .ok (.iaload, 1) := by decide +kernel
theorem dX9_choose_15 : decode cX9_choose 15 = .ok (.iconst 1, 1) := by decide +kernel
theorem dX9_choose_16 : decode cX9_choose 16 = .ok (.isub, 1) := by decide +kernel
theorem dX9_choose_17 : decode cX9_choose 17 = .ok (.if_icmp .ge 120, 3) := by decide +kernel
theorem dX9_choose_20 : decode cX9_choose 20 = .ok (.aload_n 0, 1) := by decide +kernel
theorem dX9_choose_21 : decode cX9_choose 21 = .ok (.iload 4, 2) := by decide +kernel
theorem dX9_choose_23 : decode cX9_choose 23 = .ok (.invokestatic 72, 3) := by decide +kernel
theorem dX9_choose_26 : decode cX9_choose 26 = .ok (.ifCond .eq 85, 3) := by decide +kernel
theorem dX9_choose_29 : decode cX9_choose 29 = .ok (.iload_n 2, 1) := by decide +kernel
theorem dX9_choose_30 : decode cX9_choose 30 = .ok (.bipush (-9), 2) := by decide +kernel
theorem dX9_choose_32 : decode cX9_choose 32 = .ok (.if_icmp .ne 7, 3) := by decide +kernel
theorem dX9_choose_35 : decode cX9_choose 35 = .ok (.iconst 1, 1) := by decide +kernel
theorem dX9_choose_36 : decode cX9_choose 36 = .ok (.goto 4, 3) := by decide +kernel
theorem dX9_choose_39 : decode cX9_choose 39 = .ok (.iconst 0, 1) := by decide +kernel
theorem dX9_choose_40 : decode cX9_choose 40 = .ok (.istore 5, 2) := by decide +kernel
theorem dX9_choose_42 : decode cX9_choose 42 = .ok (.iload_n 1, 1) := by decide +kernel
theorem dX9_choose_43 : decode cX9_choose 43 = .ok (.ifCond .ne 8, 3) := by decide +kernel
theorem dX9_choose_46 : decode cX9_choose 46 = .ok (.iload 5, 2) := by decide +kernel
theorem dX9_choose_48 : decode cX9_choose 48 = .ok (.goto 49, 3) := by decide +kernel
theorem dX9_choose_51 : decode cX9_choose 51 = .ok (.iload_n 1, 1) := by decide +kernel
theorem dX9_choose_52 : decode cX9_choose 52 = .ok (.iconst 1, 1) := by decide +kernel
theorem dX9_choose_53 : decode cX9_choose 53 = .ok (.if_icmp .ne 25, 3) := by decide +kernel
theorem dX9_choose_56 : decode cX9_choose 56 = .ok (.iload 5, 2) := by decide +kernel
theorem dX9_choose_58 : decode cX9_choose 58 = .ok (.ifCond .eq 16, 3) := by decide +kernel
theorem dX9_choose_61 : decode cX9_choose 61 = .ok (.aload_n 0, 1) := by decide +kernel
theorem dX9_choose_62 : decode cX9_choose 62 = .ok (.iload 4, 2) := by decide +kernel
theorem dX9_choose_64 : decode cX9_choose 64 = .ok (.invokestatic 80, 3) := by decide +kernel
theorem dX9_choose_67 : decode cX9_choose 67 = .ok (.ifCond .eq 7, 3) := by decide +kernel
theorem dX9_choose_70 : decode cX9_choose 70 = .ok (.iconst 1, 1) := by decide +kernel
theorem dX9_choose_71 : decode cX9_choose 71 = .ok (.goto 26, 3) := by decide +kernel
theorem dX9_choose_74 : decode cX9_choose 74 = .ok (.iconst 0, 1) := by decide +kernel
theorem dX9_choose_75 : decode cX9_choose 75 = .ok (.goto 22, 3) := by decide +kernel
theorem dX9_choose_78 : decode cX9_choose 78 = .ok (.iload_n 1, 1) := by decide +kernel
theorem dX9_choose_79 : decode cX9_choose 79 = .ok (.iconst 2, 1) := by decide +kernel
theorem dX9_choose_80 : decode cX9_choose 80 = .ok (.if_icmp .eq 12, 3) := by decide +kernel
theorem dX9_choose_83 : decode cX9_choose 83 = .ok (.iload 5, 2) := by decide +kernel
theorem dX9_choose_85 : decode cX9_choose 85 = .ok (.ifCond .eq 11, 3) := by decide +kernel
theorem dX9_choose_88 : decode cX9_choose 88 = .ok (.iload_n 3, 1) := by decide +kernel
theorem dX9_choose_89 : decode cX9_choose 89 = .ok (.ifCond .eq 7, 3) := by decide +kernel
theorem dX9_choose_92 : decode cX9_choose 92 = .ok (.iconst 1, 1) := by decide +kernel
theorem dX9_choose_93 : decode cX9_choose 93 = .ok (.goto 4, 3) := by decide +kernel
theorem dX9_choose_96 : decode cX9_choose 96 = .ok (.iconst 0, 1) := by decide +kernel
theorem dX9_choose_97 : decode cX9_choose 97 = .ok (.istore 6, 2) := by decide +kernel
theorem dX9_choose_99 : decode cX9_choose 99 = .ok (.iload 6, 2) := by decide +kernel
theorem dX9_choose_101 : decode cX9_choose 101 = .ok (.ifCond .eq 8, 3) := by decide +kernel
theorem dX9_choose_104 : decode cX9_choose 104 = .ok (.iload 4, 2) := by decide +kernel
theorem dX9_choose_106 : decode cX9_choose 106 = .ok (.goto 4, 3) := by decide +kernel
theorem dX9_choose_109 : decode cX9_choose 109 = .ok (.iload_n 2, 1) := by decide +kernel
theorem dX9_choose_110 : decode cX9_choose 110 = .ok (.istore_n 2, 1) := by decide +kernel
theorem dX9_choose_111 : decode cX9_choose 111 = .ok (.iload_n 3, 1) := by decide +kernel
theorem dX9_choose_112 : decode cX9_choose 112 = .ok (.ifCond .eq 17, 3) := by decide +kernel
theorem dX9_choose_115 : decode cX9_choose 115 = .ok (.aload_n 0, 1) := by decide +kernel
theorem dX9_choose_116 : decode cX9_choose 116 = .ok (.iload 4, 2) := by decide +kernel
theorem dX9_choose_118 : decode cX9_choose 118 = .ok (.iaload, 1) := by decide +kernel
theorem dX9_choose_119 : decode cX9_choose 119 = .ok (.sipush 1000, 3) := by decide +kernel
theorem dX9_choose_122 : decode cX9_choose 122 = .ok (.if_icmp .ne 7, 3) := by decide +kernel
theorem dX9_choose_125 : decode cX9_choose 125 = .ok (.iconst 1, 1) := by decide +kernel
theorem dX9_choose_126 : decode cX9_choose 126 = .ok (.goto 4, 3) := by decide +kernel
theorem dX9_choose_129 : decode cX9_choose 129 = .ok (.iconst 0, 1) := by decide +kernel
theorem dX9_choose_130 : decode cX9_choose 130 = .ok (.istore_n 3, 1) := by decide +kernel
theorem dX9_choose_131 : decode cX9_choose 131 = .ok (.iinc 4 1, 3) := by decide +kernel
theorem dX9_choose_134 : decode cX9_choose 134 = .ok (.goto (-126), 3) := by decide +kernel
theorem dX9_choose_137 : decode cX9_choose 137 = .ok (.iload_n 2, 1) := by decide +kernel
theorem dX9_choose_138 : decode cX9_choose 138 = .ok (.ireturn, 1) := by decide +kernel
theorem dX9_put_0 : decode cX9_put 0 = .ok (.aload_n 0, 1) := by decide +kernel
theorem dX9_put_1 : decode cX9_put 1 = .ok (.getfield 22, 3) := by decide +kernel
theorem dX9_put_4 : decode cX9_put 4 = .ok (.sipush 200, 3) := by decide +kernel
theorem dX9_put_7 : decode cX9_put 7 = .ok (.iaload, 1) := by decide +kernel
theorem dX9_put_8 : decode cX9_put 8 = .ok (.sipush 200, 3) := by decide +kernel
theorem dX9_put_11 : decode cX9_put 11 = .ok (.if_icmp .ne 5, 3) := by decide +kernel
theorem dX9_put_14 : decode cX9_put 14 = .ok (.iconst 0, 1) := by decide +kernel
theorem dX9_put_15 : decode cX9_put 15 = .ok (.ireturn, 1) := by decide +kernel
theorem dX9_put_16 : decode cX9_put 16 = .ok (.aload_n 0, 1) := by decide +kernel
theorem dX9_put_17 : decode cX9_put 17 = .ok (.getfield 22, 3) := by decide +kernel
theorem dX9_put_20 : decode cX9_put 20 = .ok (.aload_n 0, 1) := by decide +kernel
theorem dX9_put_21 : decode cX9_put 21 = .ok (.getfield 22, 3) := by decide +kernel
theorem dX9_put_24 : decode cX9_put 24 = .ok (.sipush 200, 3) := by decide +kernel
theorem dX9_put_27 : decode cX9_put 27 = .ok (.iaload, 1) := by decide +kernel
theorem dX9_put_28 : decode cX9_put 28 = .ok (.iload_n 1, 1) := by decide +kernel
theorem dX9_put_29 : decode cX9_put 29 = .ok (.iastore, 1) := by decide +kernel
theorem dX9_put_30 : decode cX9_put 30 = .ok (.aload_n 0, 1) := by decide +kernel
theorem dX9_put_31 : decode cX9_put 31 = .ok (.getfield 22, 3) := by decide +kernel
theorem dX9_put_34 : decode cX9_put 34 = .ok (.sipush 200, 3) := by decide +kernel
theorem dX9_put_37 : decode cX9_put 37 = .ok (.dup2, 1) := by decide +kernel
theorem dX9_put_38 : decode cX9_put 38 = .ok (.iaload, 1) := by decide +kernel
theorem dX9_put_39 : decode cX9_put 39 = .ok (.iconst 1, 1) := by decide +kernel
theorem dX9_put_40 : decode cX9_put 40 = .ok (.iadd, 1) := by decide +kernel
theorem dX9_put_41 : decode cX9_put 41 = .ok (.iastore, 1) := by decide +kernel
theorem dX9_put_42 : decode cX9_put 42 = .ok (.iconst 1, 1) := by decide +kernel
theorem dX9_put_43 : decode cX9_put 43 = .ok (.ireturn, 1) := by decide +kernel
theorem dX9_putShifted_0 : decode cX9_putShifted 0 = .ok (.iconst 1, 1) := by decide +kernel
theorem dX9_putShifted_1 : decode cX9_putShifted 1 = .ok (.istore 5, 2) := by decide +kernel
theorem dX9_putShifted_3 : decode cX9_putShifted 3 = .ok (.iload_n 2, 1) := by decide +kernel
theorem dX9_putShifted_4 : decode cX9_putShifted 4 = .ok (.istore 6, 2) := by decide +kernel
theorem dX9_putShifted_6 : decode cX9_putShifted 6 = .ok (.iload 6, 2) := by decide +kernel
theorem dX9_putShifted_8 : decode cX9_putShifted 8 = .ok (.iload_n 3, 1) := by decide +kernel
theorem dX9_putShifted_9 : decode cX9_putShifted 9 = .ok (.if_icmp .ge 70, 3) := by decide +kernel
theorem dX9_putShifted_12 : decode cX9_putShifted 12 = .ok (.iload 5, 2) := by decide +kernel
theorem dX9_putShifted_14 : decode cX9_putShifted 14 = .ok (.ifCond .eq 65, 3) := by decide +kernel
theorem dX9_putShifted_17 : decode cX9_putShifted 17 = .ok (.aload_n 1, 1) := by decide +kernel
theorem dX9_putShifted_18 : decode cX9_putShifted 18 = .ok (.iload 6, 2) := by decide +kernel
theorem dX9_putShifted_20 : decode cX9_putShifted 20 = .ok (.iaload, 1) := by decide +kernel
theorem dX9_putShifted_21 : decode cX9_putShifted 21 = .ok (.invokestatic 68, 3) := by decide +kernel
theorem dX9_putShifted_24 : decode cX9_putShifted 24 = .ok (.ifCond .eq 21, 3) := by decide +kernel
theorem dX9_putShifted_27 : decode cX9_putShifted 27 = .ok (.aload_n 1, 1) := by decide +kernel
theorem dX9_putShifted_28 : decode cX9_putShifted 28 = .ok (.iload 6, 2) := by decide +kernel
theorem dX9_putShifted_30 : decode cX9_putShifted 30 = .ok (.iaload, 1) := by decide +kernel
theorem dX9_putShifted_31 : decode cX9_putShifted 31 = .ok (.aload_n 0, 1) := by decide +kernel
theorem dX9_putShifted_32 : decode cX9_putShifted 32 = .ok (.getfield 41, 3) := by decide +kernel
theorem dX9_putShifted_35 : decode cX9_putShifted 35 = .ok (.iload 6, 2) := by decide +kernel
theorem dX9_putShifted_37 : decode cX9_putShifted 37 = .ok (.iaload, 1) := by decide +kernel
theorem dX9_putShifted_38 : decode cX9_putShifted 38 = .ok (.if_icmp .lt 7, 3) := by decide +kernel
theorem dX9_putShifted_41 : decode cX9_putShifted 41 = .ok (.iconst 1, 1) := by decide +kernel
theorem dX9_putShifted_42 : decode cX9_putShifted 42 = .ok (.goto 4, 3) := by decide +kernel
theorem dX9_putShifted_45 : decode cX9_putShifted 45 = .ok (.iconst 0, 1) := by decide +kernel
theorem dX9_putShifted_46 : decode cX9_putShifted 46 = .ok (.istore 7, 2) := by decide +kernel
theorem dX9_putShifted_48 : decode cX9_putShifted 48 = .ok (.aload_n 0, 1) := by decide +kernel
theorem dX9_putShifted_49 : decode cX9_putShifted 49 = .ok (.iload 7, 2) := by decide +kernel
theorem dX9_putShifted_51 : decode cX9_putShifted 51 = .ok (.ifCond .eq 13, 3) := by decide +kernel
theorem dX9_putShifted_54 : decode cX9_putShifted 54 = .ok (.aload_n 1, 1) := by decide +kernel
theorem dX9_putShifted_55 : decode cX9_putShifted 55 = .ok (.iload 6, 2) := by decide +kernel
theorem dX9_putShifted_57 : decode cX9_putShifted 57 = .ok (.iaload, 1) := by decide +kernel
theorem dX9_putShifted_58 : decode cX9_putShifted 58 = .ok (.iload 4, 2) := by decide +kernel
theorem dX9_putShifted_60 : decode cX9_putShifted 60 = .ok (.iadd, 1) := by decide +kernel
theorem dX9_putShifted_61 : decode cX9_putShifted 61 = .ok (.goto 7, 3) := by decide +kernel
theorem dX9_putShifted_64 : decode cX9_putShifted 64 = .ok (.aload_n 1, 1) := by decide +kernel
theorem dX9_putShifted_65 : decode cX9_putShifted 65 = .ok (.iload 6, 2) := by decide +kernel
theorem dX9_putShifted_67 : decode cX9_putShifted 67 = .ok (.iaload, 1) := by decide +kernel
theorem dX9_putShifted_68 : decode cX9_putShifted 68 = .ok (.invokevirtual 83, 3) := by decide +kernel
theorem dX9_putShifted_71 : decode cX9_putShifted 71 = .ok (.istore 5, 2) := by decide +kernel
theorem dX9_putShifted_73 : decode cX9_putShifted 73 = .ok (.iinc 6 1, 3) := by decide +kernel
theorem dX9_putShifted_76 : decode cX9_putShifted 76 = .ok (.goto (-70), 3) := by decide +kernel
theorem dX9_putShifted_79 : decode cX9_putShifted 79 = .ok (.iload 5, 2) := by decide +kernel
theorem dX9_putShifted_81 : decode cX9_putShifted 81 = .ok (.ireturn, 1) := by decide +kernel
theorem dX9_contract_0 : decode cX9_contract 0 = .ok (.aload_n 1, 1) := by decide +kernel
theorem dX9_contract_1 : decode cX9_contract 1 = .ok (.iload_n 2, 1) := by decide +kernel
theorem dX9_contract_2 : decode cX9_contract 2 = .ok (.iconst 1, 1) := by decide +kernel
theorem dX9_contract_3 : decode cX9_contract 3 = .ok (.iadd, 1) := by decide +kernel
theorem dX9_contract_4 : decode cX9_contract 4 = .ok (.invokestatic 76, 3) := by decide +kernel
theorem dX9_contract_7 : decode cX9_contract 7 = .ok (.istore_n 3, 1) := by decide +kernel
theorem dX9_contract_8 : decode cX9_contract 8 = .ok (.aload_n 1, 1) := by decide +kernel
theorem dX9_contract_9 : decode cX9_contract 9 = .ok (.iload_n 3, 1) := by decide +kernel
theorem dX9_contract_10 : decode cX9_contract 10 = .ok (.invokestatic 76, 3) := by decide +kernel
theorem dX9_contract_13 : decode cX9_contract 13 = .ok (.istore 4, 2) := by decide +kernel
theorem dX9_contract_15 : decode cX9_contract 15 = .ok (.aload_n 0, 1) := by decide +kernel
theorem dX9_contract_16 : decode cX9_contract 16 = .ok (.getfield 22, 3) := by decide +kernel
theorem dX9_contract_19 : decode cX9_contract 19 = .ok (.sipush 200, 3) := by decide +kernel
theorem dX9_contract_22 : decode cX9_contract 22 = .ok (.iconst 0, 1) := by decide +kernel
theorem dX9_contract_23 : decode cX9_contract 23 = .ok (.iastore, 1) := by decide +kernel
theorem dX9_contract_24 : decode cX9_contract 24 = .ok (.iconst 1, 1) := by decide +kernel
theorem dX9_contract_25 : decode cX9_contract 25 = .ok (.istore 5, 2) := by decide +kernel
theorem dX9_contract_27 : decode cX9_contract 27 = .ok (.iconst 0, 1) := by decide +kernel
theorem dX9_contract_28 : decode cX9_contract 28 = .ok (.istore 6, 2) := by decide +kernel
theorem dX9_contract_30 : decode cX9_contract 30 = .ok (.iload 6, 2) := by decide +kernel
theorem dX9_contract_32 : decode cX9_contract 32 = .ok (.iload_n 2, 1) := by decide +kernel
theorem dX9_contract_33 : decode cX9_contract 33 = .ok (.if_icmp .ge 32, 3) := by decide +kernel
theorem dX9_contract_36 : decode cX9_contract 36 = .ok (.iload 5, 2) := by decide +kernel
theorem dX9_contract_38 : decode cX9_contract 38 = .ok (.ifCond .eq 18, 3) := by decide +kernel
theorem dX9_contract_41 : decode cX9_contract 41 = .ok (.aload_n 0, 1) := by decide +kernel
theorem dX9_contract_42 : decode cX9_contract 42 = .ok (.aload_n 1, 1) := by decide +kernel
theorem dX9_contract_43 : decode cX9_contract 43 = .ok (.iload 6, 2) := by decide +kernel
theorem dX9_contract_45 : decode cX9_contract 45 = .ok (.iaload, 1) := by decide +kernel
theorem dX9_contract_46 : decode cX9_contract 46 = .ok (.invokevirtual 83, 3) := by decide +kernel
theorem dX9_contract_49 : decode cX9_contract 49 = .ok (.ifCond .eq 7, 3) := by decide +kernel
theorem dX9_contract_52 : decode cX9_contract 52 = .ok (.iconst 1, 1) := by decide +kernel
theorem dX9_contract_53 : decode cX9_contract 53 = .ok (.goto 4, 3) := by decide +kernel
theorem dX9_contract_56 : decode cX9_contract 56 = .ok (.iconst 0, 1) := by decide +kernel
theorem dX9_contract_57 : decode cX9_contract 57 = .ok (.istore 5, 2) := by decide +kernel
theorem dX9_contract_59 : decode cX9_contract 59 = .ok (.iinc 6 1, 3) := by decide +kernel
theorem dX9_contract_62 : decode cX9_contract 62 = .ok (.goto (-32), 3) := by decide +kernel
theorem dX9_contract_65 : decode cX9_contract 65 = .ok (.aload_n 0, 1) := by decide +kernel
theorem dX9_contract_66 : decode cX9_contract 66 = .ok (.aload_n 1, 1) := by decide +kernel
theorem dX9_contract_67 : decode cX9_contract 67 = .ok (.iload_n 3, 1) := by decide +kernel
theorem dX9_contract_68 : decode cX9_contract 68 = .ok (.iload 4, 2) := by decide +kernel
theorem dX9_contract_70 : decode cX9_contract 70 = .ok (.invokevirtual 86, 3) := by decide +kernel
theorem dX9_contract_73 : decode cX9_contract 73 = .ok (.aload_n 0, 1) := by decide +kernel
theorem dX9_contract_74 : decode cX9_contract 74 = .ok (.aload_n 1, 1) := by decide +kernel
theorem dX9_contract_75 : decode cX9_contract 75 = .ok (.iload_n 2, 1) := by decide +kernel
theorem dX9_contract_76 : decode cX9_contract 76 = .ok (.iconst 2, 1) := by decide +kernel
theorem dX9_contract_77 : decode cX9_contract 77 = .ok (.iadd, 1) := by decide +kernel
theorem dX9_contract_78 : decode cX9_contract 78 = .ok (.iload_n 3, 1) := by decide +kernel
theorem dX9_contract_79 : decode cX9_contract 79 = .ok (.invokevirtual 86, 3) := by decide +kernel
theorem dX9_contract_82 : decode cX9_contract 82 = .ok (.iload_n 2, 1) := by decide +kernel
theorem dX9_contract_83 : decode cX9_contract 83 = .ok (.iconst 2, 1) := by decide +kernel
theorem dX9_contract_84 : decode cX9_contract 84 = .ok (.iadd, 1) := by decide +kernel
theorem dX9_contract_85 : decode cX9_contract 85 = .ok (.istore 6, 2) := by decide +kernel
theorem dX9_contract_87 : decode cX9_contract 87 = .ok (.iload 6, 2) := by decide +kernel
theorem dX9_contract_89 : decode cX9_contract 89 = .ok (.iload_n 3, 1) := by decide +kernel
theorem dX9_contract_90 : decode cX9_contract 90 = .ok (.if_icmp .ge 91, 3) := by decide +kernel
theorem dX9_contract_93 : decode cX9_contract 93 = .ok (.iload 5, 2) := by decide +kernel
theorem dX9_contract_95 : decode cX9_contract 95 = .ok (.ifCond .eq 86, 3) := by decide +kernel
theorem dX9_contract_98 : decode cX9_contract 98 = .ok (.aload_n 0, 1) := by decide +kernel
theorem dX9_contract_99 : decode cX9_contract 99 = .ok (.getfield 41, 3) := by decide +kernel
theorem dX9_contract_102 : decode cX9_contract 102 = .ok (.iload 6, 2) := by decide +kernel
theorem dX9_contract_104 : decode cX9_contract 104 = .ok (.iaload, 1) := by decide +kernel
theorem dX9_contract_105 : decode cX9_contract 105 = .ok (.istore 7, 2) := by decide +kernel
theorem dX9_contract_107 : decode cX9_contract 107 = .ok (.aload_n 1, 1) := by decide +kernel
theorem dX9_contract_108 : decode cX9_contract 108 = .ok (.iload 6, 2) := by decide +kernel
theorem dX9_contract_110 : decode cX9_contract 110 = .ok (.iaload, 1) := by decide +kernel
theorem dX9_contract_111 : decode cX9_contract 111 = .ok (.invokestatic 68, 3) := by decide +kernel
theorem dX9_contract_114 : decode cX9_contract 114 = .ok (.ifCond .eq 12, 3) := by decide +kernel
theorem dX9_contract_117 : decode cX9_contract 117 = .ok (.aload_n 1, 1) := by decide +kernel
theorem dX9_contract_118 : decode cX9_contract 118 = .ok (.iload 6, 2) := by decide +kernel
theorem dX9_contract_120 : decode cX9_contract 120 = .ok (.iaload, 1) := by decide +kernel
theorem dX9_contract_121 : decode cX9_contract 121 = .ok (.iload 7, 2) := by decide +kernel
theorem dX9_contract_123 : decode cX9_contract 123 = .ok (.if_icmp .ge 16, 3) := by decide +kernel
theorem dX9_contract_126 : decode cX9_contract 126 = .ok (.aload_n 0, 1) := by decide +kernel
theorem dX9_contract_127 : decode cX9_contract 127 = .ok (.aload_n 1, 1) := by decide +kernel
theorem dX9_contract_128 : decode cX9_contract 128 = .ok (.iload 6, 2) := by decide +kernel
theorem dX9_contract_130 : decode cX9_contract 130 = .ok (.iaload, 1) := by decide +kernel
theorem dX9_contract_131 : decode cX9_contract 131 = .ok (.invokevirtual 83, 3) := by decide +kernel
theorem dX9_contract_134 : decode cX9_contract 134 = .ok (.istore 5, 2) := by decide +kernel
theorem dX9_contract_136 : decode cX9_contract 136 = .ok (.goto 39, 3) := by decide +kernel
theorem dX9_contract_139 : decode cX9_contract 139 = .ok (.aload_n 1, 1) := by decide +kernel
theorem dX9_contract_140 : decode cX9_contract 140 = .ok (.iload 6, 2) := by decide +kernel
theorem dX9_contract_142 : decode cX9_contract 142 = .ok (.iaload, 1) := by decide +kernel
theorem dX9_contract_143 : decode cX9_contract 143 = .ok (.iload 7, 2) := by decide +kernel
theorem dX9_contract_145 : decode cX9_contract 145 = .ok (.if_icmp .le 18, 3) := by decide +kernel
theorem dX9_contract_148 : decode cX9_contract 148 = .ok (.aload_n 0, 1) := by decide +kernel
theorem dX9_contract_149 : decode cX9_contract 149 = .ok (.aload_n 1, 1) := by decide +kernel
theorem dX9_contract_150 : decode cX9_contract 150 = .ok (.iload 6, 2) := by decide +kernel
theorem dX9_contract_152 : decode cX9_contract 152 = .ok (.iaload, 1) := by decide +kernel
theorem dX9_contract_153 : decode cX9_contract 153 = .ok (.iconst 1, 1) := by decide +kernel
theorem dX9_contract_154 : decode cX9_contract 154 = .ok (.isub, 1) := by decide +kernel
theorem dX9_contract_155 : decode cX9_contract 155 = .ok (.invokevirtual 83, 3) := by decide +kernel
theorem dX9_contract_158 : decode cX9_contract 158 = .ok (.istore 5, 2) := by decide +kernel
theorem dX9_contract_160 : decode cX9_contract 160 = .ok (.goto 15, 3) := by decide +kernel
theorem dX9_contract_163 : decode cX9_contract 163 = .ok (.aload_n 0, 1) := by decide +kernel
theorem dX9_contract_164 : decode cX9_contract 164 = .ok (.aload_n 1, 1) := by decide +kernel
theorem dX9_contract_165 : decode cX9_contract 165 = .ok (.iload_n 3, 1) := by decide +kernel
theorem dX9_contract_166 : decode cX9_contract 166 = .ok (.iload 4, 2) := by decide +kernel
theorem dX9_contract_168 : decode cX9_contract 168 = .ok (.iload 7, 2) := by decide +kernel
theorem dX9_contract_170 : decode cX9_contract 170 = .ok (.invokevirtual 90, 3) := by decide +kernel
theorem dX9_contract_173 : decode cX9_contract 173 = .ok (.istore 5, 2) := by decide +kernel
theorem dX9_contract_175 : decode cX9_contract 175 = .ok (.iinc 6 1, 3) := by decide +kernel
theorem dX9_contract_178 : decode cX9_contract 178 = .ok (.goto (-91), 3) := by decide +kernel
theorem dX9_contract_181 : decode cX9_contract 181 = .ok (.iload 4, 2) := by decide +kernel
theorem dX9_contract_183 : decode cX9_contract 183 = .ok (.istore 6, 2) := by decide +kernel
theorem dX9_contract_185 : decode cX9_contract 185 = .ok (.iload 6, 2) := by decide +kernel
theorem dX9_contract_187 : decode cX9_contract 187 = .ok (.aload_n 1, 1) := by decide +kernel
theorem dX9_contract_188 : decode cX9_contract 188 = .ok (.sipush 200, 3) := by decide +kernel
theorem dX9_contract_191 : decode cX9_contract 191 = .ok (.iaload, 1) := by decide +kernel
theorem dX9_contract_192 : decode cX9_contract 192 = .ok (.if_icmp .ge 32, 3) := by decide +kernel
theorem dX9_contract_195 : decode cX9_contract 195 = .ok (.iload 5, 2) := by decide +kernel
theorem dX9_contract_197 : decode cX9_contract 197 = .ok (.ifCond .eq 18, 3) := by decide +kernel
theorem dX9_contract_200 : decode cX9_contract 200 = .ok (.aload_n 0, 1) := by decide +kernel
theorem dX9_contract_201 : decode cX9_contract 201 = .ok (.aload_n 1, 1) := by decide +kernel
theorem dX9_contract_202 : decode cX9_contract 202 = .ok (.iload 6, 2) := by decide +kernel
theorem dX9_contract_204 : decode cX9_contract 204 = .ok (.iaload, 1) := by decide +kernel
theorem dX9_contract_205 : decode cX9_contract 205 = .ok (.invokevirtual 83, 3) := by decide +kernel
theorem dX9_contract_208 : decode cX9_contract 208 = .ok (.ifCond .eq 7, 3) := by decide +kernel
theorem dX9_contract_211 : decode cX9_contract 211 = .ok (.iconst 1, 1) := by decide +kernel
theorem dX9_contract_212 : decode cX9_contract 212 = .ok (.goto 4, 3) := by decide +kernel
theorem dX9_contract_215 : decode cX9_contract 215 = .ok (.iconst 0, 1) := by decide +kernel
theorem dX9_contract_216 : decode cX9_contract 216 = .ok (.istore 5, 2) := by decide +kernel
theorem dX9_contract_218 : decode cX9_contract 218 = .ok (.iinc 6 1, 3) := by decide +kernel
theorem dX9_contract_221 : decode cX9_contract 221 = .ok (.goto (-36), 3) := by decide +kernel
theorem dX9_contract_224 : decode cX9_contract 224 = .ok (.iload 5, 2) := by decide +kernel
theorem dX9_contract_226 : decode cX9_contract 226 = .ok (.ireturn, 1) := by decide +kernel
theorem dX9_runOn_0 : decode cX9_runOn 0 = .ok (.iconst 0, 1) := by decide +kernel
theorem dX9_runOn_1 : decode cX9_runOn 1 = .ok (.istore 4, 2) := by decide +kernel
theorem dX9_runOn_3 : decode cX9_runOn 3 = .ok (.iload 4, 2) := by decide +kernel
theorem dX9_runOn_5 : decode cX9_runOn 5 = .ok (.iload_n 3, 1) := by decide +kernel
theorem dX9_runOn_6 : decode cX9_runOn 6 = .ok (.if_icmp .ge 44, 3) := by decide +kernel
theorem dX9_runOn_9 : decode cX9_runOn 9 = .ok (.aload_n 1, 1) := by decide +kernel
theorem dX9_runOn_10 : decode cX9_runOn 10 = .ok (.iload_n 2, 1) := by decide +kernel
theorem dX9_runOn_11 : decode cX9_runOn 11 = .ok (.invokestatic 94, 3) := by decide +kernel
theorem dX9_runOn_14 : decode cX9_runOn 14 = .ok (.istore 5, 2) := by decide +kernel
theorem dX9_runOn_16 : decode cX9_runOn 16 = .ok (.iload 5, 2) := by decide +kernel
theorem dX9_runOn_18 : decode cX9_runOn 18 = .ok (.bipush (-9), 2) := by decide +kernel
theorem dX9_runOn_20 : decode cX9_runOn 20 = .ok (.if_icmp .eq 13, 3) := by decide +kernel
theorem dX9_runOn_23 : decode cX9_runOn 23 = .ok (.aload_n 0, 1) := by decide +kernel
theorem dX9_runOn_24 : decode cX9_runOn 24 = .ok (.aload_n 1, 1) := by decide +kernel
theorem dX9_runOn_25 : decode cX9_runOn 25 = .ok (.iload 5, 2) := by decide +kernel
theorem dX9_runOn_27 : decode cX9_runOn 27 = .ok (.invokevirtual 97, 3) := by decide +kernel
theorem dX9_runOn_30 : decode cX9_runOn 30 = .ok (.ifCond .ne 6, 3) := by decide +kernel
theorem dX9_runOn_33 : decode cX9_runOn 33 = .ok (.iload 4, 2) := by decide +kernel
theorem dX9_runOn_35 : decode cX9_runOn 35 = .ok (.ireturn, 1) := by decide +kernel
theorem dX9_runOn_36 : decode cX9_runOn 36 = .ok (.aload_n 0, 1) := by decide +kernel
theorem dX9_runOn_37 : decode cX9_runOn 37 = .ok (.getfield 22, 3) := by decide +kernel
theorem dX9_runOn_40 : decode cX9_runOn 40 = .ok (.aload_n 1, 1) := by decide +kernel
theorem dX9_runOn_41 : decode cX9_runOn 41 = .ok (.invokestatic 100, 3) := by decide +kernel
theorem dX9_runOn_44 : decode cX9_runOn 44 = .ok (.iinc 4 1, 3) := by decide +kernel
theorem dX9_runOn_47 : decode cX9_runOn 47 = .ok (.goto (-44), 3) := by decide +kernel
theorem dX9_runOn_50 : decode cX9_runOn 50 = .ok (.iload 4, 2) := by decide +kernel
theorem dX9_runOn_52 : decode cX9_runOn 52 = .ok (.ireturn, 1) := by decide +kernel
theorem dX9_normalize_0 : decode cX9_normalize 0 = .ok (.aload_n 0, 1) := by decide +kernel
theorem dX9_normalize_1 : decode cX9_normalize 1 = .ok (.aload_n 1, 1) := by decide +kernel
theorem dX9_normalize_2 : decode cX9_normalize 2 = .ok (.iconst 0, 1) := by decide +kernel
theorem dX9_normalize_3 : decode cX9_normalize 3 = .ok (.sipush 200, 3) := by decide +kernel
theorem dX9_normalize_6 : decode cX9_normalize 6 = .ok (.invokevirtual 104, 3) := by decide +kernel
theorem dX9_normalize_9 : decode cX9_normalize 9 = .ok (.pop, 1) := by decide +kernel
theorem dX9_normalize_10 : decode cX9_normalize 10 = .ok (.aload_n 1, 1) := by decide +kernel
theorem dX9_normalize_11 : decode cX9_normalize 11 = .ok (.invokestatic 108, 3) := by decide +kernel
theorem dX9_normalize_14 : decode cX9_normalize 14 = .ok (.ifCond .ne 7, 3) := by decide +kernel
theorem dX9_normalize_17 : decode cX9_normalize 17 = .ok (.iconst 1, 1) := by decide +kernel
theorem dX9_normalize_18 : decode cX9_normalize 18 = .ok (.goto 4, 3) := by decide +kernel
theorem dX9_normalize_21 : decode cX9_normalize 21 = .ok (.iconst 0, 1) := by decide +kernel
theorem dX9_normalize_22 : decode cX9_normalize 22 = .ok (.ireturn, 1) := by decide +kernel
theorem dX9_append_0 : decode cX9_append 0 = .ok (.aload_n 0, 1) := by decide +kernel
theorem dX9_append_1 : decode cX9_append 1 = .ok (.iconst 0, 1) := by decide +kernel
theorem dX9_append_2 : decode cX9_append 2 = .ok (.putfield 59, 3) := by decide +kernel
theorem dX9_append_5 : decode cX9_append 5 = .ok (.iload_n 1, 1) := by decide +kernel
theorem dX9_append_6 : decode cX9_append 6 = .ok (.i2l, 1) := by decide +kernel
theorem dX9_append_7 : decode cX9_append 7 = .ok (.lconst 0, 1) := by decide +kernel
theorem dX9_append_8 : decode cX9_append 8 = .ok (.ldc2_w 112, 3) := by decide +kernel
theorem dX9_append_11 : decode cX9_append 11 = .ok (.invokestatic 114, 3) := by decide +kernel
theorem dX9_append_14 : decode cX9_append 14 = .ok (.ifCond .ne 6, 3) := by decide +kernel
theorem dX9_append_17 : decode cX9_append 17 = .ok (.bipush (-2), 2) := by decide +kernel
theorem dX9_append_19 : decode cX9_append 19 = .ok (.ireturn, 1) := by decide +kernel
theorem dX9_append_20 : decode cX9_append 20 = .ok (.aload_n 0, 1) := by decide +kernel
theorem dX9_append_21 : decode cX9_append 21 = .ok (.getfield 118, 3) := by decide +kernel
theorem dX9_append_24 : decode cX9_append 24 = .ok (.bipush 60, 2) := by decide +kernel
theorem dX9_append_26 : decode cX9_append 26 = .ok (.if_icmp .ne 6, 3) := by decide +kernel
theorem dX9_append_29 : decode cX9_append 29 = .ok (.bipush (-4), 2) := by decide +kernel
theorem dX9_append_31 : decode cX9_append 31 = .ok (.ireturn, 1) := by decide +kernel
theorem dX9_append_32 : decode cX9_append 32 = .ok (.aload_n 0, 1) := by decide +kernel
theorem dX9_append_33 : decode cX9_append 33 = .ok (.getfield 7, 3) := by decide +kernel
theorem dX9_append_36 : decode cX9_append 36 = .ok (.aload_n 0, 1) := by decide +kernel
theorem dX9_append_37 : decode cX9_append 37 = .ok (.getfield 118, 3) := by decide +kernel
theorem dX9_append_40 : decode cX9_append 40 = .ok (.iload_n 1, 1) := by decide +kernel
theorem dX9_append_41 : decode cX9_append 41 = .ok (.iastore, 1) := by decide +kernel
theorem dX9_append_42 : decode cX9_append 42 = .ok (.aload_n 0, 1) := by decide +kernel
theorem dX9_append_43 : decode cX9_append 43 = .ok (.dup, 1) := by decide +kernel
theorem dX9_append_44 : decode cX9_append 44 = .ok (.getfield 118, 3) := by decide +kernel
theorem dX9_append_47 : decode cX9_append 47 = .ok (.iconst 1, 1) := by decide +kernel
theorem dX9_append_48 : decode cX9_append 48 = .ok (.iadd, 1) := by decide +kernel
theorem dX9_append_49 : decode cX9_append 49 = .ok (.putfield 118, 3) := by decide +kernel
theorem dX9_append_52 : decode cX9_append 52 = .ok (.aload_n 0, 1) := by decide +kernel
theorem dX9_append_53 : decode cX9_append 53 = .ok (.getfield 118, 3) := by decide +kernel
theorem dX9_append_56 : decode cX9_append 56 = .ok (.ireturn, 1) := by decide +kernel
theorem dX9_clearText_0 : decode cX9_clearText 0 = .ok (.aload_n 0, 1) := by decide +kernel
theorem dX9_clearText_1 : decode cX9_clearText 1 = .ok (.iconst 0, 1) := by decide +kernel
theorem dX9_clearText_2 : decode cX9_clearText 2 = .ok (.putfield 59, 3) := by decide +kernel
theorem dX9_clearText_5 : decode cX9_clearText 5 = .ok (.aload_n 0, 1) := by decide +kernel
theorem dX9_clearText_6 : decode cX9_clearText 6 = .ok (.getfield 118, 3) := by decide +kernel
theorem dX9_clearText_9 : decode cX9_clearText 9 = .ok (.istore_n 1, 1) := by decide +kernel
theorem dX9_clearText_10 : decode cX9_clearText 10 = .ok (.aload_n 0, 1) := by decide +kernel
theorem dX9_clearText_11 : decode cX9_clearText 11 = .ok (.iconst 0, 1) := by decide +kernel
theorem dX9_clearText_12 : decode cX9_clearText 12 = .ok (.putfield 118, 3) := by decide +kernel
theorem dX9_clearText_15 : decode cX9_clearText 15 = .ok (.iload_n 1, 1) := by decide +kernel
theorem dX9_clearText_16 : decode cX9_clearText 16 = .ok (.ireturn, 1) := by decide +kernel
theorem dX9_tokenOf_0 : decode cX9_tokenOf 0 = .ok (.iload_n 0, 1) := by decide +kernel
theorem dX9_tokenOf_1 : decode cX9_tokenOf 1 = .ok (.bipush 76, 2) := by decide +kernel
theorem dX9_tokenOf_3 : decode cX9_tokenOf 3 = .ok (.if_icmp .ne 9, 3) := by decide +kernel
theorem dX9_tokenOf_6 : decode cX9_tokenOf 6 = .ok (.sipush 1001, 3) := by decide +kernel
theorem dX9_tokenOf_9 : decode cX9_tokenOf 9 = .ok (.goto 38, 3) := by decide +kernel
theorem dX9_tokenOf_12 : decode cX9_tokenOf 12 = .ok (.iload_n 0, 1) := by decide +kernel
theorem dX9_tokenOf_13 : decode cX9_tokenOf 13 = .ok (.bipush 64, 2) := by decide +kernel
theorem dX9_tokenOf_15 : decode cX9_tokenOf 15 = .ok (.if_icmp .ne 9, 3) := by decide +kernel
theorem dX9_tokenOf_18 : decode cX9_tokenOf 18 = .ok (.sipush 1000, 3) := by decide +kernel
theorem dX9_tokenOf_21 : decode cX9_tokenOf 21 = .ok (.goto 26, 3) := by decide +kernel
theorem dX9_tokenOf_24 : decode cX9_tokenOf 24 = .ok (.iload_n 0, 1) := by decide +kernel
theorem dX9_tokenOf_25 : decode cX9_tokenOf 25 = .ok (.i2l, 1) := by decide +kernel
theorem dX9_tokenOf_26 : decode cX9_tokenOf 26 = .ok (.ldc2_w 121, 3) := by decide +kernel
theorem dX9_tokenOf_29 : decode cX9_tokenOf 29 = .ok (.ldc2_w 123, 3) := by decide +kernel
theorem dX9_tokenOf_32 : decode cX9_tokenOf 32 = .ok (.invokestatic 114, 3) := by decide +kernel
theorem dX9_tokenOf_35 : decode cX9_tokenOf 35 = .ok (.ifCond .eq 10, 3) := by decide +kernel
theorem dX9_tokenOf_38 : decode cX9_tokenOf 38 = .ok (.iload_n 0, 1) := by decide +kernel
theorem dX9_tokenOf_39 : decode cX9_tokenOf 39 = .ok (.bipush 48, 2) := by decide +kernel
theorem dX9_tokenOf_41 : decode cX9_tokenOf 41 = .ok (.isub, 1) := by decide +kernel
theorem dX9_tokenOf_42 : decode cX9_tokenOf 42 = .ok (.goto 5, 3) := by decide +kernel
theorem dX9_tokenOf_45 : decode cX9_tokenOf 45 = .ok (.bipush (-9), 2) := by decide +kernel
theorem dX9_tokenOf_47 : decode cX9_tokenOf 47 = .ok (.ireturn, 1) := by decide +kernel
theorem dX9_errorPosition_0 : decode cX9_errorPosition 0 = .ok (.aload_n 0, 1) := by decide +kernel
theorem dX9_errorPosition_1 : decode cX9_errorPosition 1 = .ok (.iconst 0, 1) := by decide +kernel
theorem dX9_errorPosition_2 : decode cX9_errorPosition 2 = .ok (.putfield 59, 3) := by decide +kernel
theorem dX9_errorPosition_5 : decode cX9_errorPosition 5 = .ok (.iconst 1, 1) := by decide +kernel
theorem dX9_errorPosition_6 : decode cX9_errorPosition 6 = .ok (.istore_n 1, 1) := by decide +kernel
theorem dX9_errorPosition_7 : decode cX9_errorPosition 7 = .ok (.iconst 0, 1) := by decide +kernel
theorem dX9_errorPosition_8 : decode cX9_errorPosition 8 = .ok (.istore_n 2, 1) := by decide +kernel
theorem dX9_errorPosition_9 : decode cX9_errorPosition 9 = .ok (.iload_n 2, 1) := by decide +kernel
theorem dX9_errorPosition_10 : decode cX9_errorPosition 10 = .ok (.aload_n 0, 1) := by decide +kernel
theorem dX9_errorPosition_11 : decode cX9_errorPosition 11 = .ok (.getfield 118, 3) := by decide +kernel
theorem dX9_errorPosition_14 : decode cX9_errorPosition 14 = .ok (.if_icmp .ge 40, 3) := by decide +kernel
theorem dX9_errorPosition_17 : decode cX9_errorPosition 17 = .ok (.aload_n 0, 1) := by decide +kernel
theorem dX9_errorPosition_18 : decode cX9_errorPosition 18 = .ok (.getfield 7, 3) := by decide +kernel
theorem dX9_errorPosition_21 : decode cX9_errorPosition 21 = .ok (.iload_n 2, 1) := by decide +kernel
theorem dX9_errorPosition_22 : decode cX9_errorPosition 22 = .ok (.iaload, 1) := by decide +kernel
theorem dX9_errorPosition_23 : decode cX9_errorPosition 23 = .ok (.invokestatic 125, 3) := by decide +kernel
theorem dX9_errorPosition_26 : decode cX9_errorPosition 26 = .ok (.istore_n 3, 1) := by decide +kernel
theorem dX9_errorPosition_27 : decode cX9_errorPosition 27 = .ok (.iload_n 3, 1) := by decide +kernel
theorem dX9_errorPosition_28 : decode cX9_errorPosition 28 = .ok (.bipush (-9), 2) := by decide +kernel
theorem dX9_errorPosition_30 : decode cX9_errorPosition 30 = .ok (.if_icmp .eq 7, 3) := by decide +kernel
theorem dX9_errorPosition_33 : decode cX9_errorPosition 33 = .ok (.iload_n 1, 1) := by decide +kernel
theorem dX9_errorPosition_34 : decode cX9_errorPosition 34 = .ok (.ifCond .ne 5, 3) := by decide +kernel
theorem dX9_errorPosition_37 : decode cX9_errorPosition 37 = .ok (.iload_n 2, 1) := by decide +kernel
theorem dX9_errorPosition_38 : decode cX9_errorPosition 38 = .ok (.ireturn, 1) := by decide +kernel
theorem dX9_errorPosition_39 : decode cX9_errorPosition 39 = .ok (.iload_n 1, 1) := by decide +kernel
theorem dX9_errorPosition_40 : decode cX9_errorPosition 40 = .ok (.iload_n 3, 1) := by decide +kernel
theorem dX9_errorPosition_41 : decode cX9_errorPosition 41 = .ok (.invokestatic 64, 3) := by decide +kernel
theorem dX9_errorPosition_44 : decode cX9_errorPosition 44 = .ok (.iconst 1, 1) := by decide +kernel
theorem dX9_errorPosition_45 : decode cX9_errorPosition 45 = .ok (.isub, 1) := by decide +kernel
theorem dX9_errorPosition_46 : decode cX9_errorPosition 46 = .ok (.iadd, 1) := by decide +kernel
theorem dX9_errorPosition_47 : decode cX9_errorPosition 47 = .ok (.istore_n 1, 1) := by decide +kernel
theorem dX9_errorPosition_48 : decode cX9_errorPosition 48 = .ok (.iinc 2 1, 3) := by decide +kernel
theorem dX9_errorPosition_51 : decode cX9_errorPosition 51 = .ok (.goto (-42), 3) := by decide +kernel
theorem dX9_errorPosition_54 : decode cX9_errorPosition 54 = .ok (.iload_n 1, 1) := by decide +kernel
theorem dX9_errorPosition_55 : decode cX9_errorPosition 55 = .ok (.ifCond .le 10, 3) := by decide +kernel
theorem dX9_errorPosition_58 : decode cX9_errorPosition 58 = .ok (.aload_n 0, 1) := by decide +kernel
theorem dX9_errorPosition_59 : decode cX9_errorPosition 59 = .ok (.getfield 118, 3) := by decide +kernel
theorem dX9_errorPosition_62 : decode cX9_errorPosition 62 = .ok (.goto 5, 3) := by decide +kernel
theorem dX9_errorPosition_65 : decode cX9_errorPosition 65 = .ok (.bipush (-9), 2) := by decide +kernel
theorem dX9_errorPosition_67 : decode cX9_errorPosition 67 = .ok (.ireturn, 1) := by decide +kernel
theorem dX9_load_0 : decode cX9_load 0 = .ok (.aload_n 0, 1) := by decide +kernel
theorem dX9_load_1 : decode cX9_load 1 = .ok (.iconst 0, 1) := by decide +kernel
theorem dX9_load_2 : decode cX9_load 2 = .ok (.putfield 59, 3) := by decide +kernel
theorem dX9_load_5 : decode cX9_load 5 = .ok (.aload_n 0, 1) := by decide +kernel
theorem dX9_load_6 : decode cX9_load 6 = .ok (.invokevirtual 128, 3) := by decide +kernel
theorem dX9_load_9 : decode cX9_load 9 = .ok (.bipush (-9), 2) := by decide +kernel
theorem dX9_load_11 : decode cX9_load 11 = .ok (.if_icmp .eq 6, 3) := by decide +kernel
theorem dX9_load_14 : decode cX9_load 14 = .ok (.bipush (-3), 2) := by decide +kernel
theorem dX9_load_16 : decode cX9_load 16 = .ok (.ireturn, 1) := by decide +kernel
theorem dX9_load_17 : decode cX9_load 17 = .ok (.iconst 0, 1) := by decide +kernel
theorem dX9_load_18 : decode cX9_load 18 = .ok (.istore_n 1, 1) := by decide +kernel
theorem dX9_load_19 : decode cX9_load 19 = .ok (.iload_n 1, 1) := by decide +kernel
theorem dX9_load_20 : decode cX9_load 20 = .ok (.aload_n 0, 1) := by decide +kernel
theorem dX9_load_21 : decode cX9_load 21 = .ok (.getfield 118, 3) := by decide +kernel
theorem dX9_load_24 : decode cX9_load 24 = .ok (.if_icmp .ge 24, 3) := by decide +kernel
theorem dX9_load_27 : decode cX9_load 27 = .ok (.aload_n 0, 1) := by decide +kernel
theorem dX9_load_28 : decode cX9_load 28 = .ok (.getfield 13, 3) := by decide +kernel
theorem dX9_load_31 : decode cX9_load 31 = .ok (.iload_n 1, 1) := by decide +kernel
theorem dX9_load_32 : decode cX9_load 32 = .ok (.aload_n 0, 1) := by decide +kernel
theorem dX9_load_33 : decode cX9_load 33 = .ok (.getfield 7, 3) := by decide +kernel
theorem dX9_load_36 : decode cX9_load 36 = .ok (.iload_n 1, 1) := by decide +kernel
theorem dX9_load_37 : decode cX9_load 37 = .ok (.iaload, 1) := by decide +kernel
theorem dX9_load_38 : decode cX9_load 38 = .ok (.invokestatic 125, 3) := by decide +kernel
theorem dX9_load_41 : decode cX9_load 41 = .ok (.iastore, 1) := by decide +kernel
theorem dX9_load_42 : decode cX9_load 42 = .ok (.iinc 1 1, 3) := by decide +kernel
theorem dX9_load_45 : decode cX9_load 45 = .ok (.goto (-26), 3) := by decide +kernel
theorem dX9_load_48 : decode cX9_load 48 = .ok (.aload_n 0, 1) := by decide +kernel
theorem dX9_load_49 : decode cX9_load 49 = .ok (.getfield 13, 3) := by decide +kernel
theorem dX9_load_52 : decode cX9_load 52 = .ok (.sipush 200, 3) := by decide +kernel
theorem dX9_load_55 : decode cX9_load 55 = .ok (.aload_n 0, 1) := by decide +kernel
theorem dX9_load_56 : decode cX9_load 56 = .ok (.getfield 118, 3) := by decide +kernel
theorem dX9_load_59 : decode cX9_load 59 = .ok (.iastore, 1) := by decide +kernel
theorem dX9_load_60 : decode cX9_load 60 = .ok (.aload_n 0, 1) := by decide +kernel
theorem dX9_load_61 : decode cX9_load 61 = .ok (.iconst 0, 1) := by decide +kernel
theorem dX9_load_62 : decode cX9_load 62 = .ok (.putfield 132, 3) := by decide +kernel
theorem dX9_load_65 : decode cX9_load 65 = .ok (.aload_n 0, 1) := by decide +kernel
theorem dX9_load_66 : decode cX9_load 66 = .ok (.getfield 31, 3) := by decide +kernel
theorem dX9_load_69 : decode cX9_load 69 = .ok (.iconst 0, 1) := by decide +kernel
theorem dX9_load_70 : decode cX9_load 70 = .ok (.iconst 0, 1) := by decide +kernel
theorem dX9_load_71 : decode cX9_load 71 = .ok (.bastore, 1) := by decide +kernel
theorem dX9_load_72 : decode cX9_load 72 = .ok (.aload_n 0, 1) := by decide +kernel
theorem dX9_load_73 : decode cX9_load 73 = .ok (.getfield 31, 3) := by decide +kernel
theorem dX9_load_76 : decode cX9_load 76 = .ok (.iconst 1, 1) := by decide +kernel
theorem dX9_load_77 : decode cX9_load 77 = .ok (.iconst 0, 1) := by decide +kernel
theorem dX9_load_78 : decode cX9_load 78 = .ok (.bastore, 1) := by decide +kernel
theorem dX9_load_79 : decode cX9_load 79 = .ok (.aload_n 0, 1) := by decide +kernel
theorem dX9_load_80 : decode cX9_load 80 = .ok (.getfield 118, 3) := by decide +kernel
theorem dX9_load_83 : decode cX9_load 83 = .ok (.ireturn, 1) := by decide +kernel
theorem dX9_size_0 : decode cX9_size 0 = .ok (.aload_n 0, 1) := by decide +kernel
theorem dX9_size_1 : decode cX9_size 1 = .ok (.iconst 0, 1) := by decide +kernel
theorem dX9_size_2 : decode cX9_size 2 = .ok (.putfield 59, 3) := by decide +kernel
theorem dX9_size_5 : decode cX9_size 5 = .ok (.aload_n 0, 1) := by decide +kernel
theorem dX9_size_6 : decode cX9_size 6 = .ok (.getfield 13, 3) := by decide +kernel
theorem dX9_size_9 : decode cX9_size 9 = .ok (.sipush 200, 3) := by decide +kernel
theorem dX9_size_12 : decode cX9_size 12 = .ok (.iaload, 1) := by decide +kernel
theorem dX9_size_13 : decode cX9_size 13 = .ok (.ireturn, 1) := by decide +kernel
theorem dX9_tokenAt_0 : decode cX9_tokenAt 0 = .ok (.aload_n 0, 1) := by decide +kernel
theorem dX9_tokenAt_1 : decode cX9_tokenAt 1 = .ok (.iconst 0, 1) := by decide +kernel
theorem dX9_tokenAt_2 : decode cX9_tokenAt 2 = .ok (.putfield 59, 3) := by decide +kernel
theorem dX9_tokenAt_5 : decode cX9_tokenAt 5 = .ok (.iload_n 1, 1) := by decide +kernel
theorem dX9_tokenAt_6 : decode cX9_tokenAt 6 = .ok (.i2l, 1) := by decide +kernel
theorem dX9_tokenAt_7 : decode cX9_tokenAt 7 = .ok (.lconst 0, 1) := by decide +kernel
theorem dX9_tokenAt_8 : decode cX9_tokenAt 8 = .ok (.aload_n 0, 1) := by decide +kernel
theorem dX9_tokenAt_9 : decode cX9_tokenAt 9 = .ok (.getfield 13, 3) := by decide +kernel
theorem dX9_tokenAt_12 : decode cX9_tokenAt 12 = .ok (.sipush 200, 3) := by decide +kernel
theorem dX9_tokenAt_15 : decode cX9_tokenAt 15 = .ok (.iaload, 1) := by decide +kernel
theorem dX9_tokenAt_16 : decode cX9_tokenAt 16 = .ok (.iconst 1, 1) := by decide +kernel
theorem dX9_tokenAt_17 : decode cX9_tokenAt 17 = .ok (.isub, 1) := by decide +kernel
theorem dX9_tokenAt_18 : decode cX9_tokenAt 18 = .ok (.i2l, 1) := by decide +kernel
theorem dX9_tokenAt_19 : decode cX9_tokenAt 19 = .ok (.invokestatic 114, 3) := by decide +kernel
theorem dX9_tokenAt_22 : decode cX9_tokenAt 22 = .ok (.ifCond .eq 12, 3) := by decide +kernel
theorem dX9_tokenAt_25 : decode cX9_tokenAt 25 = .ok (.aload_n 0, 1) := by decide +kernel
theorem dX9_tokenAt_26 : decode cX9_tokenAt 26 = .ok (.getfield 13, 3) := by decide +kernel
theorem dX9_tokenAt_29 : decode cX9_tokenAt 29 = .ok (.iload_n 1, 1) := by decide +kernel
theorem dX9_tokenAt_30 : decode cX9_tokenAt 30 = .ok (.iaload, 1) := by decide +kernel
theorem dX9_tokenAt_31 : decode cX9_tokenAt 31 = .ok (.goto 4, 3) := by decide +kernel
theorem dX9_tokenAt_34 : decode cX9_tokenAt 34 = .ok (.iconst (-1), 1) := by decide +kernel
theorem dX9_tokenAt_35 : decode cX9_tokenAt 35 = .ok (.ireturn, 1) := by decide +kernel
theorem dX9_nameAt_0 : decode cX9_nameAt 0 = .ok (.aload_n 0, 1) := by decide +kernel
theorem dX9_nameAt_1 : decode cX9_nameAt 1 = .ok (.iconst 0, 1) := by decide +kernel
theorem dX9_nameAt_2 : decode cX9_nameAt 2 = .ok (.putfield 59, 3) := by decide +kernel
theorem dX9_nameAt_5 : decode cX9_nameAt 5 = .ok (.iload_n 1, 1) := by decide +kernel
theorem dX9_nameAt_6 : decode cX9_nameAt 6 = .ok (.i2l, 1) := by decide +kernel
theorem dX9_nameAt_7 : decode cX9_nameAt 7 = .ok (.lconst 0, 1) := by decide +kernel
theorem dX9_nameAt_8 : decode cX9_nameAt 8 = .ok (.aload_n 0, 1) := by decide +kernel
theorem dX9_nameAt_9 : decode cX9_nameAt 9 = .ok (.getfield 13, 3) := by decide +kernel
theorem dX9_nameAt_12 : decode cX9_nameAt 12 = .ok (.sipush 200, 3) := by decide +kernel
theorem dX9_nameAt_15 : decode cX9_nameAt 15 = .ok (.iaload, 1) := by decide +kernel
theorem dX9_nameAt_16 : decode cX9_nameAt 16 = .ok (.iconst 1, 1) := by decide +kernel
theorem dX9_nameAt_17 : decode cX9_nameAt 17 = .ok (.isub, 1) := by decide +kernel
theorem dX9_nameAt_18 : decode cX9_nameAt 18 = .ok (.i2l, 1) := by decide +kernel
theorem dX9_nameAt_19 : decode cX9_nameAt 19 = .ok (.invokestatic 114, 3) := by decide +kernel
theorem dX9_nameAt_22 : decode cX9_nameAt 22 = .ok (.ifCond .ne 5, 3) := by decide +kernel
theorem dX9_nameAt_25 : decode cX9_nameAt 25 = .ok (.iconst (-1), 1) := by decide +kernel
theorem dX9_nameAt_26 : decode cX9_nameAt 26 = .ok (.ireturn, 1) := by decide +kernel
theorem dX9_nameAt_27 : decode cX9_nameAt 27 = .ok (.aload_n 0, 1) := by decide +kernel
theorem dX9_nameAt_28 : decode cX9_nameAt 28 = .ok (.aload_n 0, 1) := by decide +kernel
theorem dX9_nameAt_29 : decode cX9_nameAt 29 = .ok (.getfield 13, 3) := by decide +kernel
theorem dX9_nameAt_32 : decode cX9_nameAt 32 = .ok (.iconst 0, 1) := by decide +kernel
theorem dX9_nameAt_33 : decode cX9_nameAt 33 = .ok (.aload_n 0, 1) := by decide +kernel
theorem dX9_nameAt_34 : decode cX9_nameAt 34 = .ok (.getfield 13, 3) := by decide +kernel
theorem dX9_nameAt_37 : decode cX9_nameAt 37 = .ok (.sipush 200, 3) := by decide +kernel
theorem dX9_nameAt_40 : decode cX9_nameAt 40 = .ok (.iaload, 1) := by decide +kernel
theorem dX9_nameAt_41 : decode cX9_nameAt 41 = .ok (.invokevirtual 86, 3) := by decide +kernel
theorem dX9_nameAt_44 : decode cX9_nameAt 44 = .ok (.aload_n 0, 1) := by decide +kernel
theorem dX9_nameAt_45 : decode cX9_nameAt 45 = .ok (.getfield 13, 3) := by decide +kernel
theorem dX9_nameAt_48 : decode cX9_nameAt 48 = .ok (.iload_n 1, 1) := by decide +kernel
theorem dX9_nameAt_49 : decode cX9_nameAt 49 = .ok (.iaload, 1) := by decide +kernel
theorem dX9_nameAt_50 : decode cX9_nameAt 50 = .ok (.istore_n 2, 1) := by decide +kernel
theorem dX9_nameAt_51 : decode cX9_nameAt 51 = .ok (.aload_n 0, 1) := by decide +kernel
theorem dX9_nameAt_52 : decode cX9_nameAt 52 = .ok (.getfield 41, 3) := by decide +kernel
theorem dX9_nameAt_55 : decode cX9_nameAt 55 = .ok (.iload_n 1, 1) := by decide +kernel
theorem dX9_nameAt_56 : decode cX9_nameAt 56 = .ok (.iaload, 1) := by decide +kernel
theorem dX9_nameAt_57 : decode cX9_nameAt 57 = .ok (.istore_n 3, 1) := by decide +kernel
theorem dX9_nameAt_58 : decode cX9_nameAt 58 = .ok (.iload_n 2, 1) := by decide +kernel
theorem dX9_nameAt_59 : decode cX9_nameAt 59 = .ok (.sipush 1000, 3) := by decide +kernel
theorem dX9_nameAt_62 : decode cX9_nameAt 62 = .ok (.if_icmp .ne 6, 3) := by decide +kernel
theorem dX9_nameAt_65 : decode cX9_nameAt 65 = .ok (.bipush (-9), 2) := by decide +kernel
theorem dX9_nameAt_67 : decode cX9_nameAt 67 = .ok (.ireturn, 1) := by decide +kernel
theorem dX9_nameAt_68 : decode cX9_nameAt 68 = .ok (.iload_n 2, 1) := by decide +kernel
theorem dX9_nameAt_69 : decode cX9_nameAt 69 = .ok (.sipush 1001, 3) := by decide +kernel
theorem dX9_nameAt_72 : decode cX9_nameAt 72 = .ok (.if_icmp .ne 8, 3) := by decide +kernel
theorem dX9_nameAt_75 : decode cX9_nameAt 75 = .ok (.bipush 97, 2) := by decide +kernel
theorem dX9_nameAt_77 : decode cX9_nameAt 77 = .ok (.iload_n 3, 1) := by decide +kernel
theorem dX9_nameAt_78 : decode cX9_nameAt 78 = .ok (.iadd, 1) := by decide +kernel
theorem dX9_nameAt_79 : decode cX9_nameAt 79 = .ok (.ireturn, 1) := by decide +kernel
theorem dX9_nameAt_80 : decode cX9_nameAt 80 = .ok (.iload_n 2, 1) := by decide +kernel
theorem dX9_nameAt_81 : decode cX9_nameAt 81 = .ok (.iload_n 3, 1) := by decide +kernel
theorem dX9_nameAt_82 : decode cX9_nameAt 82 = .ok (.if_icmp .ge 14, 3) := by decide +kernel
theorem dX9_nameAt_85 : decode cX9_nameAt 85 = .ok (.bipush 97, 2) := by decide +kernel
theorem dX9_nameAt_87 : decode cX9_nameAt 87 = .ok (.iload_n 3, 1) := by decide +kernel
theorem dX9_nameAt_88 : decode cX9_nameAt 88 = .ok (.iadd, 1) := by decide +kernel
theorem dX9_nameAt_89 : decode cX9_nameAt 89 = .ok (.iconst 1, 1) := by decide +kernel
theorem dX9_nameAt_90 : decode cX9_nameAt 90 = .ok (.isub, 1) := by decide +kernel
theorem dX9_nameAt_91 : decode cX9_nameAt 91 = .ok (.iload_n 2, 1) := by decide +kernel
theorem dX9_nameAt_92 : decode cX9_nameAt 92 = .ok (.isub, 1) := by decide +kernel
theorem dX9_nameAt_93 : decode cX9_nameAt 93 = .ok (.goto 9, 3) := by decide +kernel
theorem dX9_nameAt_96 : decode cX9_nameAt 96 = .ok (.bipush 65, 2) := by decide +kernel
theorem dX9_nameAt_98 : decode cX9_nameAt 98 = .ok (.iload_n 2, 1) := by decide +kernel
theorem dX9_nameAt_99 : decode cX9_nameAt 99 = .ok (.iadd, 1) := by decide +kernel
theorem dX9_nameAt_100 : decode cX9_nameAt 100 = .ok (.iload_n 3, 1) := by decide +kernel
theorem dX9_nameAt_101 : decode cX9_nameAt 101 = .ok (.isub, 1) := by decide +kernel
theorem dX9_nameAt_102 : decode cX9_nameAt 102 = .ok (.ireturn, 1) := by decide +kernel
theorem dX9_redexCount_0 : decode cX9_redexCount 0 = .ok (.aload_n 0, 1) := by decide +kernel
theorem dX9_redexCount_1 : decode cX9_redexCount 1 = .ok (.iconst 0, 1) := by decide +kernel
theorem dX9_redexCount_2 : decode cX9_redexCount 2 = .ok (.putfield 59, 3) := by decide +kernel
theorem dX9_redexCount_5 : decode cX9_redexCount 5 = .ok (.aload_n 0, 1) := by decide +kernel
theorem dX9_redexCount_6 : decode cX9_redexCount 6 = .ok (.getfield 13, 3) := by decide +kernel
theorem dX9_redexCount_9 : decode cX9_redexCount 9 = .ok (.invokestatic 108, 3) := by decide +kernel
theorem dX9_redexCount_12 : decode cX9_redexCount 12 = .ok (.ireturn, 1) := by decide +kernel
theorem dX9_chosenRedex_0 : decode cX9_chosenRedex 0 = .ok (.aload_n 0, 1) := by decide +kernel
theorem dX9_chosenRedex_1 : decode cX9_chosenRedex 1 = .ok (.iconst 0, 1) := by decide +kernel
theorem dX9_chosenRedex_2 : decode cX9_chosenRedex 2 = .ok (.putfield 59, 3) := by decide +kernel
theorem dX9_chosenRedex_5 : decode cX9_chosenRedex 5 = .ok (.iload_n 1, 1) := by decide +kernel
theorem dX9_chosenRedex_6 : decode cX9_chosenRedex 6 = .ok (.i2l, 1) := by decide +kernel
theorem dX9_chosenRedex_7 : decode cX9_chosenRedex 7 = .ok (.lconst 0, 1) := by decide +kernel
theorem dX9_chosenRedex_8 : decode cX9_chosenRedex 8 = .ok (.ldc2_w 135, 3) := by decide +kernel
theorem dX9_chosenRedex_11 : decode cX9_chosenRedex 11 = .ok (.invokestatic 114, 3) := by decide +kernel
theorem dX9_chosenRedex_14 : decode cX9_chosenRedex 14 = .ok (.ifCond .eq 14, 3) := by decide +kernel
theorem dX9_chosenRedex_17 : decode cX9_chosenRedex 17 = .ok (.aload_n 0, 1) := by decide +kernel
theorem dX9_chosenRedex_18 : decode cX9_chosenRedex 18 = .ok (.getfield 13, 3) := by decide +kernel
theorem dX9_chosenRedex_21 : decode cX9_chosenRedex 21 = .ok (.iload_n 1, 1) := by decide +kernel
theorem dX9_chosenRedex_22 : decode cX9_chosenRedex 22 = .ok (.invokestatic 94, 3) := by decide +kernel
theorem dX9_chosenRedex_25 : decode cX9_chosenRedex 25 = .ok (.goto 5, 3) := by decide +kernel
theorem dX9_chosenRedex_28 : decode cX9_chosenRedex 28 = .ok (.bipush (-2), 2) := by decide +kernel
theorem dX9_chosenRedex_30 : decode cX9_chosenRedex 30 = .ok (.ireturn, 1) := by decide +kernel
theorem dX9_freeVariables_0 : decode cX9_freeVariables 0 = .ok (.aload_n 0, 1) := by decide +kernel
theorem dX9_freeVariables_1 : decode cX9_freeVariables 1 = .ok (.iconst 0, 1) := by decide +kernel
theorem dX9_freeVariables_2 : decode cX9_freeVariables 2 = .ok (.putfield 59, 3) := by decide +kernel
theorem dX9_freeVariables_5 : decode cX9_freeVariables 5 = .ok (.aload_n 0, 1) := by decide +kernel
theorem dX9_freeVariables_6 : decode cX9_freeVariables 6 = .ok (.aload_n 0, 1) := by decide +kernel
theorem dX9_freeVariables_7 : decode cX9_freeVariables 7 = .ok (.getfield 13, 3) := by decide +kernel
theorem dX9_freeVariables_10 : decode cX9_freeVariables 10 = .ok (.iconst 0, 1) := by decide +kernel
theorem dX9_freeVariables_11 : decode cX9_freeVariables 11 = .ok (.aload_n 0, 1) := by decide +kernel
theorem dX9_freeVariables_12 : decode cX9_freeVariables 12 = .ok (.getfield 13, 3) := by decide +kernel
theorem dX9_freeVariables_15 : decode cX9_freeVariables 15 = .ok (.sipush 200, 3) := by decide +kernel
theorem dX9_freeVariables_18 : decode cX9_freeVariables 18 = .ok (.iaload, 1) := by decide +kernel
theorem dX9_freeVariables_19 : decode cX9_freeVariables 19 = .ok (.invokevirtual 86, 3) := by decide +kernel
theorem dX9_freeVariables_22 : decode cX9_freeVariables 22 = .ok (.iconst 0, 1) := by decide +kernel
theorem dX9_freeVariables_23 : decode cX9_freeVariables 23 = .ok (.istore_n 1, 1) := by decide +kernel
theorem dX9_freeVariables_24 : decode cX9_freeVariables 24 = .ok (.iconst 0, 1) := by decide +kernel
theorem dX9_freeVariables_25 : decode cX9_freeVariables 25 = .ok (.istore_n 2, 1) := by decide +kernel
theorem dX9_freeVariables_26 : decode cX9_freeVariables 26 = .ok (.iload_n 2, 1) := by decide +kernel
theorem dX9_freeVariables_27 : decode cX9_freeVariables 27 = .ok (.aload_n 0, 1) := by decide +kernel
theorem dX9_freeVariables_28 : decode cX9_freeVariables 28 = .ok (.getfield 13, 3) := by decide +kernel
theorem dX9_freeVariables_31 : decode cX9_freeVariables 31 = .ok (.sipush 200, 3) := by decide +kernel
theorem dX9_freeVariables_34 : decode cX9_freeVariables 34 = .ok (.iaload, 1) := by decide +kernel
theorem dX9_freeVariables_35 : decode cX9_freeVariables 35 = .ok (.if_icmp .ge 58, 3) := by decide +kernel
theorem dX9_freeVariables_38 : decode cX9_freeVariables 38 = .ok (.iload_n 1, 1) := by decide +kernel
theorem dX9_freeVariables_39 : decode cX9_freeVariables 39 = .ok (.aload_n 0, 1) := by decide +kernel
theorem dX9_freeVariables_40 : decode cX9_freeVariables 40 = .ok (.getfield 13, 3) := by decide +kernel
theorem dX9_freeVariables_43 : decode cX9_freeVariables 43 = .ok (.iload_n 2, 1) := by decide +kernel
theorem dX9_freeVariables_44 : decode cX9_freeVariables 44 = .ok (.iaload, 1) := by decide +kernel
theorem dX9_freeVariables_45 : decode cX9_freeVariables 45 = .ok (.invokestatic 68, 3) := by decide +kernel
theorem dX9_freeVariables_48 : decode cX9_freeVariables 48 = .ok (.ifCond .eq 36, 3) := by decide +kernel
theorem dX9_freeVariables_51 : decode cX9_freeVariables 51 = .ok (.aload_n 0, 1) := by decide +kernel
theorem dX9_freeVariables_52 : decode cX9_freeVariables 52 = .ok (.getfield 13, 3) := by decide +kernel
theorem dX9_freeVariables_55 : decode cX9_freeVariables 55 = .ok (.iload_n 2, 1) := by decide +kernel
theorem dX9_freeVariables_56 : decode cX9_freeVariables 56 = .ok (.iaload, 1) := by decide +kernel
theorem dX9_freeVariables_57 : decode cX9_freeVariables 57 = .ok (.aload_n 0, 1) := by decide +kernel
theorem dX9_freeVariables_58 : decode cX9_freeVariables 58 = .ok (.getfield 41, 3) := by decide +kernel
theorem dX9_freeVariables_61 : decode cX9_freeVariables 61 = .ok (.iload_n 2, 1) := by decide +kernel
theorem dX9_freeVariables_62 : decode cX9_freeVariables 62 = .ok (.iaload, 1) := by decide +kernel
theorem dX9_freeVariables_63 : decode cX9_freeVariables 63 = .ok (.if_icmp .lt 21, 3) := by decide +kernel
theorem dX9_freeVariables_66 : decode cX9_freeVariables 66 = .ok (.iconst 1, 1) := by decide +kernel
theorem dX9_freeVariables_67 : decode cX9_freeVariables 67 = .ok (.aload_n 0, 1) := by decide +kernel
theorem dX9_freeVariables_68 : decode cX9_freeVariables 68 = .ok (.getfield 13, 3) := by decide +kernel
theorem dX9_freeVariables_71 : decode cX9_freeVariables 71 = .ok (.iload_n 2, 1) := by decide +kernel
theorem dX9_freeVariables_72 : decode cX9_freeVariables 72 = .ok (.iaload, 1) := by decide +kernel
theorem dX9_freeVariables_73 : decode cX9_freeVariables 73 = .ok (.aload_n 0, 1) := by decide +kernel
theorem dX9_freeVariables_74 : decode cX9_freeVariables 74 = .ok (.getfield 41, 3) := by decide +kernel
theorem dX9_freeVariables_77 : decode cX9_freeVariables 77 = .ok (.iload_n 2, 1) := by decide +kernel
theorem dX9_freeVariables_78 : decode cX9_freeVariables 78 = .ok (.iaload, 1) := by decide +kernel
theorem dX9_freeVariables_79 : decode cX9_freeVariables 79 = .ok (.isub, 1) := by decide +kernel
theorem dX9_freeVariables_80 : decode cX9_freeVariables 80 = .ok (.ishl, 1) := by decide +kernel
theorem dX9_freeVariables_81 : decode cX9_freeVariables 81 = .ok (.goto 4, 3) := by decide +kernel
theorem dX9_freeVariables_84 : decode cX9_freeVariables 84 = .ok (.iconst 0, 1) := by decide +kernel
theorem dX9_freeVariables_85 : decode cX9_freeVariables 85 = .ok (.ior, 1) := by decide +kernel
theorem dX9_freeVariables_86 : decode cX9_freeVariables 86 = .ok (.istore_n 1, 1) := by decide +kernel
theorem dX9_freeVariables_87 : decode cX9_freeVariables 87 = .ok (.iinc 2 1, 3) := by decide +kernel
theorem dX9_freeVariables_90 : decode cX9_freeVariables 90 = .ok (.goto (-64), 3) := by decide +kernel
theorem dX9_freeVariables_93 : decode cX9_freeVariables 93 = .ok (.iload_n 1, 1) := by decide +kernel
theorem dX9_freeVariables_94 : decode cX9_freeVariables 94 = .ok (.ireturn, 1) := by decide +kernel
theorem dX9_remember_0 : decode cX9_remember 0 = .ok (.aload_n 0, 1) := by decide +kernel
theorem dX9_remember_1 : decode cX9_remember 1 = .ok (.getfield 132, 3) := by decide +kernel
theorem dX9_remember_4 : decode cX9_remember 4 = .ok (.bipush 14, 2) := by decide +kernel
theorem dX9_remember_6 : decode cX9_remember 6 = .ok (.if_icmp .ne 44, 3) := by decide +kernel
theorem dX9_remember_9 : decode cX9_remember 9 = .ok (.iconst 0, 1) := by decide +kernel
theorem dX9_remember_10 : decode cX9_remember 10 = .ok (.istore_n 1, 1) := by decide +kernel
theorem dX9_remember_11 : decode cX9_remember 11 = .ok (.iload_n 1, 1) := by decide +kernel
theorem dX9_remember_12 : decode cX9_remember 12 = .ok (.sipush 2613, 3) := by decide +kernel
theorem dX9_remember_15 : decode cX9_remember 15 = .ok (.if_icmp .ge 25, 3) := by decide +kernel
theorem dX9_remember_18 : decode cX9_remember 18 = .ok (.aload_n 0, 1) := by decide +kernel
theorem dX9_remember_19 : decode cX9_remember 19 = .ok (.getfield 25, 3) := by decide +kernel
theorem dX9_remember_22 : decode cX9_remember 22 = .ok (.iload_n 1, 1) := by decide +kernel
theorem dX9_remember_23 : decode cX9_remember 23 = .ok (.aload_n 0, 1) := by decide +kernel
theorem dX9_remember_24 : decode cX9_remember 24 = .ok (.getfield 25, 3) := by decide +kernel
theorem dX9_remember_27 : decode cX9_remember 27 = .ok (.iload_n 1, 1) := by decide +kernel
theorem dX9_remember_28 : decode cX9_remember 28 = .ok (.sipush 201, 3) := by decide +kernel
theorem dX9_remember_31 : decode cX9_remember 31 = .ok (.iadd, 1) := by decide +kernel
theorem dX9_remember_32 : decode cX9_remember 32 = .ok (.iaload, 1) := by decide +kernel
theorem dX9_remember_33 : decode cX9_remember 33 = .ok (.iastore, 1) := by decide +kernel
theorem dX9_remember_34 : decode cX9_remember 34 = .ok (.iinc 1 1, 3) := by decide +kernel
theorem dX9_remember_37 : decode cX9_remember 37 = .ok (.goto (-26), 3) := by decide +kernel
theorem dX9_remember_40 : decode cX9_remember 40 = .ok (.aload_n 0, 1) := by decide +kernel
theorem dX9_remember_41 : decode cX9_remember 41 = .ok (.dup, 1) := by decide +kernel
theorem dX9_remember_42 : decode cX9_remember 42 = .ok (.getfield 132, 3) := by decide +kernel
theorem dX9_remember_45 : decode cX9_remember 45 = .ok (.iconst 1, 1) := by decide +kernel
theorem dX9_remember_46 : decode cX9_remember 46 = .ok (.isub, 1) := by decide +kernel
theorem dX9_remember_47 : decode cX9_remember 47 = .ok (.putfield 132, 3) := by decide +kernel
theorem dX9_remember_50 : decode cX9_remember 50 = .ok (.iconst 0, 1) := by decide +kernel
theorem dX9_remember_51 : decode cX9_remember 51 = .ok (.istore_n 1, 1) := by decide +kernel
theorem dX9_remember_52 : decode cX9_remember 52 = .ok (.iload_n 1, 1) := by decide +kernel
theorem dX9_remember_53 : decode cX9_remember 53 = .ok (.sipush 201, 3) := by decide +kernel
theorem dX9_remember_56 : decode cX9_remember 56 = .ok (.if_icmp .ge 30, 3) := by decide +kernel
theorem dX9_remember_59 : decode cX9_remember 59 = .ok (.aload_n 0, 1) := by decide +kernel
theorem dX9_remember_60 : decode cX9_remember 60 = .ok (.getfield 25, 3) := by decide +kernel
theorem dX9_remember_63 : decode cX9_remember 63 = .ok (.sipush 201, 3) := by decide +kernel
theorem dX9_remember_66 : decode cX9_remember 66 = .ok (.aload_n 0, 1) := by decide +kernel
theorem dX9_remember_67 : decode cX9_remember 67 = .ok (.getfield 132, 3) := by decide +kernel
theorem dX9_remember_70 : decode cX9_remember 70 = .ok (.imul, 1) := by decide +kernel
theorem dX9_remember_71 : decode cX9_remember 71 = .ok (.iload_n 1, 1) := by decide +kernel
theorem dX9_remember_72 : decode cX9_remember 72 = .ok (.iadd, 1) := by decide +kernel
theorem dX9_remember_73 : decode cX9_remember 73 = .ok (.aload_n 0, 1) := by decide +kernel
theorem dX9_remember_74 : decode cX9_remember 74 = .ok (.getfield 13, 3) := by decide +kernel
theorem dX9_remember_77 : decode cX9_remember 77 = .ok (.iload_n 1, 1) := by decide +kernel
theorem dX9_remember_78 : decode cX9_remember 78 = .ok (.iaload, 1) := by decide +kernel
theorem dX9_remember_79 : decode cX9_remember 79 = .ok (.iastore, 1) := by decide +kernel
theorem dX9_remember_80 : decode cX9_remember 80 = .ok (.iinc 1 1, 3) := by decide +kernel
theorem dX9_remember_83 : decode cX9_remember 83 = .ok (.goto (-31), 3) := by decide +kernel
theorem dX9_remember_86 : decode cX9_remember 86 = .ok (.aload_n 0, 1) := by decide +kernel
theorem dX9_remember_87 : decode cX9_remember 87 = .ok (.dup, 1) := by decide +kernel
theorem dX9_remember_88 : decode cX9_remember 88 = .ok (.getfield 132, 3) := by decide +kernel
theorem dX9_remember_91 : decode cX9_remember 91 = .ok (.iconst 1, 1) := by decide +kernel
theorem dX9_remember_92 : decode cX9_remember 92 = .ok (.iadd, 1) := by decide +kernel
theorem dX9_remember_93 : decode cX9_remember 93 = .ok (.putfield 132, 3) := by decide +kernel
theorem dX9_remember_96 : decode cX9_remember 96 = .ok (.return_, 1) := by decide +kernel
theorem dX9_commit_0 : decode cX9_commit 0 = .ok (.aload_n 0, 1) := by decide +kernel
theorem dX9_commit_1 : decode cX9_commit 1 = .ok (.invokevirtual 137, 3) := by decide +kernel
theorem dX9_commit_4 : decode cX9_commit 4 = .ok (.aload_n 0, 1) := by decide +kernel
theorem dX9_commit_5 : decode cX9_commit 5 = .ok (.getfield 22, 3) := by decide +kernel
theorem dX9_commit_8 : decode cX9_commit 8 = .ok (.aload_n 0, 1) := by decide +kernel
theorem dX9_commit_9 : decode cX9_commit 9 = .ok (.getfield 13, 3) := by decide +kernel
theorem dX9_commit_12 : decode cX9_commit 12 = .ok (.invokestatic 100, 3) := by decide +kernel
theorem dX9_commit_15 : decode cX9_commit 15 = .ok (.aload_n 0, 1) := by decide +kernel
theorem dX9_commit_16 : decode cX9_commit 16 = .ok (.getfield 13, 3) := by decide +kernel
theorem dX9_commit_19 : decode cX9_commit 19 = .ok (.sipush 200, 3) := by decide +kernel
theorem dX9_commit_22 : decode cX9_commit 22 = .ok (.iaload, 1) := by decide +kernel
theorem dX9_commit_23 : decode cX9_commit 23 = .ok (.ireturn, 1) := by decide +kernel
theorem dX9_step_0 : decode cX9_step 0 = .ok (.aload_n 0, 1) := by decide +kernel
theorem dX9_step_1 : decode cX9_step 1 = .ok (.iconst 0, 1) := by decide +kernel
theorem dX9_step_2 : decode cX9_step 2 = .ok (.putfield 59, 3) := by decide +kernel
theorem dX9_step_5 : decode cX9_step 5 = .ok (.iload_n 1, 1) := by decide +kernel
theorem dX9_step_6 : decode cX9_step 6 = .ok (.i2l, 1) := by decide +kernel
theorem dX9_step_7 : decode cX9_step 7 = .ok (.lconst 0, 1) := by decide +kernel
theorem dX9_step_8 : decode cX9_step 8 = .ok (.ldc2_w 135, 3) := by decide +kernel
theorem dX9_step_11 : decode cX9_step 11 = .ok (.invokestatic 114, 3) := by decide +kernel
theorem dX9_step_14 : decode cX9_step 14 = .ok (.ifCond .ne 6, 3) := by decide +kernel
theorem dX9_step_17 : decode cX9_step 17 = .ok (.bipush (-2), 2) := by decide +kernel
theorem dX9_step_19 : decode cX9_step 19 = .ok (.ireturn, 1) := by decide +kernel
theorem dX9_step_20 : decode cX9_step 20 = .ok (.aload_n 0, 1) := by decide +kernel
theorem dX9_step_21 : decode cX9_step 21 = .ok (.getfield 13, 3) := by decide +kernel
theorem dX9_step_24 : decode cX9_step 24 = .ok (.iload_n 1, 1) := by decide +kernel
theorem dX9_step_25 : decode cX9_step 25 = .ok (.invokestatic 94, 3) := by decide +kernel
theorem dX9_step_28 : decode cX9_step 28 = .ok (.istore_n 2, 1) := by decide +kernel
theorem dX9_step_29 : decode cX9_step 29 = .ok (.iload_n 2, 1) := by decide +kernel
theorem dX9_step_30 : decode cX9_step 30 = .ok (.bipush (-9), 2) := by decide +kernel
theorem dX9_step_32 : decode cX9_step 32 = .ok (.if_icmp .ne 6, 3) := by decide +kernel
theorem dX9_step_35 : decode cX9_step 35 = .ok (.bipush (-3), 2) := by decide +kernel
theorem dX9_step_37 : decode cX9_step 37 = .ok (.ireturn, 1) := by decide +kernel
theorem dX9_step_38 : decode cX9_step 38 = .ok (.aload_n 0, 1) := by decide +kernel
theorem dX9_step_39 : decode cX9_step 39 = .ok (.aload_n 0, 1) := by decide +kernel
theorem dX9_step_40 : decode cX9_step 40 = .ok (.getfield 13, 3) := by decide +kernel
theorem dX9_step_43 : decode cX9_step 43 = .ok (.iload_n 2, 1) := by decide +kernel
theorem dX9_step_44 : decode cX9_step 44 = .ok (.invokevirtual 97, 3) := by decide +kernel
theorem dX9_step_47 : decode cX9_step 47 = .ok (.ifCond .eq 10, 3) := by decide +kernel
theorem dX9_step_50 : decode cX9_step 50 = .ok (.aload_n 0, 1) := by decide +kernel
theorem dX9_step_51 : decode cX9_step 51 = .ok (.invokevirtual 140, 3) := by decide +kernel
theorem dX9_step_54 : decode cX9_step 54 = .ok (.goto 5, 3) := by decide +kernel
theorem dX9_step_57 : decode cX9_step 57 = .ok (.bipush (-4), 2) := by decide +kernel
theorem dX9_step_59 : decode cX9_step 59 = .ok (.ireturn, 1) := by decide +kernel
theorem dX9_run_0 : decode cX9_run 0 = .ok (.aload_n 0, 1) := by decide +kernel
theorem dX9_run_1 : decode cX9_run 1 = .ok (.iconst 0, 1) := by decide +kernel
theorem dX9_run_2 : decode cX9_run 2 = .ok (.putfield 59, 3) := by decide +kernel
theorem dX9_run_5 : decode cX9_run 5 = .ok (.iload_n 1, 1) := by decide +kernel
theorem dX9_run_6 : decode cX9_run 6 = .ok (.i2l, 1) := by decide +kernel
theorem dX9_run_7 : decode cX9_run 7 = .ok (.lconst 0, 1) := by decide +kernel
theorem dX9_run_8 : decode cX9_run 8 = .ok (.ldc2_w 135, 3) := by decide +kernel
theorem dX9_run_11 : decode cX9_run 11 = .ok (.invokestatic 114, 3) := by decide +kernel
theorem dX9_run_14 : decode cX9_run 14 = .ok (.ifCond .eq 15, 3) := by decide +kernel
theorem dX9_run_17 : decode cX9_run 17 = .ok (.iload_n 2, 1) := by decide +kernel
theorem dX9_run_18 : decode cX9_run 18 = .ok (.i2l, 1) := by decide +kernel
theorem dX9_run_19 : decode cX9_run 19 = .ok (.lconst 1, 1) := by decide +kernel
theorem dX9_run_20 : decode cX9_run 20 = .ok (.ldc2_w 143, 3) := by decide +kernel
theorem dX9_run_23 : decode cX9_run 23 = .ok (.invokestatic 114, 3) := by decide +kernel
theorem dX9_run_26 : decode cX9_run 26 = .ok (.ifCond .ne 6, 3) := by decide +kernel
theorem dX9_run_29 : decode cX9_run 29 = .ok (.bipush (-2), 2) := by decide +kernel
theorem dX9_run_31 : decode cX9_run 31 = .ok (.ireturn, 1) := by decide +kernel
theorem dX9_run_32 : decode cX9_run 32 = .ok (.aload_n 0, 1) := by decide +kernel
theorem dX9_run_33 : decode cX9_run 33 = .ok (.invokevirtual 137, 3) := by decide +kernel
theorem dX9_run_36 : decode cX9_run 36 = .ok (.aload_n 0, 1) := by decide +kernel
theorem dX9_run_37 : decode cX9_run 37 = .ok (.aload_n 0, 1) := by decide +kernel
theorem dX9_run_38 : decode cX9_run 38 = .ok (.getfield 13, 3) := by decide +kernel
theorem dX9_run_41 : decode cX9_run 41 = .ok (.iload_n 1, 1) := by decide +kernel
theorem dX9_run_42 : decode cX9_run 42 = .ok (.iload_n 2, 1) := by decide +kernel
theorem dX9_run_43 : decode cX9_run 43 = .ok (.invokevirtual 104, 3) := by decide +kernel
theorem dX9_run_46 : decode cX9_run 46 = .ok (.ireturn, 1) := by decide +kernel
theorem dX9_putBehind_0 : decode cX9_putBehind 0 = .ok (.aload_n 0, 1) := by decide +kernel
theorem dX9_putBehind_1 : decode cX9_putBehind 1 = .ok (.getfield 22, 3) := by decide +kernel
theorem dX9_putBehind_4 : decode cX9_putBehind 4 = .ok (.sipush 200, 3) := by decide +kernel
theorem dX9_putBehind_7 : decode cX9_putBehind 7 = .ok (.iconst 0, 1) := by decide +kernel
theorem dX9_putBehind_8 : decode cX9_putBehind 8 = .ok (.iastore, 1) := by decide +kernel
theorem dX9_putBehind_9 : decode cX9_putBehind 9 = .ok (.aload_n 0, 1) := by decide +kernel
theorem dX9_putBehind_10 : decode cX9_putBehind 10 = .ok (.iload_n 1, 1) := by decide +kernel
theorem dX9_putBehind_11 : decode cX9_putBehind 11 = .ok (.invokevirtual 83, 3) := by decide +kernel
theorem dX9_putBehind_14 : decode cX9_putBehind 14 = .ok (.istore_n 3, 1) := by decide +kernel
theorem dX9_putBehind_15 : decode cX9_putBehind 15 = .ok (.iconst 0, 1) := by decide +kernel
theorem dX9_putBehind_16 : decode cX9_putBehind 16 = .ok (.istore 4, 2) := by decide +kernel
theorem dX9_putBehind_18 : decode cX9_putBehind 18 = .ok (.iload 4, 2) := by decide +kernel
theorem dX9_putBehind_20 : decode cX9_putBehind 20 = .ok (.aload_n 2, 1) := by decide +kernel
theorem dX9_putBehind_21 : decode cX9_putBehind 21 = .ok (.sipush 200, 3) := by decide +kernel
theorem dX9_putBehind_24 : decode cX9_putBehind 24 = .ok (.iaload, 1) := by decide +kernel
theorem dX9_putBehind_25 : decode cX9_putBehind 25 = .ok (.if_icmp .ge 30, 3) := by decide +kernel
theorem dX9_putBehind_28 : decode cX9_putBehind 28 = .ok (.iload_n 3, 1) := by decide +kernel
theorem dX9_putBehind_29 : decode cX9_putBehind 29 = .ok (.ifCond .eq 18, 3) := by decide +kernel
theorem dX9_putBehind_32 : decode cX9_putBehind 32 = .ok (.aload_n 0, 1) := by decide +kernel
theorem dX9_putBehind_33 : decode cX9_putBehind 33 = .ok (.aload_n 2, 1) := by decide +kernel
theorem dX9_putBehind_34 : decode cX9_putBehind 34 = .ok (.iload 4, 2) := by decide +kernel
theorem dX9_putBehind_36 : decode cX9_putBehind 36 = .ok (.iaload, 1) := by decide +kernel
theorem dX9_putBehind_37 : decode cX9_putBehind 37 = .ok (.invokevirtual 83, 3) := by decide +kernel
theorem dX9_putBehind_40 : decode cX9_putBehind 40 = .ok (.ifCond .eq 7, 3) := by decide +kernel
theorem dX9_putBehind_43 : decode cX9_putBehind 43 = .ok (.iconst 1, 1) := by decide +kernel
theorem dX9_putBehind_44 : decode cX9_putBehind 44 = .ok (.goto 4, 3) := by decide +kernel
theorem dX9_putBehind_47 : decode cX9_putBehind 47 = .ok (.iconst 0, 1) := by decide +kernel
theorem dX9_putBehind_48 : decode cX9_putBehind 48 = .ok (.istore_n 3, 1) := by decide +kernel
theorem dX9_putBehind_49 : decode cX9_putBehind 49 = .ok (.iinc 4 1, 3) := by decide +kernel
theorem dX9_putBehind_52 : decode cX9_putBehind 52 = .ok (.goto (-34), 3) := by decide +kernel
theorem dX9_putBehind_55 : decode cX9_putBehind 55 = .ok (.iload_n 3, 1) := by decide +kernel
theorem dX9_putBehind_56 : decode cX9_putBehind 56 = .ok (.ireturn, 1) := by decide +kernel
theorem dX9_abstractTerm_0 : decode cX9_abstractTerm 0 = .ok (.aload_n 0, 1) := by decide +kernel
theorem dX9_abstractTerm_1 : decode cX9_abstractTerm 1 = .ok (.iconst 0, 1) := by decide +kernel
theorem dX9_abstractTerm_2 : decode cX9_abstractTerm 2 = .ok (.putfield 59, 3) := by decide +kernel
theorem dX9_abstractTerm_5 : decode cX9_abstractTerm 5 = .ok (.aload_n 0, 1) := by decide +kernel
theorem dX9_abstractTerm_6 : decode cX9_abstractTerm 6 = .ok (.sipush 1001, 3) := by decide +kernel
theorem dX9_abstractTerm_9 : decode cX9_abstractTerm 9 = .ok (.aload_n 0, 1) := by decide +kernel
theorem dX9_abstractTerm_10 : decode cX9_abstractTerm 10 = .ok (.getfield 13, 3) := by decide +kernel
theorem dX9_abstractTerm_13 : decode cX9_abstractTerm 13 = .ok (.invokevirtual 145, 3) := by decide +kernel
theorem dX9_abstractTerm_16 : decode cX9_abstractTerm 16 = .ok (.ifCond .eq 10, 3) := by decide +kernel
theorem dX9_abstractTerm_19 : decode cX9_abstractTerm 19 = .ok (.aload_n 0, 1) := by decide +kernel
theorem dX9_abstractTerm_20 : decode cX9_abstractTerm 20 = .ok (.invokevirtual 140, 3) := by decide +kernel
theorem dX9_abstractTerm_23 : decode cX9_abstractTerm 23 = .ok (.goto 5, 3) := by decide +kernel
theorem dX9_abstractTerm_26 : decode cX9_abstractTerm 26 = .ok (.bipush (-4), 2) := by decide +kernel
theorem dX9_abstractTerm_28 : decode cX9_abstractTerm 28 = .ok (.ireturn, 1) := by decide +kernel
theorem dX9_takeSlot_0 : decode cX9_takeSlot 0 = .ok (.iconst 0, 1) := by decide +kernel
theorem dX9_takeSlot_1 : decode cX9_takeSlot 1 = .ok (.istore_n 3, 1) := by decide +kernel
theorem dX9_takeSlot_2 : decode cX9_takeSlot 2 = .ok (.iload_n 3, 1) := by decide +kernel
theorem dX9_takeSlot_3 : decode cX9_takeSlot 3 = .ok (.sipush 201, 3) := by decide +kernel
theorem dX9_takeSlot_6 : decode cX9_takeSlot 6 = .ok (.if_icmp .ge 24, 3) := by decide +kernel
theorem dX9_takeSlot_9 : decode cX9_takeSlot 9 = .ok (.aload_n 2, 1) := by decide +kernel
theorem dX9_takeSlot_10 : decode cX9_takeSlot 10 = .ok (.iload_n 3, 1) := by decide +kernel
theorem dX9_takeSlot_11 : decode cX9_takeSlot 11 = .ok (.aload_n 0, 1) := by decide +kernel
theorem dX9_takeSlot_12 : decode cX9_takeSlot 12 = .ok (.getfield 28, 3) := by decide +kernel
theorem dX9_takeSlot_15 : decode cX9_takeSlot 15 = .ok (.sipush 201, 3) := by decide +kernel
theorem dX9_takeSlot_18 : decode cX9_takeSlot 18 = .ok (.iload_n 1, 1) := by decide +kernel
theorem dX9_takeSlot_19 : decode cX9_takeSlot 19 = .ok (.imul, 1) := by decide +kernel
theorem dX9_takeSlot_20 : decode cX9_takeSlot 20 = .ok (.iload_n 3, 1) := by decide +kernel
theorem dX9_takeSlot_21 : decode cX9_takeSlot 21 = .ok (.iadd, 1) := by decide +kernel
theorem dX9_takeSlot_22 : decode cX9_takeSlot 22 = .ok (.iaload, 1) := by decide +kernel
theorem dX9_takeSlot_23 : decode cX9_takeSlot 23 = .ok (.iastore, 1) := by decide +kernel
theorem dX9_takeSlot_24 : decode cX9_takeSlot 24 = .ok (.iinc 3 1, 3) := by decide +kernel
theorem dX9_takeSlot_27 : decode cX9_takeSlot 27 = .ok (.goto (-25), 3) := by decide +kernel
theorem dX9_takeSlot_30 : decode cX9_takeSlot 30 = .ok (.return_, 1) := by decide +kernel
theorem dX9_applyTo_0 : decode cX9_applyTo 0 = .ok (.aload_n 0, 1) := by decide +kernel
theorem dX9_applyTo_1 : decode cX9_applyTo 1 = .ok (.iconst 0, 1) := by decide +kernel
theorem dX9_applyTo_2 : decode cX9_applyTo 2 = .ok (.putfield 59, 3) := by decide +kernel
theorem dX9_applyTo_5 : decode cX9_applyTo 5 = .ok (.iload_n 1, 1) := by decide +kernel
theorem dX9_applyTo_6 : decode cX9_applyTo 6 = .ok (.i2l, 1) := by decide +kernel
theorem dX9_applyTo_7 : decode cX9_applyTo 7 = .ok (.lconst 0, 1) := by decide +kernel
theorem dX9_applyTo_8 : decode cX9_applyTo 8 = .ok (.lconst 1, 1) := by decide +kernel
theorem dX9_applyTo_9 : decode cX9_applyTo 9 = .ok (.invokestatic 114, 3) := by decide +kernel
theorem dX9_applyTo_12 : decode cX9_applyTo 12 = .ok (.ifCond .ne 5, 3) := by decide +kernel
theorem dX9_applyTo_15 : decode cX9_applyTo 15 = .ok (.iconst (-1), 1) := by decide +kernel
theorem dX9_applyTo_16 : decode cX9_applyTo 16 = .ok (.ireturn, 1) := by decide +kernel
theorem dX9_applyTo_17 : decode cX9_applyTo 17 = .ok (.aload_n 0, 1) := by decide +kernel
theorem dX9_applyTo_18 : decode cX9_applyTo 18 = .ok (.getfield 31, 3) := by decide +kernel
theorem dX9_applyTo_21 : decode cX9_applyTo 21 = .ok (.iload_n 1, 1) := by decide +kernel
theorem dX9_applyTo_22 : decode cX9_applyTo 22 = .ok (.baload, 1) := by decide +kernel
theorem dX9_applyTo_23 : decode cX9_applyTo 23 = .ok (.ifCond .ne 6, 3) := by decide +kernel
theorem dX9_applyTo_26 : decode cX9_applyTo 26 = .ok (.bipush (-3), 2) := by decide +kernel
theorem dX9_applyTo_28 : decode cX9_applyTo 28 = .ok (.ireturn, 1) := by decide +kernel
theorem dX9_applyTo_29 : decode cX9_applyTo 29 = .ok (.aload_n 0, 1) := by decide +kernel
theorem dX9_applyTo_30 : decode cX9_applyTo 30 = .ok (.iload_n 1, 1) := by decide +kernel
theorem dX9_applyTo_31 : decode cX9_applyTo 31 = .ok (.aload_n 0, 1) := by decide +kernel
theorem dX9_applyTo_32 : decode cX9_applyTo 32 = .ok (.getfield 19, 3) := by decide +kernel
theorem dX9_applyTo_35 : decode cX9_applyTo 35 = .ok (.invokevirtual 149, 3) := by decide +kernel
theorem dX9_applyTo_38 : decode cX9_applyTo 38 = .ok (.aload_n 0, 1) := by decide +kernel
theorem dX9_applyTo_39 : decode cX9_applyTo 39 = .ok (.sipush 1000, 3) := by decide +kernel
theorem dX9_applyTo_42 : decode cX9_applyTo 42 = .ok (.aload_n 0, 1) := by decide +kernel
theorem dX9_applyTo_43 : decode cX9_applyTo 43 = .ok (.getfield 13, 3) := by decide +kernel
theorem dX9_applyTo_46 : decode cX9_applyTo 46 = .ok (.invokevirtual 145, 3) := by decide +kernel
theorem dX9_applyTo_49 : decode cX9_applyTo 49 = .ok (.istore_n 2, 1) := by decide +kernel
theorem dX9_applyTo_50 : decode cX9_applyTo 50 = .ok (.iconst 0, 1) := by decide +kernel
theorem dX9_applyTo_51 : decode cX9_applyTo 51 = .ok (.istore_n 3, 1) := by decide +kernel
theorem dX9_applyTo_52 : decode cX9_applyTo 52 = .ok (.iload_n 3, 1) := by decide +kernel
theorem dX9_applyTo_53 : decode cX9_applyTo 53 = .ok (.aload_n 0, 1) := by decide +kernel
theorem dX9_applyTo_54 : decode cX9_applyTo 54 = .ok (.getfield 19, 3) := by decide +kernel
theorem dX9_applyTo_57 : decode cX9_applyTo 57 = .ok (.sipush 200, 3) := by decide +kernel
theorem dX9_applyTo_60 : decode cX9_applyTo 60 = .ok (.iaload, 1) := by decide +kernel
theorem dX9_applyTo_61 : decode cX9_applyTo 61 = .ok (.if_icmp .ge 32, 3) := by decide +kernel
theorem dX9_applyTo_64 : decode cX9_applyTo 64 = .ok (.iload_n 2, 1) := by decide +kernel
theorem dX9_applyTo_65 : decode cX9_applyTo 65 = .ok (.ifCond .eq 20, 3) := by decide +kernel
theorem dX9_applyTo_68 : decode cX9_applyTo 68 = .ok (.aload_n 0, 1) := by decide +kernel
theorem dX9_applyTo_69 : decode cX9_applyTo 69 = .ok (.aload_n 0, 1) := by decide +kernel
theorem dX9_applyTo_70 : decode cX9_applyTo 70 = .ok (.getfield 19, 3) := by decide +kernel
theorem dX9_applyTo_73 : decode cX9_applyTo 73 = .ok (.iload_n 3, 1) := by decide +kernel
theorem dX9_applyTo_74 : decode cX9_applyTo 74 = .ok (.iaload, 1) := by decide +kernel
theorem dX9_applyTo_75 : decode cX9_applyTo 75 = .ok (.invokevirtual 83, 3) := by decide +kernel
theorem dX9_applyTo_78 : decode cX9_applyTo 78 = .ok (.ifCond .eq 7, 3) := by decide +kernel
theorem dX9_applyTo_81 : decode cX9_applyTo 81 = .ok (.iconst 1, 1) := by decide +kernel
theorem dX9_applyTo_82 : decode cX9_applyTo 82 = .ok (.goto 4, 3) := by decide +kernel
theorem dX9_applyTo_85 : decode cX9_applyTo 85 = .ok (.iconst 0, 1) := by decide +kernel
theorem dX9_applyTo_86 : decode cX9_applyTo 86 = .ok (.istore_n 2, 1) := by decide +kernel
theorem dX9_applyTo_87 : decode cX9_applyTo 87 = .ok (.iinc 3 1, 3) := by decide +kernel
theorem dX9_applyTo_90 : decode cX9_applyTo 90 = .ok (.goto (-38), 3) := by decide +kernel
theorem dX9_applyTo_93 : decode cX9_applyTo 93 = .ok (.iload_n 2, 1) := by decide +kernel
theorem dX9_applyTo_94 : decode cX9_applyTo 94 = .ok (.ifCond .eq 10, 3) := by decide +kernel
theorem dX9_applyTo_97 : decode cX9_applyTo 97 = .ok (.aload_n 0, 1) := by decide +kernel
theorem dX9_applyTo_98 : decode cX9_applyTo 98 = .ok (.invokevirtual 140, 3) := by decide +kernel
theorem dX9_applyTo_101 : decode cX9_applyTo 101 = .ok (.goto 5, 3) := by decide +kernel
theorem dX9_applyTo_104 : decode cX9_applyTo 104 = .ok (.bipush (-4), 2) := by decide +kernel
theorem dX9_applyTo_106 : decode cX9_applyTo 106 = .ok (.ireturn, 1) := by decide +kernel
theorem dX9_substitute_0 : decode cX9_substitute 0 = .ok (.aload_n 0, 1) := by decide +kernel
theorem dX9_substitute_1 : decode cX9_substitute 1 = .ok (.iconst 0, 1) := by decide +kernel
theorem dX9_substitute_2 : decode cX9_substitute 2 = .ok (.putfield 59, 3) := by decide +kernel
theorem dX9_substitute_5 : decode cX9_substitute 5 = .ok (.iload_n 2, 1) := by decide +kernel
theorem dX9_substitute_6 : decode cX9_substitute 6 = .ok (.i2l, 1) := by decide +kernel
theorem dX9_substitute_7 : decode cX9_substitute 7 = .ok (.lconst 0, 1) := by decide +kernel
theorem dX9_substitute_8 : decode cX9_substitute 8 = .ok (.lconst 1, 1) := by decide +kernel
theorem dX9_substitute_9 : decode cX9_substitute 9 = .ok (.invokestatic 114, 3) := by decide +kernel
theorem dX9_substitute_12 : decode cX9_substitute 12 = .ok (.ifCond .ne 5, 3) := by decide +kernel
theorem dX9_substitute_15 : decode cX9_substitute 15 = .ok (.iconst (-1), 1) := by decide +kernel
theorem dX9_substitute_16 : decode cX9_substitute 16 = .ok (.ireturn, 1) := by decide +kernel
theorem dX9_substitute_17 : decode cX9_substitute 17 = .ok (.iload_n 1, 1) := by decide +kernel
theorem dX9_substitute_18 : decode cX9_substitute 18 = .ok (.i2l, 1) := by decide +kernel
theorem dX9_substitute_19 : decode cX9_substitute 19 = .ok (.lconst 0, 1) := by decide +kernel
theorem dX9_substitute_20 : decode cX9_substitute 20 = .ok (.ldc2_w 153, 3) := by decide +kernel
theorem dX9_substitute_23 : decode cX9_substitute 23 = .ok (.invokestatic 114, 3) := by decide +kernel
theorem dX9_substitute_26 : decode cX9_substitute 26 = .ok (.ifCond .ne 6, 3) := by decide +kernel
theorem dX9_substitute_29 : decode cX9_substitute 29 = .ok (.bipush (-2), 2) := by decide +kernel
theorem dX9_substitute_31 : decode cX9_substitute 31 = .ok (.ireturn, 1) := by decide +kernel
theorem dX9_substitute_32 : decode cX9_substitute 32 = .ok (.aload_n 0, 1) := by decide +kernel
theorem dX9_substitute_33 : decode cX9_substitute 33 = .ok (.getfield 31, 3) := by decide +kernel
theorem dX9_substitute_36 : decode cX9_substitute 36 = .ok (.iload_n 2, 1) := by decide +kernel
theorem dX9_substitute_37 : decode cX9_substitute 37 = .ok (.baload, 1) := by decide +kernel
theorem dX9_substitute_38 : decode cX9_substitute 38 = .ok (.ifCond .ne 6, 3) := by decide +kernel
theorem dX9_substitute_41 : decode cX9_substitute 41 = .ok (.bipush (-3), 2) := by decide +kernel
theorem dX9_substitute_43 : decode cX9_substitute 43 = .ok (.ireturn, 1) := by decide +kernel
theorem dX9_substitute_44 : decode cX9_substitute 44 = .ok (.aload_n 0, 1) := by decide +kernel
theorem dX9_substitute_45 : decode cX9_substitute 45 = .ok (.iload_n 2, 1) := by decide +kernel
theorem dX9_substitute_46 : decode cX9_substitute 46 = .ok (.aload_n 0, 1) := by decide +kernel
theorem dX9_substitute_47 : decode cX9_substitute 47 = .ok (.getfield 19, 3) := by decide +kernel
theorem dX9_substitute_50 : decode cX9_substitute 50 = .ok (.invokevirtual 149, 3) := by decide +kernel
theorem dX9_substitute_53 : decode cX9_substitute 53 = .ok (.aload_n 0, 1) := by decide +kernel
theorem dX9_substitute_54 : decode cX9_substitute 54 = .ok (.aload_n 0, 1) := by decide +kernel
theorem dX9_substitute_55 : decode cX9_substitute 55 = .ok (.getfield 13, 3) := by decide +kernel
theorem dX9_substitute_58 : decode cX9_substitute 58 = .ok (.iconst 0, 1) := by decide +kernel
theorem dX9_substitute_59 : decode cX9_substitute 59 = .ok (.aload_n 0, 1) := by decide +kernel
theorem dX9_substitute_60 : decode cX9_substitute 60 = .ok (.getfield 13, 3) := by decide +kernel
theorem dX9_substitute_63 : decode cX9_substitute 63 = .ok (.sipush 200, 3) := by decide +kernel
theorem dX9_substitute_66 : decode cX9_substitute 66 = .ok (.iaload, 1) := by decide +kernel
theorem dX9_substitute_67 : decode cX9_substitute 67 = .ok (.invokevirtual 86, 3) := by decide +kernel
theorem dX9_substitute_70 : decode cX9_substitute 70 = .ok (.iconst 0, 1) := by decide +kernel
theorem dX9_substitute_71 : decode cX9_substitute 71 = .ok (.istore_n 3, 1) := by decide +kernel
theorem dX9_substitute_72 : decode cX9_substitute 72 = .ok (.iload_n 3, 1) := by decide +kernel
theorem dX9_substitute_73 : decode cX9_substitute 73 = .ok (.aload_n 0, 1) := by decide +kernel
theorem dX9_substitute_74 : decode cX9_substitute 74 = .ok (.getfield 13, 3) := by decide +kernel
theorem dX9_substitute_77 : decode cX9_substitute 77 = .ok (.sipush 200, 3) := by decide +kernel
theorem dX9_substitute_80 : decode cX9_substitute 80 = .ok (.iaload, 1) := by decide +kernel
theorem dX9_substitute_81 : decode cX9_substitute 81 = .ok (.if_icmp .ge 21, 3) := by decide +kernel
theorem dX9_substitute_84 : decode cX9_substitute 84 = .ok (.aload_n 0, 1) := by decide +kernel
theorem dX9_substitute_85 : decode cX9_substitute 85 = .ok (.getfield 16, 3) := by decide +kernel
theorem dX9_substitute_88 : decode cX9_substitute 88 = .ok (.iload_n 3, 1) := by decide +kernel
theorem dX9_substitute_89 : decode cX9_substitute 89 = .ok (.aload_n 0, 1) := by decide +kernel
theorem dX9_substitute_90 : decode cX9_substitute 90 = .ok (.getfield 41, 3) := by decide +kernel
theorem dX9_substitute_93 : decode cX9_substitute 93 = .ok (.iload_n 3, 1) := by decide +kernel
theorem dX9_substitute_94 : decode cX9_substitute 94 = .ok (.iaload, 1) := by decide +kernel
theorem dX9_substitute_95 : decode cX9_substitute 95 = .ok (.iastore, 1) := by decide +kernel
theorem dX9_substitute_96 : decode cX9_substitute 96 = .ok (.iinc 3 1, 3) := by decide +kernel
theorem dX9_substitute_99 : decode cX9_substitute 99 = .ok (.goto (-27), 3) := by decide +kernel
theorem dX9_substitute_102 : decode cX9_substitute 102 = .ok (.aload_n 0, 1) := by decide +kernel
theorem dX9_substitute_103 : decode cX9_substitute 103 = .ok (.aload_n 0, 1) := by decide +kernel
theorem dX9_substitute_104 : decode cX9_substitute 104 = .ok (.getfield 19, 3) := by decide +kernel
theorem dX9_substitute_107 : decode cX9_substitute 107 = .ok (.iconst 0, 1) := by decide +kernel
theorem dX9_substitute_108 : decode cX9_substitute 108 = .ok (.aload_n 0, 1) := by decide +kernel
theorem dX9_substitute_109 : decode cX9_substitute 109 = .ok (.getfield 19, 3) := by decide +kernel
theorem dX9_substitute_112 : decode cX9_substitute 112 = .ok (.sipush 200, 3) := by decide +kernel
theorem dX9_substitute_115 : decode cX9_substitute 115 = .ok (.iaload, 1) := by decide +kernel
theorem dX9_substitute_116 : decode cX9_substitute 116 = .ok (.invokevirtual 86, 3) := by decide +kernel
theorem dX9_substitute_119 : decode cX9_substitute 119 = .ok (.aload_n 0, 1) := by decide +kernel
theorem dX9_substitute_120 : decode cX9_substitute 120 = .ok (.getfield 22, 3) := by decide +kernel
theorem dX9_substitute_123 : decode cX9_substitute 123 = .ok (.sipush 200, 3) := by decide +kernel
theorem dX9_substitute_126 : decode cX9_substitute 126 = .ok (.iconst 0, 1) := by decide +kernel
theorem dX9_substitute_127 : decode cX9_substitute 127 = .ok (.iastore, 1) := by decide +kernel
theorem dX9_substitute_128 : decode cX9_substitute 128 = .ok (.iconst 1, 1) := by decide +kernel
theorem dX9_substitute_129 : decode cX9_substitute 129 = .ok (.istore_n 3, 1) := by decide +kernel
theorem dX9_substitute_130 : decode cX9_substitute 130 = .ok (.iconst 0, 1) := by decide +kernel
theorem dX9_substitute_131 : decode cX9_substitute 131 = .ok (.istore 4, 2) := by decide +kernel
theorem dX9_substitute_133 : decode cX9_substitute 133 = .ok (.iload 4, 2) := by decide +kernel
theorem dX9_substitute_135 : decode cX9_substitute 135 = .ok (.aload_n 0, 1) := by decide +kernel
theorem dX9_substitute_136 : decode cX9_substitute 136 = .ok (.getfield 13, 3) := by decide +kernel
theorem dX9_substitute_139 : decode cX9_substitute 139 = .ok (.sipush 200, 3) := by decide +kernel
theorem dX9_substitute_142 : decode cX9_substitute 142 = .ok (.iaload, 1) := by decide +kernel
theorem dX9_substitute_143 : decode cX9_substitute 143 = .ok (.if_icmp .ge 96, 3) := by decide +kernel
theorem dX9_substitute_146 : decode cX9_substitute 146 = .ok (.iload_n 3, 1) := by decide +kernel
theorem dX9_substitute_147 : decode cX9_substitute 147 = .ok (.ifCond .eq 92, 3) := by decide +kernel
theorem dX9_substitute_150 : decode cX9_substitute 150 = .ok (.aload_n 0, 1) := by decide +kernel
theorem dX9_substitute_151 : decode cX9_substitute 151 = .ok (.getfield 13, 3) := by decide +kernel
theorem dX9_substitute_154 : decode cX9_substitute 154 = .ok (.iload 4, 2) := by decide +kernel
theorem dX9_substitute_156 : decode cX9_substitute 156 = .ok (.iaload, 1) := by decide +kernel
theorem dX9_substitute_157 : decode cX9_substitute 157 = .ok (.invokestatic 68, 3) := by decide +kernel
theorem dX9_substitute_160 : decode cX9_substitute 160 = .ok (.ifCond .eq 26, 3) := by decide +kernel
theorem dX9_substitute_163 : decode cX9_substitute 163 = .ok (.aload_n 0, 1) := by decide +kernel
theorem dX9_substitute_164 : decode cX9_substitute 164 = .ok (.getfield 13, 3) := by decide +kernel
theorem dX9_substitute_167 : decode cX9_substitute 167 = .ok (.iload 4, 2) := by decide +kernel
theorem dX9_substitute_169 : decode cX9_substitute 169 = .ok (.iaload, 1) := by decide +kernel
theorem dX9_substitute_170 : decode cX9_substitute 170 = .ok (.aload_n 0, 1) := by decide +kernel
theorem dX9_substitute_171 : decode cX9_substitute 171 = .ok (.getfield 16, 3) := by decide +kernel
theorem dX9_substitute_174 : decode cX9_substitute 174 = .ok (.iload 4, 2) := by decide +kernel
theorem dX9_substitute_176 : decode cX9_substitute 176 = .ok (.iaload, 1) := by decide +kernel
theorem dX9_substitute_177 : decode cX9_substitute 177 = .ok (.isub, 1) := by decide +kernel
theorem dX9_substitute_178 : decode cX9_substitute 178 = .ok (.iload_n 1, 1) := by decide +kernel
theorem dX9_substitute_179 : decode cX9_substitute 179 = .ok (.if_icmp .ne 7, 3) := by decide +kernel
theorem dX9_substitute_182 : decode cX9_substitute 182 = .ok (.iconst 1, 1) := by decide +kernel
theorem dX9_substitute_183 : decode cX9_substitute 183 = .ok (.goto 4, 3) := by decide +kernel
theorem dX9_substitute_186 : decode cX9_substitute 186 = .ok (.iconst 0, 1) := by decide +kernel
theorem dX9_substitute_187 : decode cX9_substitute 187 = .ok (.istore 5, 2) := by decide +kernel
theorem dX9_substitute_189 : decode cX9_substitute 189 = .ok (.iload 5, 2) := by decide +kernel
theorem dX9_substitute_191 : decode cX9_substitute 191 = .ok (.ifCond .eq 30, 3) := by decide +kernel
theorem dX9_substitute_194 : decode cX9_substitute 194 = .ok (.aload_n 0, 1) := by decide +kernel
theorem dX9_substitute_195 : decode cX9_substitute 195 = .ok (.aload_n 0, 1) := by decide +kernel
theorem dX9_substitute_196 : decode cX9_substitute 196 = .ok (.getfield 19, 3) := by decide +kernel
theorem dX9_substitute_199 : decode cX9_substitute 199 = .ok (.iconst 0, 1) := by decide +kernel
theorem dX9_substitute_200 : decode cX9_substitute 200 = .ok (.aload_n 0, 1) := by decide +kernel
theorem dX9_substitute_201 : decode cX9_substitute 201 = .ok (.getfield 19, 3) := by decide +kernel
theorem dX9_substitute_204 : decode cX9_substitute 204 = .ok (.sipush 200, 3) := by decide +kernel
theorem dX9_substitute_207 : decode cX9_substitute 207 = .ok (.iaload, 1) := by decide +kernel
theorem dX9_substitute_208 : decode cX9_substitute 208 = .ok (.aload_n 0, 1) := by decide +kernel
theorem dX9_substitute_209 : decode cX9_substitute 209 = .ok (.getfield 16, 3) := by decide +kernel
theorem dX9_substitute_212 : decode cX9_substitute 212 = .ok (.iload 4, 2) := by decide +kernel
theorem dX9_substitute_214 : decode cX9_substitute 214 = .ok (.iaload, 1) := by decide +kernel
theorem dX9_substitute_215 : decode cX9_substitute 215 = .ok (.invokevirtual 90, 3) := by decide +kernel
theorem dX9_substitute_218 : decode cX9_substitute 218 = .ok (.goto 14, 3) := by decide +kernel
theorem dX9_substitute_221 : decode cX9_substitute 221 = .ok (.aload_n 0, 1) := by decide +kernel
theorem dX9_substitute_222 : decode cX9_substitute 222 = .ok (.aload_n 0, 1) := by decide +kernel
theorem dX9_substitute_223 : decode cX9_substitute 223 = .ok (.getfield 13, 3) := by decide +kernel
theorem dX9_substitute_226 : decode cX9_substitute 226 = .ok (.iload 4, 2) := by decide +kernel
theorem dX9_substitute_228 : decode cX9_substitute 228 = .ok (.iaload, 1) := by decide +kernel
theorem dX9_substitute_229 : decode cX9_substitute 229 = .ok (.invokevirtual 83, 3) := by decide +kernel
theorem dX9_substitute_232 : decode cX9_substitute 232 = .ok (.istore_n 3, 1) := by decide +kernel
theorem dX9_substitute_233 : decode cX9_substitute 233 = .ok (.iinc 4 1, 3) := by decide +kernel
theorem dX9_substitute_236 : decode cX9_substitute 236 = .ok (.goto (-103), 3) := by decide +kernel
theorem dX9_substitute_239 : decode cX9_substitute 239 = .ok (.iload_n 3, 1) := by decide +kernel
theorem dX9_substitute_240 : decode cX9_substitute 240 = .ok (.ifCond .eq 10, 3) := by decide +kernel
theorem dX9_substitute_243 : decode cX9_substitute 243 = .ok (.aload_n 0, 1) := by decide +kernel
theorem dX9_substitute_244 : decode cX9_substitute 244 = .ok (.invokevirtual 140, 3) := by decide +kernel
theorem dX9_substitute_247 : decode cX9_substitute 247 = .ok (.goto 5, 3) := by decide +kernel
theorem dX9_substitute_250 : decode cX9_substitute 250 = .ok (.bipush (-4), 2) := by decide +kernel
theorem dX9_substitute_252 : decode cX9_substitute 252 = .ok (.ireturn, 1) := by decide +kernel
theorem dX9_undo_0 : decode cX9_undo 0 = .ok (.aload_n 0, 1) := by decide +kernel
theorem dX9_undo_1 : decode cX9_undo 1 = .ok (.iconst 0, 1) := by decide +kernel
theorem dX9_undo_2 : decode cX9_undo 2 = .ok (.putfield 59, 3) := by decide +kernel
theorem dX9_undo_5 : decode cX9_undo 5 = .ok (.aload_n 0, 1) := by decide +kernel
theorem dX9_undo_6 : decode cX9_undo 6 = .ok (.getfield 132, 3) := by decide +kernel
theorem dX9_undo_9 : decode cX9_undo 9 = .ok (.ifCond .ne 6, 3) := by decide +kernel
theorem dX9_undo_12 : decode cX9_undo 12 = .ok (.bipush (-3), 2) := by decide +kernel
theorem dX9_undo_14 : decode cX9_undo 14 = .ok (.ireturn, 1) := by decide +kernel
theorem dX9_undo_15 : decode cX9_undo 15 = .ok (.aload_n 0, 1) := by decide +kernel
theorem dX9_undo_16 : decode cX9_undo 16 = .ok (.dup, 1) := by decide +kernel
theorem dX9_undo_17 : decode cX9_undo 17 = .ok (.getfield 132, 3) := by decide +kernel
theorem dX9_undo_20 : decode cX9_undo 20 = .ok (.iconst 1, 1) := by decide +kernel
theorem dX9_undo_21 : decode cX9_undo 21 = .ok (.isub, 1) := by decide +kernel
theorem dX9_undo_22 : decode cX9_undo 22 = .ok (.putfield 132, 3) := by decide +kernel
theorem dX9_undo_25 : decode cX9_undo 25 = .ok (.iconst 0, 1) := by decide +kernel
theorem dX9_undo_26 : decode cX9_undo 26 = .ok (.istore_n 1, 1) := by decide +kernel
theorem dX9_undo_27 : decode cX9_undo 27 = .ok (.iload_n 1, 1) := by decide +kernel
theorem dX9_undo_28 : decode cX9_undo 28 = .ok (.sipush 201, 3) := by decide +kernel
theorem dX9_undo_31 : decode cX9_undo 31 = .ok (.if_icmp .ge 30, 3) := by decide +kernel
theorem dX9_undo_34 : decode cX9_undo 34 = .ok (.aload_n 0, 1) := by decide +kernel
theorem dX9_undo_35 : decode cX9_undo 35 = .ok (.getfield 13, 3) := by decide +kernel
theorem dX9_undo_38 : decode cX9_undo 38 = .ok (.iload_n 1, 1) := by decide +kernel
theorem dX9_undo_39 : decode cX9_undo 39 = .ok (.aload_n 0, 1) := by decide +kernel
theorem dX9_undo_40 : decode cX9_undo 40 = .ok (.getfield 25, 3) := by decide +kernel
theorem dX9_undo_43 : decode cX9_undo 43 = .ok (.sipush 201, 3) := by decide +kernel
theorem dX9_undo_46 : decode cX9_undo 46 = .ok (.aload_n 0, 1) := by decide +kernel
theorem dX9_undo_47 : decode cX9_undo 47 = .ok (.getfield 132, 3) := by decide +kernel
theorem dX9_undo_50 : decode cX9_undo 50 = .ok (.imul, 1) := by decide +kernel
theorem dX9_undo_51 : decode cX9_undo 51 = .ok (.iload_n 1, 1) := by decide +kernel
theorem dX9_undo_52 : decode cX9_undo 52 = .ok (.iadd, 1) := by decide +kernel
theorem dX9_undo_53 : decode cX9_undo 53 = .ok (.iaload, 1) := by decide +kernel
theorem dX9_undo_54 : decode cX9_undo 54 = .ok (.iastore, 1) := by decide +kernel
theorem dX9_undo_55 : decode cX9_undo 55 = .ok (.iinc 1 1, 3) := by decide +kernel
theorem dX9_undo_58 : decode cX9_undo 58 = .ok (.goto (-31), 3) := by decide +kernel
theorem dX9_undo_61 : decode cX9_undo 61 = .ok (.aload_n 0, 1) := by decide +kernel
theorem dX9_undo_62 : decode cX9_undo 62 = .ok (.getfield 132, 3) := by decide +kernel
theorem dX9_undo_65 : decode cX9_undo 65 = .ok (.ireturn, 1) := by decide +kernel
theorem dX9_stepsOfRun_0 : decode cX9_stepsOfRun 0 = .ok (.aload_n 0, 1) := by decide +kernel
theorem dX9_stepsOfRun_1 : decode cX9_stepsOfRun 1 = .ok (.iconst 0, 1) := by decide +kernel
theorem dX9_stepsOfRun_2 : decode cX9_stepsOfRun 2 = .ok (.putfield 59, 3) := by decide +kernel
theorem dX9_stepsOfRun_5 : decode cX9_stepsOfRun 5 = .ok (.iload_n 1, 1) := by decide +kernel
theorem dX9_stepsOfRun_6 : decode cX9_stepsOfRun 6 = .ok (.i2l, 1) := by decide +kernel
theorem dX9_stepsOfRun_7 : decode cX9_stepsOfRun 7 = .ok (.lconst 0, 1) := by decide +kernel
theorem dX9_stepsOfRun_8 : decode cX9_stepsOfRun 8 = .ok (.ldc2_w 135, 3) := by decide +kernel
theorem dX9_stepsOfRun_11 : decode cX9_stepsOfRun 11 = .ok (.invokestatic 114, 3) := by decide +kernel
theorem dX9_stepsOfRun_14 : decode cX9_stepsOfRun 14 = .ok (.ifCond .eq 15, 3) := by decide +kernel
theorem dX9_stepsOfRun_17 : decode cX9_stepsOfRun 17 = .ok (.iload_n 2, 1) := by decide +kernel
theorem dX9_stepsOfRun_18 : decode cX9_stepsOfRun 18 = .ok (.i2l, 1) := by decide +kernel
theorem dX9_stepsOfRun_19 : decode cX9_stepsOfRun 19 = .ok (.lconst 0, 1) := by decide +kernel
theorem dX9_stepsOfRun_20 : decode cX9_stepsOfRun 20 = .ok (.ldc2_w 155, 3) := by decide +kernel
theorem dX9_stepsOfRun_23 : decode cX9_stepsOfRun 23 = .ok (.invokestatic 114, 3) := by decide +kernel
theorem dX9_stepsOfRun_26 : decode cX9_stepsOfRun 26 = .ok (.ifCond .ne 6, 3) := by decide +kernel
theorem dX9_stepsOfRun_29 : decode cX9_stepsOfRun 29 = .ok (.bipush (-2), 2) := by decide +kernel
theorem dX9_stepsOfRun_31 : decode cX9_stepsOfRun 31 = .ok (.ireturn, 1) := by decide +kernel
theorem dX9_stepsOfRun_32 : decode cX9_stepsOfRun 32 = .ok (.aload_n 0, 1) := by decide +kernel
theorem dX9_stepsOfRun_33 : decode cX9_stepsOfRun 33 = .ok (.getfield 13, 3) := by decide +kernel
theorem dX9_stepsOfRun_36 : decode cX9_stepsOfRun 36 = .ok (.aload_n 0, 1) := by decide +kernel
theorem dX9_stepsOfRun_37 : decode cX9_stepsOfRun 37 = .ok (.getfield 16, 3) := by decide +kernel
theorem dX9_stepsOfRun_40 : decode cX9_stepsOfRun 40 = .ok (.invokestatic 100, 3) := by decide +kernel
theorem dX9_stepsOfRun_43 : decode cX9_stepsOfRun 43 = .ok (.aload_n 0, 1) := by decide +kernel
theorem dX9_stepsOfRun_44 : decode cX9_stepsOfRun 44 = .ok (.aload_n 0, 1) := by decide +kernel
theorem dX9_stepsOfRun_45 : decode cX9_stepsOfRun 45 = .ok (.getfield 16, 3) := by decide +kernel
theorem dX9_stepsOfRun_48 : decode cX9_stepsOfRun 48 = .ok (.iload_n 1, 1) := by decide +kernel
theorem dX9_stepsOfRun_49 : decode cX9_stepsOfRun 49 = .ok (.iload_n 2, 1) := by decide +kernel
theorem dX9_stepsOfRun_50 : decode cX9_stepsOfRun 50 = .ok (.invokevirtual 104, 3) := by decide +kernel
theorem dX9_stepsOfRun_53 : decode cX9_stepsOfRun 53 = .ok (.ireturn, 1) := by decide +kernel
theorem dX9_sizeAfterRun_0 : decode cX9_sizeAfterRun 0 = .ok (.aload_n 0, 1) := by decide +kernel
theorem dX9_sizeAfterRun_1 : decode cX9_sizeAfterRun 1 = .ok (.iconst 0, 1) := by decide +kernel
theorem dX9_sizeAfterRun_2 : decode cX9_sizeAfterRun 2 = .ok (.putfield 59, 3) := by decide +kernel
theorem dX9_sizeAfterRun_5 : decode cX9_sizeAfterRun 5 = .ok (.iload_n 1, 1) := by decide +kernel
theorem dX9_sizeAfterRun_6 : decode cX9_sizeAfterRun 6 = .ok (.i2l, 1) := by decide +kernel
theorem dX9_sizeAfterRun_7 : decode cX9_sizeAfterRun 7 = .ok (.lconst 0, 1) := by decide +kernel
theorem dX9_sizeAfterRun_8 : decode cX9_sizeAfterRun 8 = .ok (.ldc2_w 135, 3) := by decide +kernel
theorem dX9_sizeAfterRun_11 : decode cX9_sizeAfterRun 11 = .ok (.invokestatic 114, 3) := by decide +kernel
theorem dX9_sizeAfterRun_14 : decode cX9_sizeAfterRun 14 = .ok (.ifCond .eq 15, 3) := by decide +kernel
theorem dX9_sizeAfterRun_17 : decode cX9_sizeAfterRun 17 = .ok (.iload_n 2, 1) := by decide +kernel
theorem dX9_sizeAfterRun_18 : decode cX9_sizeAfterRun 18 = .ok (.i2l, 1) := by decide +kernel
theorem dX9_sizeAfterRun_19 : decode cX9_sizeAfterRun 19 = .ok (.lconst 0, 1) := by decide +kernel
theorem dX9_sizeAfterRun_20 : decode cX9_sizeAfterRun 20 = .ok (.ldc2_w 155, 3) := by decide +kernel
theorem dX9_sizeAfterRun_23 : decode cX9_sizeAfterRun 23 = .ok (.invokestatic 114, 3) := by decide +kernel
theorem dX9_sizeAfterRun_26 : decode cX9_sizeAfterRun 26 = .ok (.ifCond .ne 6, 3) := by decide +kernel
theorem dX9_sizeAfterRun_29 : decode cX9_sizeAfterRun 29 = .ok (.bipush (-2), 2) := by decide +kernel
theorem dX9_sizeAfterRun_31 : decode cX9_sizeAfterRun 31 = .ok (.ireturn, 1) := by decide +kernel
theorem dX9_sizeAfterRun_32 : decode cX9_sizeAfterRun 32 = .ok (.aload_n 0, 1) := by decide +kernel
theorem dX9_sizeAfterRun_33 : decode cX9_sizeAfterRun 33 = .ok (.getfield 13, 3) := by decide +kernel
theorem dX9_sizeAfterRun_36 : decode cX9_sizeAfterRun 36 = .ok (.aload_n 0, 1) := by decide +kernel
theorem dX9_sizeAfterRun_37 : decode cX9_sizeAfterRun 37 = .ok (.getfield 16, 3) := by decide +kernel
theorem dX9_sizeAfterRun_40 : decode cX9_sizeAfterRun 40 = .ok (.invokestatic 100, 3) := by decide +kernel
theorem dX9_sizeAfterRun_43 : decode cX9_sizeAfterRun 43 = .ok (.aload_n 0, 1) := by decide +kernel
theorem dX9_sizeAfterRun_44 : decode cX9_sizeAfterRun 44 = .ok (.aload_n 0, 1) := by decide +kernel
theorem dX9_sizeAfterRun_45 : decode cX9_sizeAfterRun 45 = .ok (.getfield 16, 3) := by decide +kernel
theorem dX9_sizeAfterRun_48 : decode cX9_sizeAfterRun 48 = .ok (.iload_n 1, 1) := by decide +kernel
theorem dX9_sizeAfterRun_49 : decode cX9_sizeAfterRun 49 = .ok (.iload_n 2, 1) := by decide +kernel
theorem dX9_sizeAfterRun_50 : decode cX9_sizeAfterRun 50 = .ok (.invokevirtual 104, 3) := by decide +kernel
theorem dX9_sizeAfterRun_53 : decode cX9_sizeAfterRun 53 = .ok (.pop, 1) := by decide +kernel
theorem dX9_sizeAfterRun_54 : decode cX9_sizeAfterRun 54 = .ok (.aload_n 0, 1) := by decide +kernel
theorem dX9_sizeAfterRun_55 : decode cX9_sizeAfterRun 55 = .ok (.getfield 16, 3) := by decide +kernel
theorem dX9_sizeAfterRun_58 : decode cX9_sizeAfterRun 58 = .ok (.sipush 200, 3) := by decide +kernel
theorem dX9_sizeAfterRun_61 : decode cX9_sizeAfterRun 61 = .ok (.iaload, 1) := by decide +kernel
theorem dX9_sizeAfterRun_62 : decode cX9_sizeAfterRun 62 = .ok (.ireturn, 1) := by decide +kernel
theorem dX9_normalSize_0 : decode cX9_normalSize 0 = .ok (.aload_n 0, 1) := by decide +kernel
theorem dX9_normalSize_1 : decode cX9_normalSize 1 = .ok (.iconst 0, 1) := by decide +kernel
theorem dX9_normalSize_2 : decode cX9_normalSize 2 = .ok (.putfield 59, 3) := by decide +kernel
theorem dX9_normalSize_5 : decode cX9_normalSize 5 = .ok (.aload_n 0, 1) := by decide +kernel
theorem dX9_normalSize_6 : decode cX9_normalSize 6 = .ok (.getfield 13, 3) := by decide +kernel
theorem dX9_normalSize_9 : decode cX9_normalSize 9 = .ok (.aload_n 0, 1) := by decide +kernel
theorem dX9_normalSize_10 : decode cX9_normalSize 10 = .ok (.getfield 16, 3) := by decide +kernel
theorem dX9_normalSize_13 : decode cX9_normalSize 13 = .ok (.invokestatic 100, 3) := by decide +kernel
theorem dX9_normalSize_16 : decode cX9_normalSize 16 = .ok (.aload_n 0, 1) := by decide +kernel
theorem dX9_normalSize_17 : decode cX9_normalSize 17 = .ok (.aload_n 0, 1) := by decide +kernel
theorem dX9_normalSize_18 : decode cX9_normalSize 18 = .ok (.getfield 16, 3) := by decide +kernel
theorem dX9_normalSize_21 : decode cX9_normalSize 21 = .ok (.invokevirtual 157, 3) := by decide +kernel
theorem dX9_normalSize_24 : decode cX9_normalSize 24 = .ok (.ifCond .eq 14, 3) := by decide +kernel
theorem dX9_normalSize_27 : decode cX9_normalSize 27 = .ok (.aload_n 0, 1) := by decide +kernel
theorem dX9_normalSize_28 : decode cX9_normalSize 28 = .ok (.getfield 16, 3) := by decide +kernel
theorem dX9_normalSize_31 : decode cX9_normalSize 31 = .ok (.sipush 200, 3) := by decide +kernel
theorem dX9_normalSize_34 : decode cX9_normalSize 34 = .ok (.iaload, 1) := by decide +kernel
theorem dX9_normalSize_35 : decode cX9_normalSize 35 = .ok (.goto 5, 3) := by decide +kernel
theorem dX9_normalSize_38 : decode cX9_normalSize 38 = .ok (.bipush (-9), 2) := by decide +kernel
theorem dX9_normalSize_40 : decode cX9_normalSize 40 = .ok (.ireturn, 1) := by decide +kernel
theorem dX9_normalTokenAt_0 : decode cX9_normalTokenAt 0 = .ok (.aload_n 0, 1) := by decide +kernel
theorem dX9_normalTokenAt_1 : decode cX9_normalTokenAt 1 = .ok (.iconst 0, 1) := by decide +kernel
theorem dX9_normalTokenAt_2 : decode cX9_normalTokenAt 2 = .ok (.putfield 59, 3) := by decide +kernel
theorem dX9_normalTokenAt_5 : decode cX9_normalTokenAt 5 = .ok (.aload_n 0, 1) := by decide +kernel
theorem dX9_normalTokenAt_6 : decode cX9_normalTokenAt 6 = .ok (.getfield 13, 3) := by decide +kernel
theorem dX9_normalTokenAt_9 : decode cX9_normalTokenAt 9 = .ok (.aload_n 0, 1) := by decide +kernel
theorem dX9_normalTokenAt_10 : decode cX9_normalTokenAt 10 = .ok (.getfield 16, 3) := by decide +kernel
theorem dX9_normalTokenAt_13 : decode cX9_normalTokenAt 13 = .ok (.invokestatic 100, 3) := by decide +kernel
theorem dX9_normalTokenAt_16 : decode cX9_normalTokenAt 16 = .ok (.aload_n 0, 1) := by decide +kernel
theorem dX9_normalTokenAt_17 : decode cX9_normalTokenAt 17 = .ok (.aload_n 0, 1) := by decide +kernel
theorem dX9_normalTokenAt_18 : decode cX9_normalTokenAt 18 = .ok (.getfield 16, 3) := by decide +kernel
theorem dX9_normalTokenAt_21 : decode cX9_normalTokenAt 21 = .ok (.invokevirtual 157, 3) := by decide +kernel
theorem dX9_normalTokenAt_24 : decode cX9_normalTokenAt 24 = .ok (.ifCond .ne 6, 3) := by decide +kernel
theorem dX9_normalTokenAt_27 : decode cX9_normalTokenAt 27 = .ok (.bipush (-9), 2) := by decide +kernel
theorem dX9_normalTokenAt_29 : decode cX9_normalTokenAt 29 = .ok (.ireturn, 1) := by decide +kernel
theorem dX9_normalTokenAt_30 : decode cX9_normalTokenAt 30 = .ok (.iload_n 1, 1) := by decide +kernel
theorem dX9_normalTokenAt_31 : decode cX9_normalTokenAt 31 = .ok (.i2l, 1) := by decide +kernel
theorem dX9_normalTokenAt_32 : decode cX9_normalTokenAt 32 = .ok (.lconst 0, 1) := by decide +kernel
theorem dX9_normalTokenAt_33 : decode cX9_normalTokenAt 33 = .ok (.aload_n 0, 1) := by decide +kernel
theorem dX9_normalTokenAt_34 : decode cX9_normalTokenAt 34 = .ok (.getfield 16, 3) := by decide +kernel
theorem dX9_normalTokenAt_37 : decode cX9_normalTokenAt 37 = .ok (.sipush 200, 3) := by decide +kernel
theorem dX9_normalTokenAt_40 : decode cX9_normalTokenAt 40 = .ok (.iaload, 1) := by decide +kernel
theorem dX9_normalTokenAt_41 : decode cX9_normalTokenAt 41 = .ok (.iconst 1, 1) := by decide +kernel
theorem dX9_normalTokenAt_42 : decode cX9_normalTokenAt 42 = .ok (.isub, 1) := by decide +kernel
theorem dX9_normalTokenAt_43 : decode cX9_normalTokenAt 43 = .ok (.i2l, 1) := by decide +kernel
theorem dX9_normalTokenAt_44 : decode cX9_normalTokenAt 44 = .ok (.invokestatic 114, 3) := by decide +kernel
theorem dX9_normalTokenAt_47 : decode cX9_normalTokenAt 47 = .ok (.ifCond .eq 12, 3) := by decide +kernel
theorem dX9_normalTokenAt_50 : decode cX9_normalTokenAt 50 = .ok (.aload_n 0, 1) := by decide +kernel
theorem dX9_normalTokenAt_51 : decode cX9_normalTokenAt 51 = .ok (.getfield 16, 3) := by decide +kernel
theorem dX9_normalTokenAt_54 : decode cX9_normalTokenAt 54 = .ok (.iload_n 1, 1) := by decide +kernel
theorem dX9_normalTokenAt_55 : decode cX9_normalTokenAt 55 = .ok (.iaload, 1) := by decide +kernel
theorem dX9_normalTokenAt_56 : decode cX9_normalTokenAt 56 = .ok (.goto 4, 3) := by decide +kernel
theorem dX9_normalTokenAt_59 : decode cX9_normalTokenAt 59 = .ok (.iconst (-1), 1) := by decide +kernel
theorem dX9_normalTokenAt_60 : decode cX9_normalTokenAt 60 = .ok (.ireturn, 1) := by decide +kernel
theorem dX9_isEquivalent_0 : decode cX9_isEquivalent 0 = .ok (.aload_n 0, 1) := by decide +kernel
theorem dX9_isEquivalent_1 : decode cX9_isEquivalent 1 = .ok (.iconst 0, 1) := by decide +kernel
theorem dX9_isEquivalent_2 : decode cX9_isEquivalent 2 = .ok (.putfield 59, 3) := by decide +kernel
theorem dX9_isEquivalent_5 : decode cX9_isEquivalent 5 = .ok (.iload_n 1, 1) := by decide +kernel
theorem dX9_isEquivalent_6 : decode cX9_isEquivalent 6 = .ok (.i2l, 1) := by decide +kernel
theorem dX9_isEquivalent_7 : decode cX9_isEquivalent 7 = .ok (.lconst 0, 1) := by decide +kernel
theorem dX9_isEquivalent_8 : decode cX9_isEquivalent 8 = .ok (.lconst 1, 1) := by decide +kernel
theorem dX9_isEquivalent_9 : decode cX9_isEquivalent 9 = .ok (.invokestatic 114, 3) := by decide +kernel
theorem dX9_isEquivalent_12 : decode cX9_isEquivalent 12 = .ok (.ifCond .ne 5, 3) := by decide +kernel
theorem dX9_isEquivalent_15 : decode cX9_isEquivalent 15 = .ok (.iconst (-1), 1) := by decide +kernel
theorem dX9_isEquivalent_16 : decode cX9_isEquivalent 16 = .ok (.ireturn, 1) := by decide +kernel
theorem dX9_isEquivalent_17 : decode cX9_isEquivalent 17 = .ok (.aload_n 0, 1) := by decide +kernel
theorem dX9_isEquivalent_18 : decode cX9_isEquivalent 18 = .ok (.getfield 31, 3) := by decide +kernel
theorem dX9_isEquivalent_21 : decode cX9_isEquivalent 21 = .ok (.iload_n 1, 1) := by decide +kernel
theorem dX9_isEquivalent_22 : decode cX9_isEquivalent 22 = .ok (.baload, 1) := by decide +kernel
theorem dX9_isEquivalent_23 : decode cX9_isEquivalent 23 = .ok (.ifCond .ne 6, 3) := by decide +kernel
theorem dX9_isEquivalent_26 : decode cX9_isEquivalent 26 = .ok (.bipush (-3), 2) := by decide +kernel
theorem dX9_isEquivalent_28 : decode cX9_isEquivalent 28 = .ok (.ireturn, 1) := by decide +kernel
theorem dX9_isEquivalent_29 : decode cX9_isEquivalent 29 = .ok (.aload_n 0, 1) := by decide +kernel
theorem dX9_isEquivalent_30 : decode cX9_isEquivalent 30 = .ok (.getfield 13, 3) := by decide +kernel
theorem dX9_isEquivalent_33 : decode cX9_isEquivalent 33 = .ok (.aload_n 0, 1) := by decide +kernel
theorem dX9_isEquivalent_34 : decode cX9_isEquivalent 34 = .ok (.getfield 16, 3) := by decide +kernel
theorem dX9_isEquivalent_37 : decode cX9_isEquivalent 37 = .ok (.invokestatic 100, 3) := by decide +kernel
theorem dX9_isEquivalent_40 : decode cX9_isEquivalent 40 = .ok (.aload_n 0, 1) := by decide +kernel
theorem dX9_isEquivalent_41 : decode cX9_isEquivalent 41 = .ok (.iload_n 1, 1) := by decide +kernel
theorem dX9_isEquivalent_42 : decode cX9_isEquivalent 42 = .ok (.aload_n 0, 1) := by decide +kernel
theorem dX9_isEquivalent_43 : decode cX9_isEquivalent 43 = .ok (.getfield 19, 3) := by decide +kernel
theorem dX9_isEquivalent_46 : decode cX9_isEquivalent 46 = .ok (.invokevirtual 149, 3) := by decide +kernel
theorem dX9_isEquivalent_49 : decode cX9_isEquivalent 49 = .ok (.aload_n 0, 1) := by decide +kernel
theorem dX9_isEquivalent_50 : decode cX9_isEquivalent 50 = .ok (.aload_n 0, 1) := by decide +kernel
theorem dX9_isEquivalent_51 : decode cX9_isEquivalent 51 = .ok (.getfield 16, 3) := by decide +kernel
theorem dX9_isEquivalent_54 : decode cX9_isEquivalent 54 = .ok (.invokevirtual 157, 3) := by decide +kernel
theorem dX9_isEquivalent_57 : decode cX9_isEquivalent 57 = .ok (.ifCond .eq 14, 3) := by decide +kernel
theorem dX9_isEquivalent_60 : decode cX9_isEquivalent 60 = .ok (.aload_n 0, 1) := by decide +kernel
theorem dX9_isEquivalent_61 : decode cX9_isEquivalent 61 = .ok (.aload_n 0, 1) := by decide +kernel
theorem dX9_isEquivalent_62 : decode cX9_isEquivalent 62 = .ok (.getfield 19, 3) := by decide +kernel
theorem dX9_isEquivalent_65 : decode cX9_isEquivalent 65 = .ok (.invokevirtual 157, 3) := by decide +kernel
theorem dX9_isEquivalent_68 : decode cX9_isEquivalent 68 = .ok (.ifCond .ne 6, 3) := by decide +kernel
theorem dX9_isEquivalent_71 : decode cX9_isEquivalent 71 = .ok (.bipush (-9), 2) := by decide +kernel
theorem dX9_isEquivalent_73 : decode cX9_isEquivalent 73 = .ok (.ireturn, 1) := by decide +kernel
theorem dX9_isEquivalent_74 : decode cX9_isEquivalent 74 = .ok (.aload_n 0, 1) := by decide +kernel
theorem dX9_isEquivalent_75 : decode cX9_isEquivalent 75 = .ok (.getfield 16, 3) := by decide +kernel
theorem dX9_isEquivalent_78 : decode cX9_isEquivalent 78 = .ok (.sipush 200, 3) := by decide +kernel
theorem dX9_isEquivalent_81 : decode cX9_isEquivalent 81 = .ok (.iaload, 1) := by decide +kernel
theorem dX9_isEquivalent_82 : decode cX9_isEquivalent 82 = .ok (.aload_n 0, 1) := by decide +kernel
theorem dX9_isEquivalent_83 : decode cX9_isEquivalent 83 = .ok (.getfield 19, 3) := by decide +kernel
theorem dX9_isEquivalent_86 : decode cX9_isEquivalent 86 = .ok (.sipush 200, 3) := by decide +kernel
theorem dX9_isEquivalent_89 : decode cX9_isEquivalent 89 = .ok (.iaload, 1) := by decide +kernel
theorem dX9_isEquivalent_90 : decode cX9_isEquivalent 90 = .ok (.if_icmp .ne 7, 3) := by decide +kernel
theorem dX9_isEquivalent_93 : decode cX9_isEquivalent 93 = .ok (.iconst 1, 1) := by decide +kernel
theorem dX9_isEquivalent_94 : decode cX9_isEquivalent 94 = .ok (.goto 4, 3) := by decide +kernel
theorem dX9_isEquivalent_97 : decode cX9_isEquivalent 97 = .ok (.iconst 0, 1) := by decide +kernel
theorem dX9_isEquivalent_98 : decode cX9_isEquivalent 98 = .ok (.istore_n 2, 1) := by decide +kernel
theorem dX9_isEquivalent_99 : decode cX9_isEquivalent 99 = .ok (.iconst 0, 1) := by decide +kernel
theorem dX9_isEquivalent_100 : decode cX9_isEquivalent 100 = .ok (.istore_n 3, 1) := by decide +kernel
theorem dX9_isEquivalent_101 : decode cX9_isEquivalent 101 = .ok (.iload_n 3, 1) := by decide +kernel
theorem dX9_isEquivalent_102 : decode cX9_isEquivalent 102 = .ok (.aload_n 0, 1) := by decide +kernel
theorem dX9_isEquivalent_103 : decode cX9_isEquivalent 103 = .ok (.getfield 16, 3) := by decide +kernel
theorem dX9_isEquivalent_106 : decode cX9_isEquivalent 106 = .ok (.sipush 200, 3) := by decide +kernel
theorem dX9_isEquivalent_109 : decode cX9_isEquivalent 109 = .ok (.iaload, 1) := by decide +kernel
theorem dX9_isEquivalent_110 : decode cX9_isEquivalent 110 = .ok (.if_icmp .ge 34, 3) := by decide +kernel
theorem dX9_isEquivalent_113 : decode cX9_isEquivalent 113 = .ok (.iload_n 2, 1) := by decide +kernel
theorem dX9_isEquivalent_114 : decode cX9_isEquivalent 114 = .ok (.ifCond .eq 22, 3) := by decide +kernel
theorem dX9_isEquivalent_117 : decode cX9_isEquivalent 117 = .ok (.aload_n 0, 1) := by decide +kernel
theorem dX9_isEquivalent_118 : decode cX9_isEquivalent 118 = .ok (.getfield 16, 3) := by decide +kernel
theorem dX9_isEquivalent_121 : decode cX9_isEquivalent 121 = .ok (.iload_n 3, 1) := by decide +kernel
theorem dX9_isEquivalent_122 : decode cX9_isEquivalent 122 = .ok (.iaload, 1) := by decide +kernel
theorem dX9_isEquivalent_123 : decode cX9_isEquivalent 123 = .ok (.aload_n 0, 1) := by decide +kernel
theorem dX9_isEquivalent_124 : decode cX9_isEquivalent 124 = .ok (.getfield 19, 3) := by decide +kernel
theorem dX9_isEquivalent_127 : decode cX9_isEquivalent 127 = .ok (.iload_n 3, 1) := by decide +kernel
theorem dX9_isEquivalent_128 : decode cX9_isEquivalent 128 = .ok (.iaload, 1) := by decide +kernel
theorem dX9_isEquivalent_129 : decode cX9_isEquivalent 129 = .ok (.if_icmp .ne 7, 3) := by decide +kernel
theorem dX9_isEquivalent_132 : decode cX9_isEquivalent 132 = .ok (.iconst 1, 1) := by decide +kernel
theorem dX9_isEquivalent_133 : decode cX9_isEquivalent 133 = .ok (.goto 4, 3) := by decide +kernel
theorem dX9_isEquivalent_136 : decode cX9_isEquivalent 136 = .ok (.iconst 0, 1) := by decide +kernel
theorem dX9_isEquivalent_137 : decode cX9_isEquivalent 137 = .ok (.istore_n 2, 1) := by decide +kernel
theorem dX9_isEquivalent_138 : decode cX9_isEquivalent 138 = .ok (.iinc 3 1, 3) := by decide +kernel
theorem dX9_isEquivalent_141 : decode cX9_isEquivalent 141 = .ok (.goto (-40), 3) := by decide +kernel
theorem dX9_isEquivalent_144 : decode cX9_isEquivalent 144 = .ok (.iload_n 2, 1) := by decide +kernel
theorem dX9_isEquivalent_145 : decode cX9_isEquivalent 145 = .ok (.ifCond .eq 7, 3) := by decide +kernel
theorem dX9_isEquivalent_148 : decode cX9_isEquivalent 148 = .ok (.iconst 1, 1) := by decide +kernel
theorem dX9_isEquivalent_149 : decode cX9_isEquivalent 149 = .ok (.goto 4, 3) := by decide +kernel
theorem dX9_isEquivalent_152 : decode cX9_isEquivalent 152 = .ok (.iconst 0, 1) := by decide +kernel
theorem dX9_isEquivalent_153 : decode cX9_isEquivalent 153 = .ok (.ireturn, 1) := by decide +kernel
theorem dX9_add_0 : decode cX9_add 0 = .ok (.aload_n 0, 1) := by decide +kernel
theorem dX9_add_1 : decode cX9_add 1 = .ok (.aload_n 0, 1) := by decide +kernel
theorem dX9_add_2 : decode cX9_add 2 = .ok (.getfield 161, 3) := by decide +kernel
theorem dX9_add_5 : decode cX9_add 5 = .ok (.ifCond .ne 17, 3) := by decide +kernel
theorem dX9_add_8 : decode cX9_add 8 = .ok (.aload_n 0, 1) := by decide +kernel
theorem dX9_add_9 : decode cX9_add 9 = .ok (.getfield 53, 3) := by decide +kernel
theorem dX9_add_12 : decode cX9_add 12 = .ok (.sipush 320, 3) := by decide +kernel
theorem dX9_add_15 : decode cX9_add 15 = .ok (.iaload, 1) := by decide +kernel
theorem dX9_add_16 : decode cX9_add 16 = .ok (.sipush 300, 3) := by decide +kernel
theorem dX9_add_19 : decode cX9_add 19 = .ok (.if_icmp .ne 7, 3) := by decide +kernel
theorem dX9_add_22 : decode cX9_add 22 = .ok (.iconst 1, 1) := by decide +kernel
theorem dX9_add_23 : decode cX9_add 23 = .ok (.goto 4, 3) := by decide +kernel
theorem dX9_add_26 : decode cX9_add 26 = .ok (.iconst 0, 1) := by decide +kernel
theorem dX9_add_27 : decode cX9_add 27 = .ok (.putfield 161, 3) := by decide +kernel
theorem dX9_add_30 : decode cX9_add 30 = .ok (.aload_n 0, 1) := by decide +kernel
theorem dX9_add_31 : decode cX9_add 31 = .ok (.getfield 161, 3) := by decide +kernel
theorem dX9_add_34 : decode cX9_add 34 = .ok (.ifCond .ne 29, 3) := by decide +kernel
theorem dX9_add_37 : decode cX9_add 37 = .ok (.aload_n 0, 1) := by decide +kernel
theorem dX9_add_38 : decode cX9_add 38 = .ok (.getfield 53, 3) := by decide +kernel
theorem dX9_add_41 : decode cX9_add 41 = .ok (.aload_n 0, 1) := by decide +kernel
theorem dX9_add_42 : decode cX9_add 42 = .ok (.getfield 53, 3) := by decide +kernel
theorem dX9_add_45 : decode cX9_add 45 = .ok (.sipush 320, 3) := by decide +kernel
theorem dX9_add_48 : decode cX9_add 48 = .ok (.iaload, 1) := by decide +kernel
theorem dX9_add_49 : decode cX9_add 49 = .ok (.iload_n 1, 1) := by decide +kernel
theorem dX9_add_50 : decode cX9_add 50 = .ok (.iastore, 1) := by decide +kernel
theorem dX9_add_51 : decode cX9_add 51 = .ok (.aload_n 0, 1) := by decide +kernel
theorem dX9_add_52 : decode cX9_add 52 = .ok (.getfield 53, 3) := by decide +kernel
theorem dX9_add_55 : decode cX9_add 55 = .ok (.sipush 320, 3) := by decide +kernel
theorem dX9_add_58 : decode cX9_add 58 = .ok (.dup2, 1) := by decide +kernel
theorem dX9_add_59 : decode cX9_add 59 = .ok (.iaload, 1) := by decide +kernel
theorem dX9_add_60 : decode cX9_add 60 = .ok (.iconst 1, 1) := by decide +kernel
theorem dX9_add_61 : decode cX9_add 61 = .ok (.iadd, 1) := by decide +kernel
theorem dX9_add_62 : decode cX9_add 62 = .ok (.iastore, 1) := by decide +kernel
theorem dX9_add_63 : decode cX9_add 63 = .ok (.return_, 1) := by decide +kernel
theorem dX9_addPart_0 : decode cX9_addPart 0 = .ok (.iload_n 1, 1) := by decide +kernel
theorem dX9_addPart_1 : decode cX9_addPart 1 = .ok (.istore_n 3, 1) := by decide +kernel
theorem dX9_addPart_2 : decode cX9_addPart 2 = .ok (.iload_n 3, 1) := by decide +kernel
theorem dX9_addPart_3 : decode cX9_addPart 3 = .ok (.iload_n 2, 1) := by decide +kernel
theorem dX9_addPart_4 : decode cX9_addPart 4 = .ok (.if_icmp .ge 19, 3) := by decide +kernel
theorem dX9_addPart_7 : decode cX9_addPart 7 = .ok (.aload_n 0, 1) := by decide +kernel
theorem dX9_addPart_8 : decode cX9_addPart 8 = .ok (.aload_n 0, 1) := by decide +kernel
theorem dX9_addPart_9 : decode cX9_addPart 9 = .ok (.getfield 50, 3) := by decide +kernel
theorem dX9_addPart_12 : decode cX9_addPart 12 = .ok (.iload_n 3, 1) := by decide +kernel
theorem dX9_addPart_13 : decode cX9_addPart 13 = .ok (.iaload, 1) := by decide +kernel
theorem dX9_addPart_14 : decode cX9_addPart 14 = .ok (.invokevirtual 165, 3) := by decide +kernel
theorem dX9_addPart_17 : decode cX9_addPart 17 = .ok (.iinc 3 1, 3) := by decide +kernel
theorem dX9_addPart_20 : decode cX9_addPart 20 = .ok (.goto (-18), 3) := by decide +kernel
theorem dX9_addPart_23 : decode cX9_addPart 23 = .ok (.return_, 1) := by decide +kernel
theorem dX9_ruleAt_0 : decode cX9_ruleAt 0 = .ok (.aload_n 0, 1) := by decide +kernel
theorem dX9_ruleAt_1 : decode cX9_ruleAt 1 = .ok (.getfield 50, 3) := by decide +kernel
theorem dX9_ruleAt_4 : decode cX9_ruleAt 4 = .ok (.iload_n 1, 1) := by decide +kernel
theorem dX9_ruleAt_5 : decode cX9_ruleAt 5 = .ok (.iaload, 1) := by decide +kernel
theorem dX9_ruleAt_6 : decode cX9_ruleAt 6 = .ok (.sipush 1000, 3) := by decide +kernel
theorem dX9_ruleAt_9 : decode cX9_ruleAt 9 = .ok (.if_icmp .ne 24, 3) := by decide +kernel
theorem dX9_ruleAt_12 : decode cX9_ruleAt 12 = .ok (.aload_n 0, 1) := by decide +kernel
theorem dX9_ruleAt_13 : decode cX9_ruleAt 13 = .ok (.getfield 50, 3) := by decide +kernel
theorem dX9_ruleAt_16 : decode cX9_ruleAt 16 = .ok (.iload_n 1, 1) := by decide +kernel
theorem dX9_ruleAt_17 : decode cX9_ruleAt 17 = .ok (.iconst 1, 1) := by decide +kernel
theorem dX9_ruleAt_18 : decode cX9_ruleAt 18 = .ok (.iadd, 1) := by decide +kernel
theorem dX9_ruleAt_19 : decode cX9_ruleAt 19 = .ok (.iaload, 1) := by decide +kernel
theorem dX9_ruleAt_20 : decode cX9_ruleAt 20 = .ok (.sipush 1001, 3) := by decide +kernel
theorem dX9_ruleAt_23 : decode cX9_ruleAt 23 = .ok (.if_icmp .ne 7, 3) := by decide +kernel
theorem dX9_ruleAt_26 : decode cX9_ruleAt 26 = .ok (.iconst 0, 1) := by decide +kernel
theorem dX9_ruleAt_27 : decode cX9_ruleAt 27 = .ok (.goto 5, 3) := by decide +kernel
theorem dX9_ruleAt_30 : decode cX9_ruleAt 30 = .ok (.bipush (-9), 2) := by decide +kernel
theorem dX9_ruleAt_32 : decode cX9_ruleAt 32 = .ok (.ireturn, 1) := by decide +kernel
theorem dX9_ruleAt_33 : decode cX9_ruleAt 33 = .ok (.aload_n 0, 1) := by decide +kernel
theorem dX9_ruleAt_34 : decode cX9_ruleAt 34 = .ok (.getfield 50, 3) := by decide +kernel
theorem dX9_ruleAt_37 : decode cX9_ruleAt 37 = .ok (.iload_n 1, 1) := by decide +kernel
theorem dX9_ruleAt_38 : decode cX9_ruleAt 38 = .ok (.iaload, 1) := by decide +kernel
theorem dX9_ruleAt_39 : decode cX9_ruleAt 39 = .ok (.ldc 63, 2) := by decide +kernel
theorem dX9_ruleAt_41 : decode cX9_ruleAt 41 = .ok (.if_icmp .ge 6, 3) := by decide +kernel
theorem dX9_ruleAt_44 : decode cX9_ruleAt 44 = .ok (.bipush (-9), 2) := by decide +kernel
theorem dX9_ruleAt_46 : decode cX9_ruleAt 46 = .ok (.ireturn, 1) := by decide +kernel
theorem dX9_ruleAt_47 : decode cX9_ruleAt 47 = .ok (.aload_n 0, 1) := by decide +kernel
theorem dX9_ruleAt_48 : decode cX9_ruleAt 48 = .ok (.getfield 50, 3) := by decide +kernel
theorem dX9_ruleAt_51 : decode cX9_ruleAt 51 = .ok (.iload_n 1, 1) := by decide +kernel
theorem dX9_ruleAt_52 : decode cX9_ruleAt 52 = .ok (.iconst 1, 1) := by decide +kernel
theorem dX9_ruleAt_53 : decode cX9_ruleAt 53 = .ok (.iadd, 1) := by decide +kernel
theorem dX9_ruleAt_54 : decode cX9_ruleAt 54 = .ok (.iaload, 1) := by decide +kernel
theorem dX9_ruleAt_55 : decode cX9_ruleAt 55 = .ok (.istore_n 3, 1) := by decide +kernel
theorem dX9_ruleAt_56 : decode cX9_ruleAt 56 = .ok (.iload_n 3, 1) := by decide +kernel
theorem dX9_ruleAt_57 : decode cX9_ruleAt 57 = .ok (.sipush 1000, 3) := by decide +kernel
theorem dX9_ruleAt_60 : decode cX9_ruleAt 60 = .ok (.if_icmp .ne 7, 3) := by decide +kernel
theorem dX9_ruleAt_63 : decode cX9_ruleAt 63 = .ok (.iconst 1, 1) := by decide +kernel
theorem dX9_ruleAt_64 : decode cX9_ruleAt 64 = .ok (.goto 35, 3) := by decide +kernel
theorem dX9_ruleAt_67 : decode cX9_ruleAt 67 = .ok (.iload_n 3, 1) := by decide +kernel
theorem dX9_ruleAt_68 : decode cX9_ruleAt 68 = .ok (.sipush 1001, 3) := by decide +kernel
theorem dX9_ruleAt_71 : decode cX9_ruleAt 71 = .ok (.if_icmp .ne 7, 3) := by decide +kernel
theorem dX9_ruleAt_74 : decode cX9_ruleAt 74 = .ok (.iconst 2, 1) := by decide +kernel
theorem dX9_ruleAt_75 : decode cX9_ruleAt 75 = .ok (.goto 24, 3) := by decide +kernel
theorem dX9_ruleAt_78 : decode cX9_ruleAt 78 = .ok (.iload_n 3, 1) := by decide +kernel
theorem dX9_ruleAt_79 : decode cX9_ruleAt 79 = .ok (.invokestatic 68, 3) := by decide +kernel
theorem dX9_ruleAt_82 : decode cX9_ruleAt 82 = .ok (.ifCond .eq 7, 3) := by decide +kernel
theorem dX9_ruleAt_85 : decode cX9_ruleAt 85 = .ok (.iconst 3, 1) := by decide +kernel
theorem dX9_ruleAt_86 : decode cX9_ruleAt 86 = .ok (.goto 13, 3) := by decide +kernel
theorem dX9_ruleAt_89 : decode cX9_ruleAt 89 = .ok (.iload_n 2, 1) := by decide +kernel
theorem dX9_ruleAt_90 : decode cX9_ruleAt 90 = .ok (.ifCond .eq 7, 3) := by decide +kernel
theorem dX9_ruleAt_93 : decode cX9_ruleAt 93 = .ok (.iconst 4, 1) := by decide +kernel
theorem dX9_ruleAt_94 : decode cX9_ruleAt 94 = .ok (.goto 5, 3) := by decide +kernel
theorem dX9_ruleAt_97 : decode cX9_ruleAt 97 = .ok (.bipush (-9), 2) := by decide +kernel
theorem dX9_ruleAt_99 : decode cX9_ruleAt 99 = .ok (.ireturn, 1) := by decide +kernel
theorem dX9_apply_0 : decode cX9_apply 0 = .ok (.aload_n 0, 1) := by decide +kernel
theorem dX9_apply_1 : decode cX9_apply 1 = .ok (.getfield 53, 3) := by decide +kernel
theorem dX9_apply_4 : decode cX9_apply 4 = .ok (.sipush 320, 3) := by decide +kernel
theorem dX9_apply_7 : decode cX9_apply 7 = .ok (.iconst 0, 1) := by decide +kernel
theorem dX9_apply_8 : decode cX9_apply 8 = .ok (.iastore, 1) := by decide +kernel
theorem dX9_apply_9 : decode cX9_apply 9 = .ok (.aload_n 0, 1) := by decide +kernel
theorem dX9_apply_10 : decode cX9_apply 10 = .ok (.iconst 0, 1) := by decide +kernel
theorem dX9_apply_11 : decode cX9_apply 11 = .ok (.iload_n 2, 1) := by decide +kernel
theorem dX9_apply_12 : decode cX9_apply 12 = .ok (.invokevirtual 169, 3) := by decide +kernel
theorem dX9_apply_15 : decode cX9_apply 15 = .ok (.aload_n 0, 1) := by decide +kernel
theorem dX9_apply_16 : decode cX9_apply 16 = .ok (.getfield 50, 3) := by decide +kernel
theorem dX9_apply_19 : decode cX9_apply 19 = .ok (.iload_n 2, 1) := by decide +kernel
theorem dX9_apply_20 : decode cX9_apply 20 = .ok (.invokestatic 76, 3) := by decide +kernel
theorem dX9_apply_23 : decode cX9_apply 23 = .ok (.istore_n 3, 1) := by decide +kernel
theorem dX9_apply_24 : decode cX9_apply 24 = .ok (.aload_n 0, 1) := by decide +kernel
theorem dX9_apply_25 : decode cX9_apply 25 = .ok (.getfield 50, 3) := by decide +kernel
theorem dX9_apply_28 : decode cX9_apply 28 = .ok (.iload_n 2, 1) := by decide +kernel
theorem dX9_apply_29 : decode cX9_apply 29 = .ok (.iaload, 1) := by decide +kernel
theorem dX9_apply_30 : decode cX9_apply 30 = .ok (.invokestatic 64, 3) := by decide +kernel
theorem dX9_apply_33 : decode cX9_apply 33 = .ok (.iconst 1, 1) := by decide +kernel
theorem dX9_apply_34 : decode cX9_apply 34 = .ok (.isub, 1) := by decide +kernel
theorem dX9_apply_35 : decode cX9_apply 35 = .ok (.istore 4, 2) := by decide +kernel
theorem dX9_apply_37 : decode cX9_apply 37 = .ok (.aload_n 0, 1) := by decide +kernel
theorem dX9_apply_38 : decode cX9_apply 38 = .ok (.getfield 50, 3) := by decide +kernel
theorem dX9_apply_41 : decode cX9_apply 41 = .ok (.iload_n 2, 1) := by decide +kernel
theorem dX9_apply_42 : decode cX9_apply 42 = .ok (.iaload, 1) := by decide +kernel
theorem dX9_apply_43 : decode cX9_apply 43 = .ok (.ldc 63, 2) := by decide +kernel
theorem dX9_apply_45 : decode cX9_apply 45 = .ok (.isub, 1) := by decide +kernel
theorem dX9_apply_46 : decode cX9_apply 46 = .ok (.sipush 1000, 3) := by decide +kernel
theorem dX9_apply_49 : decode cX9_apply 49 = .ok (.irem, 1) := by decide +kernel
theorem dX9_apply_50 : decode cX9_apply 50 = .ok (.istore 5, 2) := by decide +kernel
theorem dX9_apply_52 : decode cX9_apply 52 = .ok (.iload_n 2, 1) := by decide +kernel
theorem dX9_apply_53 : decode cX9_apply 53 = .ok (.iconst 1, 1) := by decide +kernel
theorem dX9_apply_54 : decode cX9_apply 54 = .ok (.iadd, 1) := by decide +kernel
theorem dX9_apply_55 : decode cX9_apply 55 = .ok (.istore 6, 2) := by decide +kernel
theorem dX9_apply_57 : decode cX9_apply 57 = .ok (.aload_n 0, 1) := by decide +kernel
theorem dX9_apply_58 : decode cX9_apply 58 = .ok (.getfield 50, 3) := by decide +kernel
theorem dX9_apply_61 : decode cX9_apply 61 = .ok (.iload 6, 2) := by decide +kernel
theorem dX9_apply_63 : decode cX9_apply 63 = .ok (.invokestatic 76, 3) := by decide +kernel
theorem dX9_apply_66 : decode cX9_apply 66 = .ok (.istore 7, 2) := by decide +kernel
theorem dX9_apply_68 : decode cX9_apply 68 = .ok (.iload_n 1, 1) := by decide +kernel
theorem dX9_apply_69 : decode cX9_apply 69 = .ok (.tableswitch 290 0 3 #[31, 48, 121, 210], 31) := by decide +kernel
theorem dX9_apply_100 : decode cX9_apply 100 = .ok (.aload_n 0, 1) := by decide +kernel
theorem dX9_apply_101 : decode cX9_apply 101 = .ok (.ldc 173, 2) := by decide +kernel
theorem dX9_apply_103 : decode cX9_apply 103 = .ok (.invokevirtual 165, 3) := by decide +kernel
theorem dX9_apply_106 : decode cX9_apply 106 = .ok (.aload_n 0, 1) := by decide +kernel
theorem dX9_apply_107 : decode cX9_apply 107 = .ok (.iload_n 2, 1) := by decide +kernel
theorem dX9_apply_108 : decode cX9_apply 108 = .ok (.iconst 2, 1) := by decide +kernel
theorem dX9_apply_109 : decode cX9_apply 109 = .ok (.iadd, 1) := by decide +kernel
theorem dX9_apply_110 : decode cX9_apply 110 = .ok (.iload_n 3, 1) := by decide +kernel
theorem dX9_apply_111 : decode cX9_apply 111 = .ok (.invokevirtual 169, 3) := by decide +kernel
theorem dX9_apply_114 : decode cX9_apply 114 = .ok (.goto 255, 3) := by decide +kernel
theorem dX9_apply_117 : decode cX9_apply 117 = .ok (.aload_n 0, 1) := by decide +kernel
theorem dX9_apply_118 : decode cX9_apply 118 = .ok (.getfield 50, 3) := by decide +kernel
theorem dX9_apply_121 : decode cX9_apply 121 = .ok (.iload_n 2, 1) := by decide +kernel
theorem dX9_apply_122 : decode cX9_apply 122 = .ok (.iconst 2, 1) := by decide +kernel
theorem dX9_apply_123 : decode cX9_apply 123 = .ok (.iadd, 1) := by decide +kernel
theorem dX9_apply_124 : decode cX9_apply 124 = .ok (.invokestatic 76, 3) := by decide +kernel
theorem dX9_apply_127 : decode cX9_apply 127 = .ok (.istore 8, 2) := by decide +kernel
theorem dX9_apply_129 : decode cX9_apply 129 = .ok (.aload_n 0, 1) := by decide +kernel
theorem dX9_apply_130 : decode cX9_apply 130 = .ok (.sipush 1000, 3) := by decide +kernel
theorem dX9_apply_133 : decode cX9_apply 133 = .ok (.invokevirtual 165, 3) := by decide +kernel
theorem dX9_apply_136 : decode cX9_apply 136 = .ok (.aload_n 0, 1) := by decide +kernel
theorem dX9_apply_137 : decode cX9_apply 137 = .ok (.aload_n 0, 1) := by decide +kernel
theorem dX9_apply_138 : decode cX9_apply 138 = .ok (.getfield 50, 3) := by decide +kernel
theorem dX9_apply_141 : decode cX9_apply 141 = .ok (.iload_n 2, 1) := by decide +kernel
theorem dX9_apply_142 : decode cX9_apply 142 = .ok (.iaload, 1) := by decide +kernel
theorem dX9_apply_143 : decode cX9_apply 143 = .ok (.invokevirtual 165, 3) := by decide +kernel
theorem dX9_apply_146 : decode cX9_apply 146 = .ok (.aload_n 0, 1) := by decide +kernel
theorem dX9_apply_147 : decode cX9_apply 147 = .ok (.iload_n 2, 1) := by decide +kernel
theorem dX9_apply_148 : decode cX9_apply 148 = .ok (.iconst 2, 1) := by decide +kernel
theorem dX9_apply_149 : decode cX9_apply 149 = .ok (.iadd, 1) := by decide +kernel
theorem dX9_apply_150 : decode cX9_apply 150 = .ok (.iload 8, 2) := by decide +kernel
theorem dX9_apply_152 : decode cX9_apply 152 = .ok (.invokevirtual 169, 3) := by decide +kernel
theorem dX9_apply_155 : decode cX9_apply 155 = .ok (.aload_n 0, 1) := by decide +kernel
theorem dX9_apply_156 : decode cX9_apply 156 = .ok (.iload 7, 2) := by decide +kernel
theorem dX9_apply_158 : decode cX9_apply 158 = .ok (.iload_n 3, 1) := by decide +kernel
theorem dX9_apply_159 : decode cX9_apply 159 = .ok (.invokevirtual 169, 3) := by decide +kernel
theorem dX9_apply_162 : decode cX9_apply 162 = .ok (.aload_n 0, 1) := by decide +kernel
theorem dX9_apply_163 : decode cX9_apply 163 = .ok (.aload_n 0, 1) := by decide +kernel
theorem dX9_apply_164 : decode cX9_apply 164 = .ok (.getfield 50, 3) := by decide +kernel
theorem dX9_apply_167 : decode cX9_apply 167 = .ok (.iload_n 2, 1) := by decide +kernel
theorem dX9_apply_168 : decode cX9_apply 168 = .ok (.iaload, 1) := by decide +kernel
theorem dX9_apply_169 : decode cX9_apply 169 = .ok (.invokevirtual 165, 3) := by decide +kernel
theorem dX9_apply_172 : decode cX9_apply 172 = .ok (.aload_n 0, 1) := by decide +kernel
theorem dX9_apply_173 : decode cX9_apply 173 = .ok (.iload 8, 2) := by decide +kernel
theorem dX9_apply_175 : decode cX9_apply 175 = .ok (.iload 7, 2) := by decide +kernel
theorem dX9_apply_177 : decode cX9_apply 177 = .ok (.invokevirtual 169, 3) := by decide +kernel
theorem dX9_apply_180 : decode cX9_apply 180 = .ok (.aload_n 0, 1) := by decide +kernel
theorem dX9_apply_181 : decode cX9_apply 181 = .ok (.iload 7, 2) := by decide +kernel
theorem dX9_apply_183 : decode cX9_apply 183 = .ok (.iload_n 3, 1) := by decide +kernel
theorem dX9_apply_184 : decode cX9_apply 184 = .ok (.invokevirtual 169, 3) := by decide +kernel
theorem dX9_apply_187 : decode cX9_apply 187 = .ok (.goto 182, 3) := by decide +kernel
theorem dX9_apply_190 : decode cX9_apply 190 = .ok (.aload_n 0, 1) := by decide +kernel
theorem dX9_apply_191 : decode cX9_apply 191 = .ok (.sipush 1001, 3) := by decide +kernel
theorem dX9_apply_194 : decode cX9_apply 194 = .ok (.invokevirtual 165, 3) := by decide +kernel
theorem dX9_apply_197 : decode cX9_apply 197 = .ok (.aload_n 0, 1) := by decide +kernel
theorem dX9_apply_198 : decode cX9_apply 198 = .ok (.ldc 63, 2) := by decide +kernel
theorem dX9_apply_200 : decode cX9_apply 200 = .ok (.sipush 1000, 3) := by decide +kernel
theorem dX9_apply_203 : decode cX9_apply 203 = .ok (.iload 4, 2) := by decide +kernel
theorem dX9_apply_205 : decode cX9_apply 205 = .ok (.iconst 1, 1) := by decide +kernel
theorem dX9_apply_206 : decode cX9_apply 206 = .ok (.iadd, 1) := by decide +kernel
theorem dX9_apply_207 : decode cX9_apply 207 = .ok (.imul, 1) := by decide +kernel
theorem dX9_apply_208 : decode cX9_apply 208 = .ok (.iadd, 1) := by decide +kernel
theorem dX9_apply_209 : decode cX9_apply 209 = .ok (.iload 5, 2) := by decide +kernel
theorem dX9_apply_211 : decode cX9_apply 211 = .ok (.iadd, 1) := by decide +kernel
theorem dX9_apply_212 : decode cX9_apply 212 = .ok (.iconst 1, 1) := by decide +kernel
theorem dX9_apply_213 : decode cX9_apply 213 = .ok (.iadd, 1) := by decide +kernel
theorem dX9_apply_214 : decode cX9_apply 214 = .ok (.invokevirtual 165, 3) := by decide +kernel
theorem dX9_apply_217 : decode cX9_apply 217 = .ok (.aload_n 0, 1) := by decide +kernel
theorem dX9_apply_218 : decode cX9_apply 218 = .ok (.iload_n 2, 1) := by decide +kernel
theorem dX9_apply_219 : decode cX9_apply 219 = .ok (.iconst 2, 1) := by decide +kernel
theorem dX9_apply_220 : decode cX9_apply 220 = .ok (.iadd, 1) := by decide +kernel
theorem dX9_apply_221 : decode cX9_apply 221 = .ok (.iload 7, 2) := by decide +kernel
theorem dX9_apply_223 : decode cX9_apply 223 = .ok (.invokevirtual 169, 3) := by decide +kernel
theorem dX9_apply_226 : decode cX9_apply 226 = .ok (.aload_n 0, 1) := by decide +kernel
theorem dX9_apply_227 : decode cX9_apply 227 = .ok (.iconst 0, 1) := by decide +kernel
theorem dX9_apply_228 : decode cX9_apply 228 = .ok (.invokevirtual 165, 3) := by decide +kernel
theorem dX9_apply_231 : decode cX9_apply 231 = .ok (.iload 7, 2) := by decide +kernel
theorem dX9_apply_233 : decode cX9_apply 233 = .ok (.istore 9, 2) := by decide +kernel
theorem dX9_apply_235 : decode cX9_apply 235 = .ok (.iload 9, 2) := by decide +kernel
theorem dX9_apply_237 : decode cX9_apply 237 = .ok (.iload_n 3, 1) := by decide +kernel
theorem dX9_apply_238 : decode cX9_apply 238 = .ok (.if_icmp .ge 38, 3) := by decide +kernel
theorem dX9_apply_241 : decode cX9_apply 241 = .ok (.aload_n 0, 1) := by decide +kernel
theorem dX9_apply_242 : decode cX9_apply 242 = .ok (.ldc 174, 2) := by decide +kernel
theorem dX9_apply_244 : decode cX9_apply 244 = .ok (.invokevirtual 165, 3) := by decide +kernel
theorem dX9_apply_247 : decode cX9_apply 247 = .ok (.aload_n 0, 1) := by decide +kernel
theorem dX9_apply_248 : decode cX9_apply 248 = .ok (.iload 9, 2) := by decide +kernel
theorem dX9_apply_250 : decode cX9_apply 250 = .ok (.aload_n 0, 1) := by decide +kernel
theorem dX9_apply_251 : decode cX9_apply 251 = .ok (.getfield 50, 3) := by decide +kernel
theorem dX9_apply_254 : decode cX9_apply 254 = .ok (.iload 9, 2) := by decide +kernel
theorem dX9_apply_256 : decode cX9_apply 256 = .ok (.invokestatic 76, 3) := by decide +kernel
theorem dX9_apply_259 : decode cX9_apply 259 = .ok (.invokevirtual 169, 3) := by decide +kernel
theorem dX9_apply_262 : decode cX9_apply 262 = .ok (.aload_n 0, 1) := by decide +kernel
theorem dX9_apply_263 : decode cX9_apply 263 = .ok (.getfield 50, 3) := by decide +kernel
theorem dX9_apply_266 : decode cX9_apply 266 = .ok (.iload 9, 2) := by decide +kernel
theorem dX9_apply_268 : decode cX9_apply 268 = .ok (.invokestatic 76, 3) := by decide +kernel
theorem dX9_apply_271 : decode cX9_apply 271 = .ok (.istore 9, 2) := by decide +kernel
theorem dX9_apply_273 : decode cX9_apply 273 = .ok (.goto (-38), 3) := by decide +kernel
theorem dX9_apply_276 : decode cX9_apply 276 = .ok (.goto 93, 3) := by decide +kernel
theorem dX9_apply_279 : decode cX9_apply 279 = .ok (.aload_n 0, 1) := by decide +kernel
theorem dX9_apply_280 : decode cX9_apply 280 = .ok (.getfield 50, 3) := by decide +kernel
theorem dX9_apply_283 : decode cX9_apply 283 = .ok (.iload 6, 2) := by decide +kernel
theorem dX9_apply_285 : decode cX9_apply 285 = .ok (.iaload, 1) := by decide +kernel
theorem dX9_apply_286 : decode cX9_apply 286 = .ok (.istore 9, 2) := by decide +kernel
theorem dX9_apply_288 : decode cX9_apply 288 = .ok (.iload 9, 2) := by decide +kernel
theorem dX9_apply_290 : decode cX9_apply 290 = .ok (.iload 4, 2) := by decide +kernel
theorem dX9_apply_292 : decode cX9_apply 292 = .ok (.if_icmp .ge 52, 3) := by decide +kernel
theorem dX9_apply_295 : decode cX9_apply 295 = .ok (.iload 7, 2) := by decide +kernel
theorem dX9_apply_297 : decode cX9_apply 297 = .ok (.istore 10, 2) := by decide +kernel
theorem dX9_apply_299 : decode cX9_apply 299 = .ok (.iconst 0, 1) := by decide +kernel
theorem dX9_apply_300 : decode cX9_apply 300 = .ok (.istore 11, 2) := by decide +kernel
theorem dX9_apply_302 : decode cX9_apply 302 = .ok (.iload 11, 2) := by decide +kernel
theorem dX9_apply_304 : decode cX9_apply 304 = .ok (.iload 9, 2) := by decide +kernel
theorem dX9_apply_306 : decode cX9_apply 306 = .ok (.if_icmp .ge 20, 3) := by decide +kernel
theorem dX9_apply_309 : decode cX9_apply 309 = .ok (.aload_n 0, 1) := by decide +kernel
theorem dX9_apply_310 : decode cX9_apply 310 = .ok (.getfield 50, 3) := by decide +kernel
theorem dX9_apply_313 : decode cX9_apply 313 = .ok (.iload 10, 2) := by decide +kernel
theorem dX9_apply_315 : decode cX9_apply 315 = .ok (.invokestatic 76, 3) := by decide +kernel
theorem dX9_apply_318 : decode cX9_apply 318 = .ok (.istore 10, 2) := by decide +kernel
theorem dX9_apply_320 : decode cX9_apply 320 = .ok (.iinc 11 1, 3) := by decide +kernel
theorem dX9_apply_323 : decode cX9_apply 323 = .ok (.goto (-21), 3) := by decide +kernel
theorem dX9_apply_326 : decode cX9_apply 326 = .ok (.aload_n 0, 1) := by decide +kernel
theorem dX9_apply_327 : decode cX9_apply 327 = .ok (.iload 10, 2) := by decide +kernel
theorem dX9_apply_329 : decode cX9_apply 329 = .ok (.aload_n 0, 1) := by decide +kernel
theorem dX9_apply_330 : decode cX9_apply 330 = .ok (.getfield 50, 3) := by decide +kernel
theorem dX9_apply_333 : decode cX9_apply 333 = .ok (.iload 10, 2) := by decide +kernel
theorem dX9_apply_335 : decode cX9_apply 335 = .ok (.invokestatic 76, 3) := by decide +kernel
theorem dX9_apply_338 : decode cX9_apply 338 = .ok (.invokevirtual 169, 3) := by decide +kernel
theorem dX9_apply_341 : decode cX9_apply 341 = .ok (.goto 28, 3) := by decide +kernel
theorem dX9_apply_344 : decode cX9_apply 344 = .ok (.aload_n 0, 1) := by decide +kernel
theorem dX9_apply_345 : decode cX9_apply 345 = .ok (.iload 9, 2) := by decide +kernel
theorem dX9_apply_347 : decode cX9_apply 347 = .ok (.iload 4, 2) := by decide +kernel
theorem dX9_apply_349 : decode cX9_apply 349 = .ok (.isub, 1) := by decide +kernel
theorem dX9_apply_350 : decode cX9_apply 350 = .ok (.iload 5, 2) := by decide +kernel
theorem dX9_apply_352 : decode cX9_apply 352 = .ok (.iadd, 1) := by decide +kernel
theorem dX9_apply_353 : decode cX9_apply 353 = .ok (.invokevirtual 165, 3) := by decide +kernel
theorem dX9_apply_356 : decode cX9_apply 356 = .ok (.goto 13, 3) := by decide +kernel
theorem dX9_apply_359 : decode cX9_apply 359 = .ok (.aload_n 0, 1) := by decide +kernel
theorem dX9_apply_360 : decode cX9_apply 360 = .ok (.iload_n 2, 1) := by decide +kernel
theorem dX9_apply_361 : decode cX9_apply 361 = .ok (.iload 6, 2) := by decide +kernel
theorem dX9_apply_363 : decode cX9_apply 363 = .ok (.iload 7, 2) := by decide +kernel
theorem dX9_apply_365 : decode cX9_apply 365 = .ok (.iload_n 3, 1) := by decide +kernel
theorem dX9_apply_366 : decode cX9_apply 366 = .ok (.invokevirtual 175, 3) := by decide +kernel
theorem dX9_apply_369 : decode cX9_apply 369 = .ok (.aload_n 0, 1) := by decide +kernel
theorem dX9_apply_370 : decode cX9_apply 370 = .ok (.iload_n 3, 1) := by decide +kernel
theorem dX9_apply_371 : decode cX9_apply 371 = .ok (.aload_n 0, 1) := by decide +kernel
theorem dX9_apply_372 : decode cX9_apply 372 = .ok (.getfield 50, 3) := by decide +kernel
theorem dX9_apply_375 : decode cX9_apply 375 = .ok (.sipush 320, 3) := by decide +kernel
theorem dX9_apply_378 : decode cX9_apply 378 = .ok (.iaload, 1) := by decide +kernel
theorem dX9_apply_379 : decode cX9_apply 379 = .ok (.invokevirtual 169, 3) := by decide +kernel
theorem dX9_apply_382 : decode cX9_apply 382 = .ok (.return_, 1) := by decide +kernel
theorem dX9_merge_0 : decode cX9_merge 0 = .ok (.aload_n 0, 1) := by decide +kernel
theorem dX9_merge_1 : decode cX9_merge 1 = .ok (.getfield 50, 3) := by decide +kernel
theorem dX9_merge_4 : decode cX9_merge 4 = .ok (.iload_n 1, 1) := by decide +kernel
theorem dX9_merge_5 : decode cX9_merge 5 = .ok (.iaload, 1) := by decide +kernel
theorem dX9_merge_6 : decode cX9_merge 6 = .ok (.invokestatic 64, 3) := by decide +kernel
theorem dX9_merge_9 : decode cX9_merge 9 = .ok (.iconst 1, 1) := by decide +kernel
theorem dX9_merge_10 : decode cX9_merge 10 = .ok (.isub, 1) := by decide +kernel
theorem dX9_merge_11 : decode cX9_merge 11 = .ok (.istore 5, 2) := by decide +kernel
theorem dX9_merge_13 : decode cX9_merge 13 = .ok (.aload_n 0, 1) := by decide +kernel
theorem dX9_merge_14 : decode cX9_merge 14 = .ok (.getfield 50, 3) := by decide +kernel
theorem dX9_merge_17 : decode cX9_merge 17 = .ok (.iload_n 1, 1) := by decide +kernel
theorem dX9_merge_18 : decode cX9_merge 18 = .ok (.iaload, 1) := by decide +kernel
theorem dX9_merge_19 : decode cX9_merge 19 = .ok (.ldc 63, 2) := by decide +kernel
theorem dX9_merge_21 : decode cX9_merge 21 = .ok (.isub, 1) := by decide +kernel
theorem dX9_merge_22 : decode cX9_merge 22 = .ok (.sipush 1000, 3) := by decide +kernel
theorem dX9_merge_25 : decode cX9_merge 25 = .ok (.irem, 1) := by decide +kernel
theorem dX9_merge_26 : decode cX9_merge 26 = .ok (.istore 6, 2) := by decide +kernel
theorem dX9_merge_28 : decode cX9_merge 28 = .ok (.aload_n 0, 1) := by decide +kernel
theorem dX9_merge_29 : decode cX9_merge 29 = .ok (.getfield 50, 3) := by decide +kernel
theorem dX9_merge_32 : decode cX9_merge 32 = .ok (.iload_n 2, 1) := by decide +kernel
theorem dX9_merge_33 : decode cX9_merge 33 = .ok (.iaload, 1) := by decide +kernel
theorem dX9_merge_34 : decode cX9_merge 34 = .ok (.invokestatic 64, 3) := by decide +kernel
theorem dX9_merge_37 : decode cX9_merge 37 = .ok (.iconst 1, 1) := by decide +kernel
theorem dX9_merge_38 : decode cX9_merge 38 = .ok (.isub, 1) := by decide +kernel
theorem dX9_merge_39 : decode cX9_merge 39 = .ok (.istore 7, 2) := by decide +kernel
theorem dX9_merge_41 : decode cX9_merge 41 = .ok (.aload_n 0, 1) := by decide +kernel
theorem dX9_merge_42 : decode cX9_merge 42 = .ok (.getfield 50, 3) := by decide +kernel
theorem dX9_merge_45 : decode cX9_merge 45 = .ok (.iload_n 2, 1) := by decide +kernel
theorem dX9_merge_46 : decode cX9_merge 46 = .ok (.iaload, 1) := by decide +kernel
theorem dX9_merge_47 : decode cX9_merge 47 = .ok (.ldc 63, 2) := by decide +kernel
theorem dX9_merge_49 : decode cX9_merge 49 = .ok (.isub, 1) := by decide +kernel
theorem dX9_merge_50 : decode cX9_merge 50 = .ok (.sipush 1000, 3) := by decide +kernel
theorem dX9_merge_53 : decode cX9_merge 53 = .ok (.irem, 1) := by decide +kernel
theorem dX9_merge_54 : decode cX9_merge 54 = .ok (.istore 8, 2) := by decide +kernel
theorem dX9_merge_56 : decode cX9_merge 56 = .ok (.iload 8, 2) := by decide +kernel
theorem dX9_merge_58 : decode cX9_merge 58 = .ok (.iload 5, 2) := by decide +kernel
theorem dX9_merge_60 : decode cX9_merge 60 = .ok (.if_icmp .ge 14, 3) := by decide +kernel
theorem dX9_merge_63 : decode cX9_merge 63 = .ok (.iload 7, 2) := by decide +kernel
theorem dX9_merge_65 : decode cX9_merge 65 = .ok (.iload 5, 2) := by decide +kernel
theorem dX9_merge_67 : decode cX9_merge 67 = .ok (.iadd, 1) := by decide +kernel
theorem dX9_merge_68 : decode cX9_merge 68 = .ok (.iload 8, 2) := by decide +kernel
theorem dX9_merge_70 : decode cX9_merge 70 = .ok (.isub, 1) := by decide +kernel
theorem dX9_merge_71 : decode cX9_merge 71 = .ok (.goto 5, 3) := by decide +kernel
theorem dX9_merge_74 : decode cX9_merge 74 = .ok (.iload 7, 2) := by decide +kernel
theorem dX9_merge_76 : decode cX9_merge 76 = .ok (.istore 9, 2) := by decide +kernel
theorem dX9_merge_78 : decode cX9_merge 78 = .ok (.aload_n 0, 1) := by decide +kernel
theorem dX9_merge_79 : decode cX9_merge 79 = .ok (.ldc 63, 2) := by decide +kernel
theorem dX9_merge_81 : decode cX9_merge 81 = .ok (.sipush 1000, 3) := by decide +kernel
theorem dX9_merge_84 : decode cX9_merge 84 = .ok (.iload 9, 2) := by decide +kernel
theorem dX9_merge_86 : decode cX9_merge 86 = .ok (.imul, 1) := by decide +kernel
theorem dX9_merge_87 : decode cX9_merge 87 = .ok (.iadd, 1) := by decide +kernel
theorem dX9_merge_88 : decode cX9_merge 88 = .ok (.iload 8, 2) := by decide +kernel
theorem dX9_merge_90 : decode cX9_merge 90 = .ok (.iload 5, 2) := by decide +kernel
theorem dX9_merge_92 : decode cX9_merge 92 = .ok (.if_icmp .ge 8, 3) := by decide +kernel
theorem dX9_merge_95 : decode cX9_merge 95 = .ok (.iload 6, 2) := by decide +kernel
theorem dX9_merge_97 : decode cX9_merge 97 = .ok (.goto 11, 3) := by decide +kernel
theorem dX9_merge_100 : decode cX9_merge 100 = .ok (.iload 8, 2) := by decide +kernel
theorem dX9_merge_102 : decode cX9_merge 102 = .ok (.iload 5, 2) := by decide +kernel
theorem dX9_merge_104 : decode cX9_merge 104 = .ok (.isub, 1) := by decide +kernel
theorem dX9_merge_105 : decode cX9_merge 105 = .ok (.iload 6, 2) := by decide +kernel
theorem dX9_merge_107 : decode cX9_merge 107 = .ok (.iadd, 1) := by decide +kernel
theorem dX9_merge_108 : decode cX9_merge 108 = .ok (.iadd, 1) := by decide +kernel
theorem dX9_merge_109 : decode cX9_merge 109 = .ok (.invokevirtual 165, 3) := by decide +kernel
theorem dX9_merge_112 : decode cX9_merge 112 = .ok (.aload_n 0, 1) := by decide +kernel
theorem dX9_merge_113 : decode cX9_merge 113 = .ok (.getfield 50, 3) := by decide +kernel
theorem dX9_merge_116 : decode cX9_merge 116 = .ok (.iload_n 2, 1) := by decide +kernel
theorem dX9_merge_117 : decode cX9_merge 117 = .ok (.iconst 1, 1) := by decide +kernel
theorem dX9_merge_118 : decode cX9_merge 118 = .ok (.iadd, 1) := by decide +kernel
theorem dX9_merge_119 : decode cX9_merge 119 = .ok (.invokestatic 76, 3) := by decide +kernel
theorem dX9_merge_122 : decode cX9_merge 122 = .ok (.istore 10, 2) := by decide +kernel
theorem dX9_merge_124 : decode cX9_merge 124 = .ok (.aload_n 0, 1) := by decide +kernel
theorem dX9_merge_125 : decode cX9_merge 125 = .ok (.iload_n 2, 1) := by decide +kernel
theorem dX9_merge_126 : decode cX9_merge 126 = .ok (.iconst 1, 1) := by decide +kernel
theorem dX9_merge_127 : decode cX9_merge 127 = .ok (.iadd, 1) := by decide +kernel
theorem dX9_merge_128 : decode cX9_merge 128 = .ok (.iload 10, 2) := by decide +kernel
theorem dX9_merge_130 : decode cX9_merge 130 = .ok (.invokevirtual 169, 3) := by decide +kernel
theorem dX9_merge_133 : decode cX9_merge 133 = .ok (.iload 10, 2) := by decide +kernel
theorem dX9_merge_135 : decode cX9_merge 135 = .ok (.istore 11, 2) := by decide +kernel
theorem dX9_merge_137 : decode cX9_merge 137 = .ok (.iload 11, 2) := by decide +kernel
theorem dX9_merge_139 : decode cX9_merge 139 = .ok (.iload_n 3, 1) := by decide +kernel
theorem dX9_merge_140 : decode cX9_merge 140 = .ok (.if_icmp .ge 49, 3) := by decide +kernel
theorem dX9_merge_143 : decode cX9_merge 143 = .ok (.aload_n 0, 1) := by decide +kernel
theorem dX9_merge_144 : decode cX9_merge 144 = .ok (.aload_n 0, 1) := by decide +kernel
theorem dX9_merge_145 : decode cX9_merge 145 = .ok (.getfield 50, 3) := by decide +kernel
theorem dX9_merge_148 : decode cX9_merge 148 = .ok (.iload_n 1, 1) := by decide +kernel
theorem dX9_merge_149 : decode cX9_merge 149 = .ok (.iaload, 1) := by decide +kernel
theorem dX9_merge_150 : decode cX9_merge 150 = .ok (.invokevirtual 165, 3) := by decide +kernel
theorem dX9_merge_153 : decode cX9_merge 153 = .ok (.aload_n 0, 1) := by decide +kernel
theorem dX9_merge_154 : decode cX9_merge 154 = .ok (.iload 11, 2) := by decide +kernel
theorem dX9_merge_156 : decode cX9_merge 156 = .ok (.aload_n 0, 1) := by decide +kernel
theorem dX9_merge_157 : decode cX9_merge 157 = .ok (.getfield 50, 3) := by decide +kernel
theorem dX9_merge_160 : decode cX9_merge 160 = .ok (.iload 11, 2) := by decide +kernel
theorem dX9_merge_162 : decode cX9_merge 162 = .ok (.invokestatic 76, 3) := by decide +kernel
theorem dX9_merge_165 : decode cX9_merge 165 = .ok (.invokevirtual 169, 3) := by decide +kernel
theorem dX9_merge_168 : decode cX9_merge 168 = .ok (.aload_n 0, 1) := by decide +kernel
theorem dX9_merge_169 : decode cX9_merge 169 = .ok (.iload_n 3, 1) := by decide +kernel
theorem dX9_merge_170 : decode cX9_merge 170 = .ok (.iload 4, 2) := by decide +kernel
theorem dX9_merge_172 : decode cX9_merge 172 = .ok (.invokevirtual 169, 3) := by decide +kernel
theorem dX9_merge_175 : decode cX9_merge 175 = .ok (.aload_n 0, 1) := by decide +kernel
theorem dX9_merge_176 : decode cX9_merge 176 = .ok (.getfield 50, 3) := by decide +kernel
theorem dX9_merge_179 : decode cX9_merge 179 = .ok (.iload 11, 2) := by decide +kernel
theorem dX9_merge_181 : decode cX9_merge 181 = .ok (.invokestatic 76, 3) := by decide +kernel
theorem dX9_merge_184 : decode cX9_merge 184 = .ok (.istore 11, 2) := by decide +kernel
theorem dX9_merge_186 : decode cX9_merge 186 = .ok (.goto (-49), 3) := by decide +kernel
theorem dX9_merge_189 : decode cX9_merge 189 = .ok (.iload_n 3, 1) := by decide +kernel
theorem dX9_merge_190 : decode cX9_merge 190 = .ok (.istore 11, 2) := by decide +kernel
theorem dX9_merge_192 : decode cX9_merge 192 = .ok (.iconst 0, 1) := by decide +kernel
theorem dX9_merge_193 : decode cX9_merge 193 = .ok (.istore 12, 2) := by decide +kernel
theorem dX9_merge_195 : decode cX9_merge 195 = .ok (.iload 12, 2) := by decide +kernel
theorem dX9_merge_197 : decode cX9_merge 197 = .ok (.iload 8, 2) := by decide +kernel
theorem dX9_merge_199 : decode cX9_merge 199 = .ok (.if_icmp .ge 27, 3) := by decide +kernel
theorem dX9_merge_202 : decode cX9_merge 202 = .ok (.iload 11, 2) := by decide +kernel
theorem dX9_merge_204 : decode cX9_merge 204 = .ok (.iload 4, 2) := by decide +kernel
theorem dX9_merge_206 : decode cX9_merge 206 = .ok (.if_icmp .ge 20, 3) := by decide +kernel
theorem dX9_merge_209 : decode cX9_merge 209 = .ok (.aload_n 0, 1) := by decide +kernel
theorem dX9_merge_210 : decode cX9_merge 210 = .ok (.getfield 50, 3) := by decide +kernel
theorem dX9_merge_213 : decode cX9_merge 213 = .ok (.iload 11, 2) := by decide +kernel
theorem dX9_merge_215 : decode cX9_merge 215 = .ok (.invokestatic 76, 3) := by decide +kernel
theorem dX9_merge_218 : decode cX9_merge 218 = .ok (.istore 11, 2) := by decide +kernel
theorem dX9_merge_220 : decode cX9_merge 220 = .ok (.iinc 12 1, 3) := by decide +kernel
theorem dX9_merge_223 : decode cX9_merge 223 = .ok (.goto (-28), 3) := by decide +kernel
theorem dX9_merge_226 : decode cX9_merge 226 = .ok (.aload_n 0, 1) := by decide +kernel
theorem dX9_merge_227 : decode cX9_merge 227 = .ok (.iload 11, 2) := by decide +kernel
theorem dX9_merge_229 : decode cX9_merge 229 = .ok (.iload 4, 2) := by decide +kernel
theorem dX9_merge_231 : decode cX9_merge 231 = .ok (.invokevirtual 169, 3) := by decide +kernel
theorem dX9_merge_234 : decode cX9_merge 234 = .ok (.return_, 1) := by decide +kernel
theorem dX9_machine_0 : decode cX9_machine 0 = .ok (.iconst 0, 1) := by decide +kernel
theorem dX9_machine_1 : decode cX9_machine 1 = .ok (.istore_n 2, 1) := by decide +kernel
theorem dX9_machine_2 : decode cX9_machine 2 = .ok (.iload_n 2, 1) := by decide +kernel
theorem dX9_machine_3 : decode cX9_machine 3 = .ok (.iconst 5, 1) := by decide +kernel
theorem dX9_machine_4 : decode cX9_machine 4 = .ok (.if_icmp .ge 16, 3) := by decide +kernel
theorem dX9_machine_7 : decode cX9_machine 7 = .ok (.aload_n 0, 1) := by decide +kernel
theorem dX9_machine_8 : decode cX9_machine 8 = .ok (.getfield 56, 3) := by decide +kernel
theorem dX9_machine_11 : decode cX9_machine 11 = .ok (.iload_n 2, 1) := by decide +kernel
theorem dX9_machine_12 : decode cX9_machine 12 = .ok (.iconst 0, 1) := by decide +kernel
theorem dX9_machine_13 : decode cX9_machine 13 = .ok (.iastore, 1) := by decide +kernel
theorem dX9_machine_14 : decode cX9_machine 14 = .ok (.iinc 2 1, 3) := by decide +kernel
theorem dX9_machine_17 : decode cX9_machine 17 = .ok (.goto (-15), 3) := by decide +kernel
theorem dX9_machine_20 : decode cX9_machine 20 = .ok (.iconst 0, 1) := by decide +kernel
theorem dX9_machine_21 : decode cX9_machine 21 = .ok (.istore_n 2, 1) := by decide +kernel
theorem dX9_machine_22 : decode cX9_machine 22 = .ok (.iload_n 2, 1) := by decide +kernel
theorem dX9_machine_23 : decode cX9_machine 23 = .ok (.aload_n 0, 1) := by decide +kernel
theorem dX9_machine_24 : decode cX9_machine 24 = .ok (.getfield 13, 3) := by decide +kernel
theorem dX9_machine_27 : decode cX9_machine 27 = .ok (.sipush 200, 3) := by decide +kernel
theorem dX9_machine_30 : decode cX9_machine 30 = .ok (.iaload, 1) := by decide +kernel
theorem dX9_machine_31 : decode cX9_machine 31 = .ok (.if_icmp .ge 21, 3) := by decide +kernel
theorem dX9_machine_34 : decode cX9_machine 34 = .ok (.aload_n 0, 1) := by decide +kernel
theorem dX9_machine_35 : decode cX9_machine 35 = .ok (.getfield 50, 3) := by decide +kernel
theorem dX9_machine_38 : decode cX9_machine 38 = .ok (.iload_n 2, 1) := by decide +kernel
theorem dX9_machine_39 : decode cX9_machine 39 = .ok (.aload_n 0, 1) := by decide +kernel
theorem dX9_machine_40 : decode cX9_machine 40 = .ok (.getfield 13, 3) := by decide +kernel
theorem dX9_machine_43 : decode cX9_machine 43 = .ok (.iload_n 2, 1) := by decide +kernel
theorem dX9_machine_44 : decode cX9_machine 44 = .ok (.iaload, 1) := by decide +kernel
theorem dX9_machine_45 : decode cX9_machine 45 = .ok (.iastore, 1) := by decide +kernel
theorem dX9_machine_46 : decode cX9_machine 46 = .ok (.iinc 2 1, 3) := by decide +kernel
theorem dX9_machine_49 : decode cX9_machine 49 = .ok (.goto (-27), 3) := by decide +kernel
theorem dX9_machine_52 : decode cX9_machine 52 = .ok (.aload_n 0, 1) := by decide +kernel
theorem dX9_machine_53 : decode cX9_machine 53 = .ok (.getfield 50, 3) := by decide +kernel
theorem dX9_machine_56 : decode cX9_machine 56 = .ok (.sipush 320, 3) := by decide +kernel
theorem dX9_machine_59 : decode cX9_machine 59 = .ok (.aload_n 0, 1) := by decide +kernel
theorem dX9_machine_60 : decode cX9_machine 60 = .ok (.getfield 13, 3) := by decide +kernel
theorem dX9_machine_63 : decode cX9_machine 63 = .ok (.sipush 200, 3) := by decide +kernel
theorem dX9_machine_66 : decode cX9_machine 66 = .ok (.iaload, 1) := by decide +kernel
theorem dX9_machine_67 : decode cX9_machine 67 = .ok (.iastore, 1) := by decide +kernel
theorem dX9_machine_68 : decode cX9_machine 68 = .ok (.aload_n 0, 1) := by decide +kernel
theorem dX9_machine_69 : decode cX9_machine 69 = .ok (.aload_n 0, 1) := by decide +kernel
theorem dX9_machine_70 : decode cX9_machine 70 = .ok (.getfield 13, 3) := by decide +kernel
theorem dX9_machine_73 : decode cX9_machine 73 = .ok (.sipush 200, 3) := by decide +kernel
theorem dX9_machine_76 : decode cX9_machine 76 = .ok (.iaload, 1) := by decide +kernel
theorem dX9_machine_77 : decode cX9_machine 77 = .ok (.putfield 179, 3) := by decide +kernel
theorem dX9_machine_80 : decode cX9_machine 80 = .ok (.aload_n 0, 1) := by decide +kernel
theorem dX9_machine_81 : decode cX9_machine 81 = .ok (.iconst 0, 1) := by decide +kernel
theorem dX9_machine_82 : decode cX9_machine 82 = .ok (.putfield 161, 3) := by decide +kernel
theorem dX9_machine_85 : decode cX9_machine 85 = .ok (.iconst 0, 1) := by decide +kernel
theorem dX9_machine_86 : decode cX9_machine 86 = .ok (.istore_n 2, 1) := by decide +kernel
theorem dX9_machine_87 : decode cX9_machine 87 = .ok (.iload_n 2, 1) := by decide +kernel
theorem dX9_machine_88 : decode cX9_machine 88 = .ok (.sipush 601, 3) := by decide +kernel
theorem dX9_machine_91 : decode cX9_machine 91 = .ok (.if_icmp .ge 154, 3) := by decide +kernel
theorem dX9_machine_94 : decode cX9_machine 94 = .ok (.iconst 0, 1) := by decide +kernel
theorem dX9_machine_95 : decode cX9_machine 95 = .ok (.istore_n 3, 1) := by decide +kernel
theorem dX9_machine_96 : decode cX9_machine 96 = .ok (.iload_n 3, 1) := by decide +kernel
theorem dX9_machine_97 : decode cX9_machine 97 = .ok (.aload_n 0, 1) := by decide +kernel
theorem dX9_machine_98 : decode cX9_machine 98 = .ok (.getfield 50, 3) := by decide +kernel
theorem dX9_machine_101 : decode cX9_machine 101 = .ok (.sipush 320, 3) := by decide +kernel
theorem dX9_machine_104 : decode cX9_machine 104 = .ok (.iaload, 1) := by decide +kernel
theorem dX9_machine_105 : decode cX9_machine 105 = .ok (.if_icmp .ge 20, 3) := by decide +kernel
theorem dX9_machine_108 : decode cX9_machine 108 = .ok (.aload_n 0, 1) := by decide +kernel
theorem dX9_machine_109 : decode cX9_machine 109 = .ok (.iload_n 3, 1) := by decide +kernel
theorem dX9_machine_110 : decode cX9_machine 110 = .ok (.iload_n 1, 1) := by decide +kernel
theorem dX9_machine_111 : decode cX9_machine 111 = .ok (.invokevirtual 182, 3) := by decide +kernel
theorem dX9_machine_114 : decode cX9_machine 114 = .ok (.bipush (-9), 2) := by decide +kernel
theorem dX9_machine_116 : decode cX9_machine 116 = .ok (.if_icmp .ne 9, 3) := by decide +kernel
theorem dX9_machine_119 : decode cX9_machine 119 = .ok (.iinc 3 1, 3) := by decide +kernel
theorem dX9_machine_122 : decode cX9_machine 122 = .ok (.goto (-26), 3) := by decide +kernel
theorem dX9_machine_125 : decode cX9_machine 125 = .ok (.iload_n 3, 1) := by decide +kernel
theorem dX9_machine_126 : decode cX9_machine 126 = .ok (.aload_n 0, 1) := by decide +kernel
theorem dX9_machine_127 : decode cX9_machine 127 = .ok (.getfield 50, 3) := by decide +kernel
theorem dX9_machine_130 : decode cX9_machine 130 = .ok (.sipush 320, 3) := by decide +kernel
theorem dX9_machine_133 : decode cX9_machine 133 = .ok (.iaload, 1) := by decide +kernel
theorem dX9_machine_134 : decode cX9_machine 134 = .ok (.if_icmp .ne 5, 3) := by decide +kernel
theorem dX9_machine_137 : decode cX9_machine 137 = .ok (.iconst 1, 1) := by decide +kernel
theorem dX9_machine_138 : decode cX9_machine 138 = .ok (.ireturn, 1) := by decide +kernel
theorem dX9_machine_139 : decode cX9_machine 139 = .ok (.aload_n 0, 1) := by decide +kernel
theorem dX9_machine_140 : decode cX9_machine 140 = .ok (.iload_n 3, 1) := by decide +kernel
theorem dX9_machine_141 : decode cX9_machine 141 = .ok (.iload_n 1, 1) := by decide +kernel
theorem dX9_machine_142 : decode cX9_machine 142 = .ok (.invokevirtual 182, 3) := by decide +kernel
theorem dX9_machine_145 : decode cX9_machine 145 = .ok (.istore 4, 2) := by decide +kernel
theorem dX9_machine_147 : decode cX9_machine 147 = .ok (.aload_n 0, 1) := by decide +kernel
theorem dX9_machine_148 : decode cX9_machine 148 = .ok (.iload 4, 2) := by decide +kernel
theorem dX9_machine_150 : decode cX9_machine 150 = .ok (.iload_n 3, 1) := by decide +kernel
theorem dX9_machine_151 : decode cX9_machine 151 = .ok (.invokevirtual 186, 3) := by decide +kernel
theorem dX9_machine_154 : decode cX9_machine 154 = .ok (.aload_n 0, 1) := by decide +kernel
theorem dX9_machine_155 : decode cX9_machine 155 = .ok (.getfield 161, 3) := by decide +kernel
theorem dX9_machine_158 : decode cX9_machine 158 = .ok (.ifCond .eq 5, 3) := by decide +kernel
theorem dX9_machine_161 : decode cX9_machine 161 = .ok (.iconst 0, 1) := by decide +kernel
theorem dX9_machine_162 : decode cX9_machine 162 = .ok (.ireturn, 1) := by decide +kernel
theorem dX9_machine_163 : decode cX9_machine 163 = .ok (.aload_n 0, 1) := by decide +kernel
theorem dX9_machine_164 : decode cX9_machine 164 = .ok (.getfield 56, 3) := by decide +kernel
theorem dX9_machine_167 : decode cX9_machine 167 = .ok (.iload 4, 2) := by decide +kernel
theorem dX9_machine_169 : decode cX9_machine 169 = .ok (.dup2, 1) := by decide +kernel
theorem dX9_machine_170 : decode cX9_machine 170 = .ok (.iaload, 1) := by decide +kernel
theorem dX9_machine_171 : decode cX9_machine 171 = .ok (.iconst 1, 1) := by decide +kernel
theorem dX9_machine_172 : decode cX9_machine 172 = .ok (.iadd, 1) := by decide +kernel
theorem dX9_machine_173 : decode cX9_machine 173 = .ok (.iastore, 1) := by decide +kernel
theorem dX9_machine_174 : decode cX9_machine 174 = .ok (.iconst 0, 1) := by decide +kernel
theorem dX9_machine_175 : decode cX9_machine 175 = .ok (.istore 5, 2) := by decide +kernel
theorem dX9_machine_177 : decode cX9_machine 177 = .ok (.iload 5, 2) := by decide +kernel
theorem dX9_machine_179 : decode cX9_machine 179 = .ok (.sipush 321, 3) := by decide +kernel
theorem dX9_machine_182 : decode cX9_machine 182 = .ok (.if_icmp .ge 23, 3) := by decide +kernel
theorem dX9_machine_185 : decode cX9_machine 185 = .ok (.aload_n 0, 1) := by decide +kernel
theorem dX9_machine_186 : decode cX9_machine 186 = .ok (.getfield 50, 3) := by decide +kernel
theorem dX9_machine_189 : decode cX9_machine 189 = .ok (.iload 5, 2) := by decide +kernel
theorem dX9_machine_191 : decode cX9_machine 191 = .ok (.aload_n 0, 1) := by decide +kernel
theorem dX9_machine_192 : decode cX9_machine 192 = .ok (.getfield 53, 3) := by decide +kernel
theorem dX9_machine_195 : decode cX9_machine 195 = .ok (.iload 5, 2) := by decide +kernel
theorem dX9_machine_197 : decode cX9_machine 197 = .ok (.iaload, 1) := by decide +kernel
theorem dX9_machine_198 : decode cX9_machine 198 = .ok (.iastore, 1) := by decide +kernel
theorem dX9_machine_199 : decode cX9_machine 199 = .ok (.iinc 5 1, 3) := by decide +kernel
theorem dX9_machine_202 : decode cX9_machine 202 = .ok (.goto (-25), 3) := by decide +kernel
theorem dX9_machine_205 : decode cX9_machine 205 = .ok (.aload_n 0, 1) := by decide +kernel
theorem dX9_machine_206 : decode cX9_machine 206 = .ok (.aload_n 0, 1) := by decide +kernel
theorem dX9_machine_207 : decode cX9_machine 207 = .ok (.getfield 50, 3) := by decide +kernel
theorem dX9_machine_210 : decode cX9_machine 210 = .ok (.sipush 320, 3) := by decide +kernel
theorem dX9_machine_213 : decode cX9_machine 213 = .ok (.iaload, 1) := by decide +kernel
theorem dX9_machine_214 : decode cX9_machine 214 = .ok (.aload_n 0, 1) := by decide +kernel
theorem dX9_machine_215 : decode cX9_machine 215 = .ok (.getfield 179, 3) := by decide +kernel
theorem dX9_machine_218 : decode cX9_machine 218 = .ok (.if_icmp .le 14, 3) := by decide +kernel
theorem dX9_machine_221 : decode cX9_machine 221 = .ok (.aload_n 0, 1) := by decide +kernel
theorem dX9_machine_222 : decode cX9_machine 222 = .ok (.getfield 50, 3) := by decide +kernel
theorem dX9_machine_225 : decode cX9_machine 225 = .ok (.sipush 320, 3) := by decide +kernel
theorem dX9_machine_228 : decode cX9_machine 228 = .ok (.iaload, 1) := by decide +kernel
theorem dX9_machine_229 : decode cX9_machine 229 = .ok (.goto 7, 3) := by decide +kernel
theorem dX9_machine_232 : decode cX9_machine 232 = .ok (.aload_n 0, 1) := by decide +kernel
theorem dX9_machine_233 : decode cX9_machine 233 = .ok (.getfield 179, 3) := by decide +kernel
theorem dX9_machine_236 : decode cX9_machine 236 = .ok (.putfield 179, 3) := by decide +kernel
theorem dX9_machine_239 : decode cX9_machine 239 = .ok (.iinc 2 1, 3) := by decide +kernel
theorem dX9_machine_242 : decode cX9_machine 242 = .ok (.goto (-155), 3) := by decide +kernel
theorem dX9_machine_245 : decode cX9_machine 245 = .ok (.iconst 0, 1) := by decide +kernel
theorem dX9_machine_246 : decode cX9_machine 246 = .ok (.ireturn, 1) := by decide +kernel
theorem dX9_machineSteps_0 : decode cX9_machineSteps 0 = .ok (.aload_n 0, 1) := by decide +kernel
theorem dX9_machineSteps_1 : decode cX9_machineSteps 1 = .ok (.iconst 0, 1) := by decide +kernel
theorem dX9_machineSteps_2 : decode cX9_machineSteps 2 = .ok (.putfield 59, 3) := by decide +kernel
theorem dX9_machineSteps_5 : decode cX9_machineSteps 5 = .ok (.iload_n 1, 1) := by decide +kernel
theorem dX9_machineSteps_6 : decode cX9_machineSteps 6 = .ok (.i2l, 1) := by decide +kernel
theorem dX9_machineSteps_7 : decode cX9_machineSteps 7 = .ok (.lconst 0, 1) := by decide +kernel
theorem dX9_machineSteps_8 : decode cX9_machineSteps 8 = .ok (.ldc2_w 189, 3) := by decide +kernel
theorem dX9_machineSteps_11 : decode cX9_machineSteps 11 = .ok (.invokestatic 114, 3) := by decide +kernel
theorem dX9_machineSteps_14 : decode cX9_machineSteps 14 = .ok (.ifCond .eq 13, 3) := by decide +kernel
theorem dX9_machineSteps_17 : decode cX9_machineSteps 17 = .ok (.iload_n 2, 1) := by decide +kernel
theorem dX9_machineSteps_18 : decode cX9_machineSteps 18 = .ok (.i2l, 1) := by decide +kernel
theorem dX9_machineSteps_19 : decode cX9_machineSteps 19 = .ok (.lconst 0, 1) := by decide +kernel
theorem dX9_machineSteps_20 : decode cX9_machineSteps 20 = .ok (.lconst 1, 1) := by decide +kernel
theorem dX9_machineSteps_21 : decode cX9_machineSteps 21 = .ok (.invokestatic 114, 3) := by decide +kernel
theorem dX9_machineSteps_24 : decode cX9_machineSteps 24 = .ok (.ifCond .ne 6, 3) := by decide +kernel
theorem dX9_machineSteps_27 : decode cX9_machineSteps 27 = .ok (.bipush (-2), 2) := by decide +kernel
theorem dX9_machineSteps_29 : decode cX9_machineSteps 29 = .ok (.ireturn, 1) := by decide +kernel
theorem dX9_machineSteps_30 : decode cX9_machineSteps 30 = .ok (.aload_n 0, 1) := by decide +kernel
theorem dX9_machineSteps_31 : decode cX9_machineSteps 31 = .ok (.iload_n 2, 1) := by decide +kernel
theorem dX9_machineSteps_32 : decode cX9_machineSteps 32 = .ok (.iconst 1, 1) := by decide +kernel
theorem dX9_machineSteps_33 : decode cX9_machineSteps 33 = .ok (.if_icmp .ne 7, 3) := by decide +kernel
theorem dX9_machineSteps_36 : decode cX9_machineSteps 36 = .ok (.iconst 1, 1) := by decide +kernel
theorem dX9_machineSteps_37 : decode cX9_machineSteps 37 = .ok (.goto 4, 3) := by decide +kernel
theorem dX9_machineSteps_40 : decode cX9_machineSteps 40 = .ok (.iconst 0, 1) := by decide +kernel
theorem dX9_machineSteps_41 : decode cX9_machineSteps 41 = .ok (.invokevirtual 191, 3) := by decide +kernel
theorem dX9_machineSteps_44 : decode cX9_machineSteps 44 = .ok (.ifCond .eq 12, 3) := by decide +kernel
theorem dX9_machineSteps_47 : decode cX9_machineSteps 47 = .ok (.aload_n 0, 1) := by decide +kernel
theorem dX9_machineSteps_48 : decode cX9_machineSteps 48 = .ok (.getfield 56, 3) := by decide +kernel
theorem dX9_machineSteps_51 : decode cX9_machineSteps 51 = .ok (.iload_n 1, 1) := by decide +kernel
theorem dX9_machineSteps_52 : decode cX9_machineSteps 52 = .ok (.iaload, 1) := by decide +kernel
theorem dX9_machineSteps_53 : decode cX9_machineSteps 53 = .ok (.goto 5, 3) := by decide +kernel
theorem dX9_machineSteps_56 : decode cX9_machineSteps 56 = .ok (.bipush (-9), 2) := by decide +kernel
theorem dX9_machineSteps_58 : decode cX9_machineSteps 58 = .ok (.ireturn, 1) := by decide +kernel
theorem dX9_machinePeak_0 : decode cX9_machinePeak 0 = .ok (.aload_n 0, 1) := by decide +kernel
theorem dX9_machinePeak_1 : decode cX9_machinePeak 1 = .ok (.iconst 0, 1) := by decide +kernel
theorem dX9_machinePeak_2 : decode cX9_machinePeak 2 = .ok (.putfield 59, 3) := by decide +kernel
theorem dX9_machinePeak_5 : decode cX9_machinePeak 5 = .ok (.iload_n 1, 1) := by decide +kernel
theorem dX9_machinePeak_6 : decode cX9_machinePeak 6 = .ok (.i2l, 1) := by decide +kernel
theorem dX9_machinePeak_7 : decode cX9_machinePeak 7 = .ok (.lconst 0, 1) := by decide +kernel
theorem dX9_machinePeak_8 : decode cX9_machinePeak 8 = .ok (.lconst 1, 1) := by decide +kernel
theorem dX9_machinePeak_9 : decode cX9_machinePeak 9 = .ok (.invokestatic 114, 3) := by decide +kernel
theorem dX9_machinePeak_12 : decode cX9_machinePeak 12 = .ok (.ifCond .ne 6, 3) := by decide +kernel
theorem dX9_machinePeak_15 : decode cX9_machinePeak 15 = .ok (.bipush (-2), 2) := by decide +kernel
theorem dX9_machinePeak_17 : decode cX9_machinePeak 17 = .ok (.ireturn, 1) := by decide +kernel
theorem dX9_machinePeak_18 : decode cX9_machinePeak 18 = .ok (.aload_n 0, 1) := by decide +kernel
theorem dX9_machinePeak_19 : decode cX9_machinePeak 19 = .ok (.iload_n 1, 1) := by decide +kernel
theorem dX9_machinePeak_20 : decode cX9_machinePeak 20 = .ok (.iconst 1, 1) := by decide +kernel
theorem dX9_machinePeak_21 : decode cX9_machinePeak 21 = .ok (.if_icmp .ne 7, 3) := by decide +kernel
theorem dX9_machinePeak_24 : decode cX9_machinePeak 24 = .ok (.iconst 1, 1) := by decide +kernel
theorem dX9_machinePeak_25 : decode cX9_machinePeak 25 = .ok (.goto 4, 3) := by decide +kernel
theorem dX9_machinePeak_28 : decode cX9_machinePeak 28 = .ok (.iconst 0, 1) := by decide +kernel
theorem dX9_machinePeak_29 : decode cX9_machinePeak 29 = .ok (.invokevirtual 191, 3) := by decide +kernel
theorem dX9_machinePeak_32 : decode cX9_machinePeak 32 = .ok (.ifCond .eq 10, 3) := by decide +kernel
theorem dX9_machinePeak_35 : decode cX9_machinePeak 35 = .ok (.aload_n 0, 1) := by decide +kernel
theorem dX9_machinePeak_36 : decode cX9_machinePeak 36 = .ok (.getfield 179, 3) := by decide +kernel
theorem dX9_machinePeak_39 : decode cX9_machinePeak 39 = .ok (.goto 5, 3) := by decide +kernel
theorem dX9_machinePeak_42 : decode cX9_machinePeak 42 = .ok (.bipush (-9), 2) := by decide +kernel
theorem dX9_machinePeak_44 : decode cX9_machinePeak 44 = .ok (.ireturn, 1) := by decide +kernel
theorem dX9_command_0 : decode cX9_command 0 = .ok (.bipush 10, 2) := by decide +kernel
theorem dX9_command_2 : decode cX9_command 2 = .ok (.iload_n 2, 1) := by decide +kernel
theorem dX9_command_3 : decode cX9_command 3 = .ok (.imul, 1) := by decide +kernel
theorem dX9_command_4 : decode cX9_command 4 = .ok (.iload_n 3, 1) := by decide +kernel
theorem dX9_command_5 : decode cX9_command 5 = .ok (.iadd, 1) := by decide +kernel
theorem dX9_command_6 : decode cX9_command 6 = .ok (.istore 4, 2) := by decide +kernel
theorem dX9_command_8 : decode cX9_command 8 = .ok (.iload_n 1, 1) := by decide +kernel
theorem dX9_command_9 : decode cX9_command 9 = .ok (.tableswitch 224 1 5 #[35, 105, 124, 142, 179], 35) := by decide +kernel
theorem dX9_command_44 : decode cX9_command 44 = .ok (.iload_n 2, 1) := by decide +kernel
theorem dX9_command_45 : decode cX9_command 45 = .ok (.ifCond .ne 19, 3) := by decide +kernel
theorem dX9_command_48 : decode cX9_command 48 = .ok (.iload_n 3, 1) := by decide +kernel
theorem dX9_command_49 : decode cX9_command 49 = .ok (.iconst 4, 1) := by decide +kernel
theorem dX9_command_50 : decode cX9_command 50 = .ok (.if_icmp .ge 14, 3) := by decide +kernel
theorem dX9_command_53 : decode cX9_command 53 = .ok (.aload_n 0, 1) := by decide +kernel
theorem dX9_command_54 : decode cX9_command 54 = .ok (.getfield 16, 3) := by decide +kernel
theorem dX9_command_57 : decode cX9_command 57 = .ok (.iload_n 3, 1) := by decide +kernel
theorem dX9_command_58 : decode cX9_command 58 = .ok (.invokestatic 94, 3) := by decide +kernel
theorem dX9_command_61 : decode cX9_command 61 = .ok (.goto 5, 3) := by decide +kernel
theorem dX9_command_64 : decode cX9_command 64 = .ok (.bipush (-9), 2) := by decide +kernel
theorem dX9_command_66 : decode cX9_command 66 = .ok (.istore 5, 2) := by decide +kernel
theorem dX9_command_68 : decode cX9_command 68 = .ok (.iload 5, 2) := by decide +kernel
theorem dX9_command_70 : decode cX9_command 70 = .ok (.bipush (-9), 2) := by decide +kernel
theorem dX9_command_72 : decode cX9_command 72 = .ok (.if_icmp .eq 20, 3) := by decide +kernel
theorem dX9_command_75 : decode cX9_command 75 = .ok (.aload_n 0, 1) := by decide +kernel
theorem dX9_command_76 : decode cX9_command 76 = .ok (.aload_n 0, 1) := by decide +kernel
theorem dX9_command_77 : decode cX9_command 77 = .ok (.getfield 16, 3) := by decide +kernel
theorem dX9_command_80 : decode cX9_command 80 = .ok (.iload 5, 2) := by decide +kernel
theorem dX9_command_82 : decode cX9_command 82 = .ok (.invokevirtual 97, 3) := by decide +kernel
theorem dX9_command_85 : decode cX9_command 85 = .ok (.ifCond .eq 7, 3) := by decide +kernel
theorem dX9_command_88 : decode cX9_command 88 = .ok (.iconst 1, 1) := by decide +kernel
theorem dX9_command_89 : decode cX9_command 89 = .ok (.goto 4, 3) := by decide +kernel
theorem dX9_command_92 : decode cX9_command 92 = .ok (.iconst 0, 1) := by decide +kernel
theorem dX9_command_93 : decode cX9_command 93 = .ok (.istore 6, 2) := by decide +kernel
theorem dX9_command_95 : decode cX9_command 95 = .ok (.iload 6, 2) := by decide +kernel
theorem dX9_command_97 : decode cX9_command 97 = .ok (.ifCond .eq 14, 3) := by decide +kernel
theorem dX9_command_100 : decode cX9_command 100 = .ok (.aload_n 0, 1) := by decide +kernel
theorem dX9_command_101 : decode cX9_command 101 = .ok (.getfield 22, 3) := by decide +kernel
theorem dX9_command_104 : decode cX9_command 104 = .ok (.aload_n 0, 1) := by decide +kernel
theorem dX9_command_105 : decode cX9_command 105 = .ok (.getfield 16, 3) := by decide +kernel
theorem dX9_command_108 : decode cX9_command 108 = .ok (.invokestatic 100, 3) := by decide +kernel
theorem dX9_command_111 : decode cX9_command 111 = .ok (.iload 6, 2) := by decide +kernel
theorem dX9_command_113 : decode cX9_command 113 = .ok (.ireturn, 1) := by decide +kernel
theorem dX9_command_114 : decode cX9_command 114 = .ok (.aload_n 0, 1) := by decide +kernel
theorem dX9_command_115 : decode cX9_command 115 = .ok (.getfield 16, 3) := by decide +kernel
theorem dX9_command_118 : decode cX9_command 118 = .ok (.sipush 200, 3) := by decide +kernel
theorem dX9_command_121 : decode cX9_command 121 = .ok (.iaload, 1) := by decide +kernel
theorem dX9_command_122 : decode cX9_command 122 = .ok (.iload 4, 2) := by decide +kernel
theorem dX9_command_124 : decode cX9_command 124 = .ok (.if_icmp .ne 7, 3) := by decide +kernel
theorem dX9_command_127 : decode cX9_command 127 = .ok (.iconst 1, 1) := by decide +kernel
theorem dX9_command_128 : decode cX9_command 128 = .ok (.goto 4, 3) := by decide +kernel
theorem dX9_command_131 : decode cX9_command 131 = .ok (.iconst 0, 1) := by decide +kernel
theorem dX9_command_132 : decode cX9_command 132 = .ok (.ireturn, 1) := by decide +kernel
theorem dX9_command_133 : decode cX9_command 133 = .ok (.aload_n 0, 1) := by decide +kernel
theorem dX9_command_134 : decode cX9_command 134 = .ok (.getfield 16, 3) := by decide +kernel
theorem dX9_command_137 : decode cX9_command 137 = .ok (.invokestatic 108, 3) := by decide +kernel
theorem dX9_command_140 : decode cX9_command 140 = .ok (.iload 4, 2) := by decide +kernel
theorem dX9_command_142 : decode cX9_command 142 = .ok (.if_icmp .ne 7, 3) := by decide +kernel
theorem dX9_command_145 : decode cX9_command 145 = .ok (.iconst 1, 1) := by decide +kernel
theorem dX9_command_146 : decode cX9_command 146 = .ok (.goto 4, 3) := by decide +kernel
theorem dX9_command_149 : decode cX9_command 149 = .ok (.iconst 0, 1) := by decide +kernel
theorem dX9_command_150 : decode cX9_command 150 = .ok (.ireturn, 1) := by decide +kernel
theorem dX9_command_151 : decode cX9_command 151 = .ok (.aload_n 0, 1) := by decide +kernel
theorem dX9_command_152 : decode cX9_command 152 = .ok (.getfield 16, 3) := by decide +kernel
theorem dX9_command_155 : decode cX9_command 155 = .ok (.aload_n 0, 1) := by decide +kernel
theorem dX9_command_156 : decode cX9_command 156 = .ok (.getfield 19, 3) := by decide +kernel
theorem dX9_command_159 : decode cX9_command 159 = .ok (.invokestatic 100, 3) := by decide +kernel
theorem dX9_command_162 : decode cX9_command 162 = .ok (.iload_n 2, 1) := by decide +kernel
theorem dX9_command_163 : decode cX9_command 163 = .ok (.iconst 4, 1) := by decide +kernel
theorem dX9_command_164 : decode cX9_command 164 = .ok (.if_icmp .ge 22, 3) := by decide +kernel
theorem dX9_command_167 : decode cX9_command 167 = .ok (.aload_n 0, 1) := by decide +kernel
theorem dX9_command_168 : decode cX9_command 168 = .ok (.aload_n 0, 1) := by decide +kernel
theorem dX9_command_169 : decode cX9_command 169 = .ok (.getfield 19, 3) := by decide +kernel
theorem dX9_command_172 : decode cX9_command 172 = .ok (.iload_n 2, 1) := by decide +kernel
theorem dX9_command_173 : decode cX9_command 173 = .ok (.bipush 9, 2) := by decide +kernel
theorem dX9_command_175 : decode cX9_command 175 = .ok (.invokevirtual 104, 3) := by decide +kernel
theorem dX9_command_178 : decode cX9_command 178 = .ok (.iload_n 3, 1) := by decide +kernel
theorem dX9_command_179 : decode cX9_command 179 = .ok (.if_icmp .ne 7, 3) := by decide +kernel
theorem dX9_command_182 : decode cX9_command 182 = .ok (.iconst 1, 1) := by decide +kernel
theorem dX9_command_183 : decode cX9_command 183 = .ok (.goto 4, 3) := by decide +kernel
theorem dX9_command_186 : decode cX9_command 186 = .ok (.iconst 0, 1) := by decide +kernel
theorem dX9_command_187 : decode cX9_command 187 = .ok (.ireturn, 1) := by decide +kernel
theorem dX9_command_188 : decode cX9_command 188 = .ok (.iload 4, 2) := by decide +kernel
theorem dX9_command_190 : decode cX9_command 190 = .ok (.ifCond .ne 21, 3) := by decide +kernel
theorem dX9_command_193 : decode cX9_command 193 = .ok (.aload_n 0, 1) := by decide +kernel
theorem dX9_command_194 : decode cX9_command 194 = .ok (.sipush 1001, 3) := by decide +kernel
theorem dX9_command_197 : decode cX9_command 197 = .ok (.aload_n 0, 1) := by decide +kernel
theorem dX9_command_198 : decode cX9_command 198 = .ok (.getfield 16, 3) := by decide +kernel
theorem dX9_command_201 : decode cX9_command 201 = .ok (.invokevirtual 145, 3) := by decide +kernel
theorem dX9_command_204 : decode cX9_command 204 = .ok (.ifCond .eq 7, 3) := by decide +kernel
theorem dX9_command_207 : decode cX9_command 207 = .ok (.iconst 1, 1) := by decide +kernel
theorem dX9_command_208 : decode cX9_command 208 = .ok (.goto 4, 3) := by decide +kernel
theorem dX9_command_211 : decode cX9_command 211 = .ok (.iconst 0, 1) := by decide +kernel
theorem dX9_command_212 : decode cX9_command 212 = .ok (.istore 7, 2) := by decide +kernel
theorem dX9_command_214 : decode cX9_command 214 = .ok (.iload 7, 2) := by decide +kernel
theorem dX9_command_216 : decode cX9_command 216 = .ok (.ifCond .eq 14, 3) := by decide +kernel
theorem dX9_command_219 : decode cX9_command 219 = .ok (.aload_n 0, 1) := by decide +kernel
theorem dX9_command_220 : decode cX9_command 220 = .ok (.getfield 22, 3) := by decide +kernel
theorem dX9_command_223 : decode cX9_command 223 = .ok (.aload_n 0, 1) := by decide +kernel
theorem dX9_command_224 : decode cX9_command 224 = .ok (.getfield 16, 3) := by decide +kernel
theorem dX9_command_227 : decode cX9_command 227 = .ok (.invokestatic 100, 3) := by decide +kernel
theorem dX9_command_230 : decode cX9_command 230 = .ok (.iload 7, 2) := by decide +kernel
theorem dX9_command_232 : decode cX9_command 232 = .ok (.ireturn, 1) := by decide +kernel
theorem dX9_command_233 : decode cX9_command 233 = .ok (.iconst 0, 1) := by decide +kernel
theorem dX9_command_234 : decode cX9_command 234 = .ok (.ireturn, 1) := by decide +kernel
theorem dX9_thousands_0 : decode cX9_thousands 0 = .ok (.lconst 1, 1) := by decide +kernel
theorem dX9_thousands_1 : decode cX9_thousands 1 = .ok (.lstore_n 1, 1) := by decide +kernel
theorem dX9_thousands_2 : decode cX9_thousands 2 = .ok (.iconst 0, 1) := by decide +kernel
theorem dX9_thousands_3 : decode cX9_thousands 3 = .ok (.istore_n 3, 1) := by decide +kernel
theorem dX9_thousands_4 : decode cX9_thousands 4 = .ok (.iload_n 3, 1) := by decide +kernel
theorem dX9_thousands_5 : decode cX9_thousands 5 = .ok (.iload_n 0, 1) := by decide +kernel
theorem dX9_thousands_6 : decode cX9_thousands 6 = .ok (.if_icmp .ge 15, 3) := by decide +kernel
theorem dX9_thousands_9 : decode cX9_thousands 9 = .ok (.lload_n 1, 1) := by decide +kernel
theorem dX9_thousands_10 : decode cX9_thousands 10 = .ok (.ldc2_w 195, 3) := by decide +kernel
theorem dX9_thousands_13 : decode cX9_thousands 13 = .ok (.lmul, 1) := by decide +kernel
theorem dX9_thousands_14 : decode cX9_thousands 14 = .ok (.lstore_n 1, 1) := by decide +kernel
theorem dX9_thousands_15 : decode cX9_thousands 15 = .ok (.iinc 3 1, 3) := by decide +kernel
theorem dX9_thousands_18 : decode cX9_thousands 18 = .ok (.goto (-14), 3) := by decide +kernel
theorem dX9_thousands_21 : decode cX9_thousands 21 = .ok (.lload_n 1, 1) := by decide +kernel
theorem dX9_thousands_22 : decode cX9_thousands 22 = .ok (.lreturn, 1) := by decide +kernel
theorem dX9_runScript_0 : decode cX9_runScript 0 = .ok (.aload_n 0, 1) := by decide +kernel
theorem dX9_runScript_1 : decode cX9_runScript 1 = .ok (.iconst 0, 1) := by decide +kernel
theorem dX9_runScript_2 : decode cX9_runScript 2 = .ok (.putfield 59, 3) := by decide +kernel
theorem dX9_runScript_5 : decode cX9_runScript 5 = .ok (.iload_n 1, 1) := by decide +kernel
theorem dX9_runScript_6 : decode cX9_runScript 6 = .ok (.i2l, 1) := by decide +kernel
theorem dX9_runScript_7 : decode cX9_runScript 7 = .ok (.lconst 1, 1) := by decide +kernel
theorem dX9_runScript_8 : decode cX9_runScript 8 = .ok (.ldc2_w 189, 3) := by decide +kernel
theorem dX9_runScript_11 : decode cX9_runScript 11 = .ok (.invokestatic 114, 3) := by decide +kernel
theorem dX9_runScript_14 : decode cX9_runScript 14 = .ok (.ifCond .eq 17, 3) := by decide +kernel
theorem dX9_runScript_17 : decode cX9_runScript 17 = .ok (.lload_n 2, 1) := by decide +kernel
theorem dX9_runScript_18 : decode cX9_runScript 18 = .ok (.lconst 0, 1) := by decide +kernel
theorem dX9_runScript_19 : decode cX9_runScript 19 = .ok (.iload_n 1, 1) := by decide +kernel
theorem dX9_runScript_20 : decode cX9_runScript 20 = .ok (.invokestatic 197, 3) := by decide +kernel
theorem dX9_runScript_23 : decode cX9_runScript 23 = .ok (.lconst 1, 1) := by decide +kernel
theorem dX9_runScript_24 : decode cX9_runScript 24 = .ok (.lsub, 1) := by decide +kernel
theorem dX9_runScript_25 : decode cX9_runScript 25 = .ok (.invokestatic 114, 3) := by decide +kernel
theorem dX9_runScript_28 : decode cX9_runScript 28 = .ok (.ifCond .ne 6, 3) := by decide +kernel
theorem dX9_runScript_31 : decode cX9_runScript 31 = .ok (.bipush (-2), 2) := by decide +kernel
theorem dX9_runScript_33 : decode cX9_runScript 33 = .ok (.ireturn, 1) := by decide +kernel
theorem dX9_runScript_34 : decode cX9_runScript 34 = .ok (.aload_n 0, 1) := by decide +kernel
theorem dX9_runScript_35 : decode cX9_runScript 35 = .ok (.getfield 13, 3) := by decide +kernel
theorem dX9_runScript_38 : decode cX9_runScript 38 = .ok (.aload_n 0, 1) := by decide +kernel
theorem dX9_runScript_39 : decode cX9_runScript 39 = .ok (.getfield 16, 3) := by decide +kernel
theorem dX9_runScript_42 : decode cX9_runScript 42 = .ok (.invokestatic 100, 3) := by decide +kernel
theorem dX9_runScript_45 : decode cX9_runScript 45 = .ok (.iconst 0, 1) := by decide +kernel
theorem dX9_runScript_46 : decode cX9_runScript 46 = .ok (.istore 4, 2) := by decide +kernel
theorem dX9_runScript_48 : decode cX9_runScript 48 = .ok (.iload 4, 2) := by decide +kernel
theorem dX9_runScript_50 : decode cX9_runScript 50 = .ok (.iload_n 1, 1) := by decide +kernel
theorem dX9_runScript_51 : decode cX9_runScript 51 = .ok (.if_icmp .ge 55, 3) := by decide +kernel
theorem dX9_runScript_54 : decode cX9_runScript 54 = .ok (.lload_n 2, 1) := by decide +kernel
theorem dX9_runScript_55 : decode cX9_runScript 55 = .ok (.iload_n 1, 1) := by decide +kernel
theorem dX9_runScript_56 : decode cX9_runScript 56 = .ok (.iconst 1, 1) := by decide +kernel
theorem dX9_runScript_57 : decode cX9_runScript 57 = .ok (.isub, 1) := by decide +kernel
theorem dX9_runScript_58 : decode cX9_runScript 58 = .ok (.iload 4, 2) := by decide +kernel
theorem dX9_runScript_60 : decode cX9_runScript 60 = .ok (.isub, 1) := by decide +kernel
theorem dX9_runScript_61 : decode cX9_runScript 61 = .ok (.invokestatic 197, 3) := by decide +kernel
theorem dX9_runScript_64 : decode cX9_runScript 64 = .ok (.ldiv, 1) := by decide +kernel
theorem dX9_runScript_65 : decode cX9_runScript 65 = .ok (.ldc2_w 195, 3) := by decide +kernel
theorem dX9_runScript_68 : decode cX9_runScript 68 = .ok (.lrem, 1) := by decide +kernel
theorem dX9_runScript_69 : decode cX9_runScript 69 = .ok (.l2i, 1) := by decide +kernel
theorem dX9_runScript_70 : decode cX9_runScript 70 = .ok (.istore 5, 2) := by decide +kernel
theorem dX9_runScript_72 : decode cX9_runScript 72 = .ok (.aload_n 0, 1) := by decide +kernel
theorem dX9_runScript_73 : decode cX9_runScript 73 = .ok (.iload 5, 2) := by decide +kernel
theorem dX9_runScript_75 : decode cX9_runScript 75 = .ok (.bipush 100, 2) := by decide +kernel
theorem dX9_runScript_77 : decode cX9_runScript 77 = .ok (.idiv, 1) := by decide +kernel
theorem dX9_runScript_78 : decode cX9_runScript 78 = .ok (.iload 5, 2) := by decide +kernel
theorem dX9_runScript_80 : decode cX9_runScript 80 = .ok (.bipush 10, 2) := by decide +kernel
theorem dX9_runScript_82 : decode cX9_runScript 82 = .ok (.idiv, 1) := by decide +kernel
theorem dX9_runScript_83 : decode cX9_runScript 83 = .ok (.bipush 10, 2) := by decide +kernel
theorem dX9_runScript_85 : decode cX9_runScript 85 = .ok (.irem, 1) := by decide +kernel
theorem dX9_runScript_86 : decode cX9_runScript 86 = .ok (.iload 5, 2) := by decide +kernel
theorem dX9_runScript_88 : decode cX9_runScript 88 = .ok (.bipush 10, 2) := by decide +kernel
theorem dX9_runScript_90 : decode cX9_runScript 90 = .ok (.irem, 1) := by decide +kernel
theorem dX9_runScript_91 : decode cX9_runScript 91 = .ok (.invokevirtual 201, 3) := by decide +kernel
theorem dX9_runScript_94 : decode cX9_runScript 94 = .ok (.ifCond .ne 6, 3) := by decide +kernel
theorem dX9_runScript_97 : decode cX9_runScript 97 = .ok (.iload 4, 2) := by decide +kernel
theorem dX9_runScript_99 : decode cX9_runScript 99 = .ok (.ireturn, 1) := by decide +kernel
theorem dX9_runScript_100 : decode cX9_runScript 100 = .ok (.iinc 4 1, 3) := by decide +kernel
theorem dX9_runScript_103 : decode cX9_runScript 103 = .ok (.goto (-55), 3) := by decide +kernel
theorem dX9_runScript_106 : decode cX9_runScript 106 = .ok (.bipush (-9), 2) := by decide +kernel
theorem dX9_runScript_108 : decode cX9_runScript 108 = .ok (.ireturn, 1) := by decide +kernel
theorem dX9_observe_0 : decode cX9_observe 0 = .ok (.aload_n 0, 1) := by decide +kernel
theorem dX9_observe_1 : decode cX9_observe 1 = .ok (.iconst 0, 1) := by decide +kernel
theorem dX9_observe_2 : decode cX9_observe 2 = .ok (.putfield 59, 3) := by decide +kernel
theorem dX9_observe_5 : decode cX9_observe 5 = .ok (.iload_n 1, 1) := by decide +kernel
theorem dX9_observe_6 : decode cX9_observe 6 = .ok (.i2l, 1) := by decide +kernel
theorem dX9_observe_7 : decode cX9_observe 7 = .ok (.lconst 0, 1) := by decide +kernel
theorem dX9_observe_8 : decode cX9_observe 8 = .ok (.ldc2_w 143, 3) := by decide +kernel
theorem dX9_observe_11 : decode cX9_observe 11 = .ok (.invokestatic 114, 3) := by decide +kernel
theorem dX9_observe_14 : decode cX9_observe 14 = .ok (.ifCond .eq 15, 3) := by decide +kernel
theorem dX9_observe_17 : decode cX9_observe 17 = .ok (.iload_n 2, 1) := by decide +kernel
theorem dX9_observe_18 : decode cX9_observe 18 = .ok (.i2l, 1) := by decide +kernel
theorem dX9_observe_19 : decode cX9_observe 19 = .ok (.lconst 1, 1) := by decide +kernel
theorem dX9_observe_20 : decode cX9_observe 20 = .ok (.ldc2_w 155, 3) := by decide +kernel
theorem dX9_observe_23 : decode cX9_observe 23 = .ok (.invokestatic 114, 3) := by decide +kernel
theorem dX9_observe_26 : decode cX9_observe 26 = .ok (.ifCond .ne 6, 3) := by decide +kernel
theorem dX9_observe_29 : decode cX9_observe 29 = .ok (.bipush (-2), 2) := by decide +kernel
theorem dX9_observe_31 : decode cX9_observe 31 = .ok (.ireturn, 1) := by decide +kernel
theorem dX9_observe_32 : decode cX9_observe 32 = .ok (.aload_n 0, 1) := by decide +kernel
theorem dX9_observe_33 : decode cX9_observe 33 = .ok (.getfield 205, 3) := by decide +kernel
theorem dX9_observe_36 : decode cX9_observe 36 = .ok (.bipush 6, 2) := by decide +kernel
theorem dX9_observe_38 : decode cX9_observe 38 = .ok (.if_icmp .ne 54, 3) := by decide +kernel
theorem dX9_observe_41 : decode cX9_observe 41 = .ok (.iconst 0, 1) := by decide +kernel
theorem dX9_observe_42 : decode cX9_observe 42 = .ok (.istore_n 3, 1) := by decide +kernel
theorem dX9_observe_43 : decode cX9_observe 43 = .ok (.iload_n 3, 1) := by decide +kernel
theorem dX9_observe_44 : decode cX9_observe 44 = .ok (.iconst 5, 1) := by decide +kernel
theorem dX9_observe_45 : decode cX9_observe 45 = .ok (.if_icmp .ge 37, 3) := by decide +kernel
theorem dX9_observe_48 : decode cX9_observe 48 = .ok (.aload_n 0, 1) := by decide +kernel
theorem dX9_observe_49 : decode cX9_observe 49 = .ok (.getfield 35, 3) := by decide +kernel
theorem dX9_observe_52 : decode cX9_observe 52 = .ok (.iload_n 3, 1) := by decide +kernel
theorem dX9_observe_53 : decode cX9_observe 53 = .ok (.aload_n 0, 1) := by decide +kernel
theorem dX9_observe_54 : decode cX9_observe 54 = .ok (.getfield 35, 3) := by decide +kernel
theorem dX9_observe_57 : decode cX9_observe 57 = .ok (.iload_n 3, 1) := by decide +kernel
theorem dX9_observe_58 : decode cX9_observe 58 = .ok (.iconst 1, 1) := by decide +kernel
theorem dX9_observe_59 : decode cX9_observe 59 = .ok (.iadd, 1) := by decide +kernel
theorem dX9_observe_60 : decode cX9_observe 60 = .ok (.iaload, 1) := by decide +kernel
theorem dX9_observe_61 : decode cX9_observe 61 = .ok (.iastore, 1) := by decide +kernel
theorem dX9_observe_62 : decode cX9_observe 62 = .ok (.aload_n 0, 1) := by decide +kernel
theorem dX9_observe_63 : decode cX9_observe 63 = .ok (.getfield 38, 3) := by decide +kernel
theorem dX9_observe_66 : decode cX9_observe 66 = .ok (.iload_n 3, 1) := by decide +kernel
theorem dX9_observe_67 : decode cX9_observe 67 = .ok (.aload_n 0, 1) := by decide +kernel
theorem dX9_observe_68 : decode cX9_observe 68 = .ok (.getfield 38, 3) := by decide +kernel
theorem dX9_observe_71 : decode cX9_observe 71 = .ok (.iload_n 3, 1) := by decide +kernel
theorem dX9_observe_72 : decode cX9_observe 72 = .ok (.iconst 1, 1) := by decide +kernel
theorem dX9_observe_73 : decode cX9_observe 73 = .ok (.iadd, 1) := by decide +kernel
theorem dX9_observe_74 : decode cX9_observe 74 = .ok (.iaload, 1) := by decide +kernel
theorem dX9_observe_75 : decode cX9_observe 75 = .ok (.iastore, 1) := by decide +kernel
theorem dX9_observe_76 : decode cX9_observe 76 = .ok (.iinc 3 1, 3) := by decide +kernel
theorem dX9_observe_79 : decode cX9_observe 79 = .ok (.goto (-36), 3) := by decide +kernel
theorem dX9_observe_82 : decode cX9_observe 82 = .ok (.aload_n 0, 1) := by decide +kernel
theorem dX9_observe_83 : decode cX9_observe 83 = .ok (.dup, 1) := by decide +kernel
theorem dX9_observe_84 : decode cX9_observe 84 = .ok (.getfield 205, 3) := by decide +kernel
theorem dX9_observe_87 : decode cX9_observe 87 = .ok (.iconst 1, 1) := by decide +kernel
theorem dX9_observe_88 : decode cX9_observe 88 = .ok (.isub, 1) := by decide +kernel
theorem dX9_observe_89 : decode cX9_observe 89 = .ok (.putfield 205, 3) := by decide +kernel
theorem dX9_observe_92 : decode cX9_observe 92 = .ok (.aload_n 0, 1) := by decide +kernel
theorem dX9_observe_93 : decode cX9_observe 93 = .ok (.getfield 35, 3) := by decide +kernel
theorem dX9_observe_96 : decode cX9_observe 96 = .ok (.aload_n 0, 1) := by decide +kernel
theorem dX9_observe_97 : decode cX9_observe 97 = .ok (.getfield 205, 3) := by decide +kernel
theorem dX9_observe_100 : decode cX9_observe 100 = .ok (.iload_n 1, 1) := by decide +kernel
theorem dX9_observe_101 : decode cX9_observe 101 = .ok (.iastore, 1) := by decide +kernel
theorem dX9_observe_102 : decode cX9_observe 102 = .ok (.aload_n 0, 1) := by decide +kernel
theorem dX9_observe_103 : decode cX9_observe 103 = .ok (.getfield 38, 3) := by decide +kernel
theorem dX9_observe_106 : decode cX9_observe 106 = .ok (.aload_n 0, 1) := by decide +kernel
theorem dX9_observe_107 : decode cX9_observe 107 = .ok (.getfield 205, 3) := by decide +kernel
theorem dX9_observe_110 : decode cX9_observe 110 = .ok (.iload_n 2, 1) := by decide +kernel
theorem dX9_observe_111 : decode cX9_observe 111 = .ok (.iastore, 1) := by decide +kernel
theorem dX9_observe_112 : decode cX9_observe 112 = .ok (.aload_n 0, 1) := by decide +kernel
theorem dX9_observe_113 : decode cX9_observe 113 = .ok (.dup, 1) := by decide +kernel
theorem dX9_observe_114 : decode cX9_observe 114 = .ok (.getfield 205, 3) := by decide +kernel
theorem dX9_observe_117 : decode cX9_observe 117 = .ok (.iconst 1, 1) := by decide +kernel
theorem dX9_observe_118 : decode cX9_observe 118 = .ok (.iadd, 1) := by decide +kernel
theorem dX9_observe_119 : decode cX9_observe 119 = .ok (.putfield 205, 3) := by decide +kernel
theorem dX9_observe_122 : decode cX9_observe 122 = .ok (.aload_n 0, 1) := by decide +kernel
theorem dX9_observe_123 : decode cX9_observe 123 = .ok (.getfield 205, 3) := by decide +kernel
theorem dX9_observe_126 : decode cX9_observe 126 = .ok (.ireturn, 1) := by decide +kernel
theorem dX9_forgetAfter_0 : decode cX9_forgetAfter 0 = .ok (.aload_n 0, 1) := by decide +kernel
theorem dX9_forgetAfter_1 : decode cX9_forgetAfter 1 = .ok (.iconst 0, 1) := by decide +kernel
theorem dX9_forgetAfter_2 : decode cX9_forgetAfter 2 = .ok (.putfield 59, 3) := by decide +kernel
theorem dX9_forgetAfter_5 : decode cX9_forgetAfter 5 = .ok (.iload_n 1, 1) := by decide +kernel
theorem dX9_forgetAfter_6 : decode cX9_forgetAfter 6 = .ok (.i2l, 1) := by decide +kernel
theorem dX9_forgetAfter_7 : decode cX9_forgetAfter 7 = .ok (.lconst 0, 1) := by decide +kernel
theorem dX9_forgetAfter_8 : decode cX9_forgetAfter 8 = .ok (.ldc2_w 143, 3) := by decide +kernel
theorem dX9_forgetAfter_11 : decode cX9_forgetAfter 11 = .ok (.invokestatic 114, 3) := by decide +kernel
theorem dX9_forgetAfter_14 : decode cX9_forgetAfter 14 = .ok (.ifCond .ne 6, 3) := by decide +kernel
theorem dX9_forgetAfter_17 : decode cX9_forgetAfter 17 = .ok (.bipush (-2), 2) := by decide +kernel
theorem dX9_forgetAfter_19 : decode cX9_forgetAfter 19 = .ok (.ireturn, 1) := by decide +kernel
theorem dX9_forgetAfter_20 : decode cX9_forgetAfter 20 = .ok (.iconst 0, 1) := by decide +kernel
theorem dX9_forgetAfter_21 : decode cX9_forgetAfter 21 = .ok (.istore_n 2, 1) := by decide +kernel
theorem dX9_forgetAfter_22 : decode cX9_forgetAfter 22 = .ok (.iconst 0, 1) := by decide +kernel
theorem dX9_forgetAfter_23 : decode cX9_forgetAfter 23 = .ok (.istore_n 3, 1) := by decide +kernel
theorem dX9_forgetAfter_24 : decode cX9_forgetAfter 24 = .ok (.iload_n 3, 1) := by decide +kernel
theorem dX9_forgetAfter_25 : decode cX9_forgetAfter 25 = .ok (.aload_n 0, 1) := by decide +kernel
theorem dX9_forgetAfter_26 : decode cX9_forgetAfter 26 = .ok (.getfield 205, 3) := by decide +kernel
theorem dX9_forgetAfter_29 : decode cX9_forgetAfter 29 = .ok (.if_icmp .ge 46, 3) := by decide +kernel
theorem dX9_forgetAfter_32 : decode cX9_forgetAfter 32 = .ok (.aload_n 0, 1) := by decide +kernel
theorem dX9_forgetAfter_33 : decode cX9_forgetAfter 33 = .ok (.getfield 35, 3) := by decide +kernel
theorem dX9_forgetAfter_36 : decode cX9_forgetAfter 36 = .ok (.iload_n 3, 1) := by decide +kernel
theorem dX9_forgetAfter_37 : decode cX9_forgetAfter 37 = .ok (.iaload, 1) := by decide +kernel
theorem dX9_forgetAfter_38 : decode cX9_forgetAfter 38 = .ok (.iload_n 1, 1) := by decide +kernel
theorem dX9_forgetAfter_39 : decode cX9_forgetAfter 39 = .ok (.if_icmp .gt 30, 3) := by decide +kernel
theorem dX9_forgetAfter_42 : decode cX9_forgetAfter 42 = .ok (.aload_n 0, 1) := by decide +kernel
theorem dX9_forgetAfter_43 : decode cX9_forgetAfter 43 = .ok (.getfield 35, 3) := by decide +kernel
theorem dX9_forgetAfter_46 : decode cX9_forgetAfter 46 = .ok (.iload_n 2, 1) := by decide +kernel
theorem dX9_forgetAfter_47 : decode cX9_forgetAfter 47 = .ok (.aload_n 0, 1) := by decide +kernel
theorem dX9_forgetAfter_48 : decode cX9_forgetAfter 48 = .ok (.getfield 35, 3) := by decide +kernel
theorem dX9_forgetAfter_51 : decode cX9_forgetAfter 51 = .ok (.iload_n 3, 1) := by decide +kernel
theorem dX9_forgetAfter_52 : decode cX9_forgetAfter 52 = .ok (.iaload, 1) := by decide +kernel
theorem dX9_forgetAfter_53 : decode cX9_forgetAfter 53 = .ok (.iastore, 1) := by decide +kernel
theorem dX9_forgetAfter_54 : decode cX9_forgetAfter 54 = .ok (.aload_n 0, 1) := by decide +kernel
theorem dX9_forgetAfter_55 : decode cX9_forgetAfter 55 = .ok (.getfield 38, 3) := by decide +kernel
theorem dX9_forgetAfter_58 : decode cX9_forgetAfter 58 = .ok (.iload_n 2, 1) := by decide +kernel
theorem dX9_forgetAfter_59 : decode cX9_forgetAfter 59 = .ok (.aload_n 0, 1) := by decide +kernel
theorem dX9_forgetAfter_60 : decode cX9_forgetAfter 60 = .ok (.getfield 38, 3) := by decide +kernel
theorem dX9_forgetAfter_63 : decode cX9_forgetAfter 63 = .ok (.iload_n 3, 1) := by decide +kernel
theorem dX9_forgetAfter_64 : decode cX9_forgetAfter 64 = .ok (.iaload, 1) := by decide +kernel
theorem dX9_forgetAfter_65 : decode cX9_forgetAfter 65 = .ok (.iastore, 1) := by decide +kernel
theorem dX9_forgetAfter_66 : decode cX9_forgetAfter 66 = .ok (.iinc 2 1, 3) := by decide +kernel
theorem dX9_forgetAfter_69 : decode cX9_forgetAfter 69 = .ok (.iinc 3 1, 3) := by decide +kernel
theorem dX9_forgetAfter_72 : decode cX9_forgetAfter 72 = .ok (.goto (-48), 3) := by decide +kernel
theorem dX9_forgetAfter_75 : decode cX9_forgetAfter 75 = .ok (.aload_n 0, 1) := by decide +kernel
theorem dX9_forgetAfter_76 : decode cX9_forgetAfter 76 = .ok (.iload_n 2, 1) := by decide +kernel
theorem dX9_forgetAfter_77 : decode cX9_forgetAfter 77 = .ok (.putfield 205, 3) := by decide +kernel
theorem dX9_forgetAfter_80 : decode cX9_forgetAfter 80 = .ok (.iload_n 2, 1) := by decide +kernel
theorem dX9_forgetAfter_81 : decode cX9_forgetAfter 81 = .ok (.ireturn, 1) := by decide +kernel
theorem dX9_possibleStrategies_0 : decode cX9_possibleStrategies 0 = .ok (.aload_n 0, 1) := by decide +kernel
theorem dX9_possibleStrategies_1 : decode cX9_possibleStrategies 1 = .ok (.iconst 0, 1) := by decide +kernel
theorem dX9_possibleStrategies_2 : decode cX9_possibleStrategies 2 = .ok (.putfield 59, 3) := by decide +kernel
theorem dX9_possibleStrategies_5 : decode cX9_possibleStrategies 5 = .ok (.iconst 0, 1) := by decide +kernel
theorem dX9_possibleStrategies_6 : decode cX9_possibleStrategies 6 = .ok (.istore_n 1, 1) := by decide +kernel
theorem dX9_possibleStrategies_7 : decode cX9_possibleStrategies 7 = .ok (.iconst 0, 1) := by decide +kernel
theorem dX9_possibleStrategies_8 : decode cX9_possibleStrategies 8 = .ok (.istore_n 2, 1) := by decide +kernel
theorem dX9_possibleStrategies_9 : decode cX9_possibleStrategies 9 = .ok (.iload_n 2, 1) := by decide +kernel
theorem dX9_possibleStrategies_10 : decode cX9_possibleStrategies 10 = .ok (.iconst 4, 1) := by decide +kernel
theorem dX9_possibleStrategies_11 : decode cX9_possibleStrategies 11 = .ok (.if_icmp .ge 99, 3) := by decide +kernel
theorem dX9_possibleStrategies_14 : decode cX9_possibleStrategies 14 = .ok (.iconst 1, 1) := by decide +kernel
theorem dX9_possibleStrategies_15 : decode cX9_possibleStrategies 15 = .ok (.istore_n 3, 1) := by decide +kernel
theorem dX9_possibleStrategies_16 : decode cX9_possibleStrategies 16 = .ok (.iconst 0, 1) := by decide +kernel
theorem dX9_possibleStrategies_17 : decode cX9_possibleStrategies 17 = .ok (.istore 4, 2) := by decide +kernel
theorem dX9_possibleStrategies_19 : decode cX9_possibleStrategies 19 = .ok (.iload 4, 2) := by decide +kernel
theorem dX9_possibleStrategies_21 : decode cX9_possibleStrategies 21 = .ok (.aload_n 0, 1) := by decide +kernel
theorem dX9_possibleStrategies_22 : decode cX9_possibleStrategies 22 = .ok (.getfield 205, 3) := by decide +kernel
theorem dX9_possibleStrategies_25 : decode cX9_possibleStrategies 25 = .ok (.if_icmp .ge 65, 3) := by decide +kernel
theorem dX9_possibleStrategies_28 : decode cX9_possibleStrategies 28 = .ok (.aload_n 0, 1) := by decide +kernel
theorem dX9_possibleStrategies_29 : decode cX9_possibleStrategies 29 = .ok (.getfield 13, 3) := by decide +kernel
theorem dX9_possibleStrategies_32 : decode cX9_possibleStrategies 32 = .ok (.aload_n 0, 1) := by decide +kernel
theorem dX9_possibleStrategies_33 : decode cX9_possibleStrategies 33 = .ok (.getfield 16, 3) := by decide +kernel
theorem dX9_possibleStrategies_36 : decode cX9_possibleStrategies 36 = .ok (.invokestatic 100, 3) := by decide +kernel
theorem dX9_possibleStrategies_39 : decode cX9_possibleStrategies 39 = .ok (.aload_n 0, 1) := by decide +kernel
theorem dX9_possibleStrategies_40 : decode cX9_possibleStrategies 40 = .ok (.aload_n 0, 1) := by decide +kernel
theorem dX9_possibleStrategies_41 : decode cX9_possibleStrategies 41 = .ok (.getfield 16, 3) := by decide +kernel
theorem dX9_possibleStrategies_44 : decode cX9_possibleStrategies 44 = .ok (.iload_n 2, 1) := by decide +kernel
theorem dX9_possibleStrategies_45 : decode cX9_possibleStrategies 45 = .ok (.aload_n 0, 1) := by decide +kernel
theorem dX9_possibleStrategies_46 : decode cX9_possibleStrategies 46 = .ok (.getfield 35, 3) := by decide +kernel
theorem dX9_possibleStrategies_49 : decode cX9_possibleStrategies 49 = .ok (.iload 4, 2) := by decide +kernel
theorem dX9_possibleStrategies_51 : decode cX9_possibleStrategies 51 = .ok (.iaload, 1) := by decide +kernel
theorem dX9_possibleStrategies_52 : decode cX9_possibleStrategies 52 = .ok (.invokevirtual 104, 3) := by decide +kernel
theorem dX9_possibleStrategies_55 : decode cX9_possibleStrategies 55 = .ok (.pop, 1) := by decide +kernel
theorem dX9_possibleStrategies_56 : decode cX9_possibleStrategies 56 = .ok (.iload_n 3, 1) := by decide +kernel
theorem dX9_possibleStrategies_57 : decode cX9_possibleStrategies 57 = .ok (.ifCond .eq 25, 3) := by decide +kernel
theorem dX9_possibleStrategies_60 : decode cX9_possibleStrategies 60 = .ok (.aload_n 0, 1) := by decide +kernel
theorem dX9_possibleStrategies_61 : decode cX9_possibleStrategies 61 = .ok (.getfield 16, 3) := by decide +kernel
theorem dX9_possibleStrategies_64 : decode cX9_possibleStrategies 64 = .ok (.sipush 200, 3) := by decide +kernel
theorem dX9_possibleStrategies_67 : decode cX9_possibleStrategies 67 = .ok (.iaload, 1) := by decide +kernel
theorem dX9_possibleStrategies_68 : decode cX9_possibleStrategies 68 = .ok (.aload_n 0, 1) := by decide +kernel
theorem dX9_possibleStrategies_69 : decode cX9_possibleStrategies 69 = .ok (.getfield 38, 3) := by decide +kernel
theorem dX9_possibleStrategies_72 : decode cX9_possibleStrategies 72 = .ok (.iload 4, 2) := by decide +kernel
theorem dX9_possibleStrategies_74 : decode cX9_possibleStrategies 74 = .ok (.iaload, 1) := by decide +kernel
theorem dX9_possibleStrategies_75 : decode cX9_possibleStrategies 75 = .ok (.if_icmp .ne 7, 3) := by decide +kernel
theorem dX9_possibleStrategies_78 : decode cX9_possibleStrategies 78 = .ok (.iconst 1, 1) := by decide +kernel
theorem dX9_possibleStrategies_79 : decode cX9_possibleStrategies 79 = .ok (.goto 4, 3) := by decide +kernel
theorem dX9_possibleStrategies_82 : decode cX9_possibleStrategies 82 = .ok (.iconst 0, 1) := by decide +kernel
theorem dX9_possibleStrategies_83 : decode cX9_possibleStrategies 83 = .ok (.istore_n 3, 1) := by decide +kernel
theorem dX9_possibleStrategies_84 : decode cX9_possibleStrategies 84 = .ok (.iinc 4 1, 3) := by decide +kernel
theorem dX9_possibleStrategies_87 : decode cX9_possibleStrategies 87 = .ok (.goto (-68), 3) := by decide +kernel
theorem dX9_possibleStrategies_90 : decode cX9_possibleStrategies 90 = .ok (.iload_n 1, 1) := by decide +kernel
theorem dX9_possibleStrategies_91 : decode cX9_possibleStrategies 91 = .ok (.iload_n 3, 1) := by decide +kernel
theorem dX9_possibleStrategies_92 : decode cX9_possibleStrategies 92 = .ok (.ifCond .eq 9, 3) := by decide +kernel
theorem dX9_possibleStrategies_95 : decode cX9_possibleStrategies 95 = .ok (.iconst 1, 1) := by decide +kernel
theorem dX9_possibleStrategies_96 : decode cX9_possibleStrategies 96 = .ok (.iload_n 2, 1) := by decide +kernel
theorem dX9_possibleStrategies_97 : decode cX9_possibleStrategies 97 = .ok (.ishl, 1) := by decide +kernel
theorem dX9_possibleStrategies_98 : decode cX9_possibleStrategies 98 = .ok (.goto 4, 3) := by decide +kernel
theorem dX9_possibleStrategies_101 : decode cX9_possibleStrategies 101 = .ok (.iconst 0, 1) := by decide +kernel
theorem dX9_possibleStrategies_102 : decode cX9_possibleStrategies 102 = .ok (.ior, 1) := by decide +kernel
theorem dX9_possibleStrategies_103 : decode cX9_possibleStrategies 103 = .ok (.istore_n 1, 1) := by decide +kernel
theorem dX9_possibleStrategies_104 : decode cX9_possibleStrategies 104 = .ok (.iinc 2 1, 3) := by decide +kernel
theorem dX9_possibleStrategies_107 : decode cX9_possibleStrategies 107 = .ok (.goto (-98), 3) := by decide +kernel
theorem dX9_possibleStrategies_110 : decode cX9_possibleStrategies 110 = .ok (.iload_n 1, 1) := by decide +kernel
theorem dX9_possibleStrategies_111 : decode cX9_possibleStrategies 111 = .ok (.ireturn, 1) := by decide +kernel
theorem dX9_setSeed_0 : decode cX9_setSeed 0 = .ok (.aload_n 0, 1) := by decide +kernel
theorem dX9_setSeed_1 : decode cX9_setSeed 1 = .ok (.iconst 0, 1) := by decide +kernel
theorem dX9_setSeed_2 : decode cX9_setSeed 2 = .ok (.putfield 59, 3) := by decide +kernel
theorem dX9_setSeed_5 : decode cX9_setSeed 5 = .ok (.aload_n 0, 1) := by decide +kernel
theorem dX9_setSeed_6 : decode cX9_setSeed 6 = .ok (.getfield 208, 3) := by decide +kernel
theorem dX9_setSeed_9 : decode cX9_setSeed 9 = .ok (.lstore_n 3, 1) := by decide +kernel
theorem dX9_setSeed_10 : decode cX9_setSeed 10 = .ok (.aload_n 0, 1) := by decide +kernel
theorem dX9_setSeed_11 : decode cX9_setSeed 11 = .ok (.lload_n 1, 1) := by decide +kernel
theorem dX9_setSeed_12 : decode cX9_setSeed 12 = .ok (.putfield 208, 3) := by decide +kernel
theorem dX9_setSeed_15 : decode cX9_setSeed 15 = .ok (.lload_n 3, 1) := by decide +kernel
theorem dX9_setSeed_16 : decode cX9_setSeed 16 = .ok (.lreturn, 1) := by decide +kernel
theorem dX9_redexNumber_0 : decode cX9_redexNumber 0 = .ok (.iload_n 1, 1) := by decide +kernel
theorem dX9_redexNumber_1 : decode cX9_redexNumber 1 = .ok (.istore_n 2, 1) := by decide +kernel
theorem dX9_redexNumber_2 : decode cX9_redexNumber 2 = .ok (.iconst 0, 1) := by decide +kernel
theorem dX9_redexNumber_3 : decode cX9_redexNumber 3 = .ok (.istore_n 3, 1) := by decide +kernel
theorem dX9_redexNumber_4 : decode cX9_redexNumber 4 = .ok (.aload_n 0, 1) := by decide +kernel
theorem dX9_redexNumber_5 : decode cX9_redexNumber 5 = .ok (.iload_n 3, 1) := by decide +kernel
theorem dX9_redexNumber_6 : decode cX9_redexNumber 6 = .ok (.invokestatic 72, 3) := by decide +kernel
theorem dX9_redexNumber_9 : decode cX9_redexNumber 9 = .ok (.ifCond .eq 7, 3) := by decide +kernel
theorem dX9_redexNumber_12 : decode cX9_redexNumber 12 = .ok (.iload_n 2, 1) := by decide +kernel
theorem dX9_redexNumber_13 : decode cX9_redexNumber 13 = .ok (.ifCond .le 25, 3) := by decide +kernel
theorem dX9_redexNumber_16 : decode cX9_redexNumber 16 = .ok (.iload_n 2, 1) := by decide +kernel
theorem dX9_redexNumber_17 : decode cX9_redexNumber 17 = .ok (.aload_n 0, 1) := by decide +kernel
theorem dX9_redexNumber_18 : decode cX9_redexNumber 18 = .ok (.iload_n 3, 1) := by decide +kernel
theorem dX9_redexNumber_19 : decode cX9_redexNumber 19 = .ok (.invokestatic 72, 3) := by decide +kernel
theorem dX9_redexNumber_22 : decode cX9_redexNumber 22 = .ok (.ifCond .eq 7, 3) := by decide +kernel
theorem dX9_redexNumber_25 : decode cX9_redexNumber 25 = .ok (.iconst 1, 1) := by decide +kernel
theorem dX9_redexNumber_26 : decode cX9_redexNumber 26 = .ok (.goto 4, 3) := by decide +kernel
theorem dX9_redexNumber_29 : decode cX9_redexNumber 29 = .ok (.iconst 0, 1) := by decide +kernel
theorem dX9_redexNumber_30 : decode cX9_redexNumber 30 = .ok (.isub, 1) := by decide +kernel
theorem dX9_redexNumber_31 : decode cX9_redexNumber 31 = .ok (.istore_n 2, 1) := by decide +kernel
theorem dX9_redexNumber_32 : decode cX9_redexNumber 32 = .ok (.iinc 3 1, 3) := by decide +kernel
theorem dX9_redexNumber_35 : decode cX9_redexNumber 35 = .ok (.goto (-31), 3) := by decide +kernel
theorem dX9_redexNumber_38 : decode cX9_redexNumber 38 = .ok (.iload_n 3, 1) := by decide +kernel
theorem dX9_redexNumber_39 : decode cX9_redexNumber 39 = .ok (.ireturn, 1) := by decide +kernel
theorem dX9_randomReduction_0 : decode cX9_randomReduction 0 = .ok (.aload_n 0, 1) := by decide +kernel
theorem dX9_randomReduction_1 : decode cX9_randomReduction 1 = .ok (.iconst 0, 1) := by decide +kernel
theorem dX9_randomReduction_2 : decode cX9_randomReduction 2 = .ok (.putfield 59, 3) := by decide +kernel
theorem dX9_randomReduction_5 : decode cX9_randomReduction 5 = .ok (.iload_n 1, 1) := by decide +kernel
theorem dX9_randomReduction_6 : decode cX9_randomReduction 6 = .ok (.i2l, 1) := by decide +kernel
theorem dX9_randomReduction_7 : decode cX9_randomReduction 7 = .ok (.lconst 1, 1) := by decide +kernel
theorem dX9_randomReduction_8 : decode cX9_randomReduction 8 = .ok (.ldc2_w 212, 3) := by decide +kernel
theorem dX9_randomReduction_11 : decode cX9_randomReduction 11 = .ok (.invokestatic 114, 3) := by decide +kernel
theorem dX9_randomReduction_14 : decode cX9_randomReduction 14 = .ok (.ifCond .ne 6, 3) := by decide +kernel
theorem dX9_randomReduction_17 : decode cX9_randomReduction 17 = .ok (.bipush (-2), 2) := by decide +kernel
theorem dX9_randomReduction_19 : decode cX9_randomReduction 19 = .ok (.ireturn, 1) := by decide +kernel
theorem dX9_randomReduction_20 : decode cX9_randomReduction 20 = .ok (.aload_n 0, 1) := by decide +kernel
theorem dX9_randomReduction_21 : decode cX9_randomReduction 21 = .ok (.getfield 13, 3) := by decide +kernel
theorem dX9_randomReduction_24 : decode cX9_randomReduction 24 = .ok (.aload_n 0, 1) := by decide +kernel
theorem dX9_randomReduction_25 : decode cX9_randomReduction 25 = .ok (.getfield 16, 3) := by decide +kernel
theorem dX9_randomReduction_28 : decode cX9_randomReduction 28 = .ok (.invokestatic 100, 3) := by decide +kernel
theorem dX9_randomReduction_31 : decode cX9_randomReduction 31 = .ok (.iconst 0, 1) := by decide +kernel
theorem dX9_randomReduction_32 : decode cX9_randomReduction 32 = .ok (.istore_n 2, 1) := by decide +kernel
theorem dX9_randomReduction_33 : decode cX9_randomReduction 33 = .ok (.iconst 0, 1) := by decide +kernel
theorem dX9_randomReduction_34 : decode cX9_randomReduction 34 = .ok (.istore_n 3, 1) := by decide +kernel
theorem dX9_randomReduction_35 : decode cX9_randomReduction 35 = .ok (.iload_n 3, 1) := by decide +kernel
theorem dX9_randomReduction_36 : decode cX9_randomReduction 36 = .ok (.iload_n 1, 1) := by decide +kernel
theorem dX9_randomReduction_37 : decode cX9_randomReduction 37 = .ok (.if_icmp .ge 94, 3) := by decide +kernel
theorem dX9_randomReduction_40 : decode cX9_randomReduction 40 = .ok (.aload_n 0, 1) := by decide +kernel
theorem dX9_randomReduction_41 : decode cX9_randomReduction 41 = .ok (.aload_n 0, 1) := by decide +kernel
theorem dX9_randomReduction_42 : decode cX9_randomReduction 42 = .ok (.getfield 208, 3) := by decide +kernel
theorem dX9_randomReduction_45 : decode cX9_randomReduction 45 = .ok (.ldc2_w 214, 3) := by decide +kernel
theorem dX9_randomReduction_48 : decode cX9_randomReduction 48 = .ok (.lmul, 1) := by decide +kernel
theorem dX9_randomReduction_49 : decode cX9_randomReduction 49 = .ok (.ldc2_w 216, 3) := by decide +kernel
theorem dX9_randomReduction_52 : decode cX9_randomReduction 52 = .ok (.ladd, 1) := by decide +kernel
theorem dX9_randomReduction_53 : decode cX9_randomReduction 53 = .ok (.putfield 208, 3) := by decide +kernel
theorem dX9_randomReduction_56 : decode cX9_randomReduction 56 = .ok (.aload_n 0, 1) := by decide +kernel
theorem dX9_randomReduction_57 : decode cX9_randomReduction 57 = .ok (.getfield 208, 3) := by decide +kernel
theorem dX9_randomReduction_60 : decode cX9_randomReduction 60 = .ok (.bipush 33, 2) := by decide +kernel
theorem dX9_randomReduction_62 : decode cX9_randomReduction 62 = .ok (.lushr, 1) := by decide +kernel
theorem dX9_randomReduction_63 : decode cX9_randomReduction 63 = .ok (.l2i, 1) := by decide +kernel
theorem dX9_randomReduction_64 : decode cX9_randomReduction 64 = .ok (.istore 4, 2) := by decide +kernel
theorem dX9_randomReduction_66 : decode cX9_randomReduction 66 = .ok (.aload_n 0, 1) := by decide +kernel
theorem dX9_randomReduction_67 : decode cX9_randomReduction 67 = .ok (.getfield 16, 3) := by decide +kernel
theorem dX9_randomReduction_70 : decode cX9_randomReduction 70 = .ok (.invokestatic 108, 3) := by decide +kernel
theorem dX9_randomReduction_73 : decode cX9_randomReduction 73 = .ok (.istore 5, 2) := by decide +kernel
theorem dX9_randomReduction_75 : decode cX9_randomReduction 75 = .ok (.iload 5, 2) := by decide +kernel
theorem dX9_randomReduction_77 : decode cX9_randomReduction 77 = .ok (.ifCond .le 37, 3) := by decide +kernel
theorem dX9_randomReduction_80 : decode cX9_randomReduction 80 = .ok (.aload_n 0, 1) := by decide +kernel
theorem dX9_randomReduction_81 : decode cX9_randomReduction 81 = .ok (.aload_n 0, 1) := by decide +kernel
theorem dX9_randomReduction_82 : decode cX9_randomReduction 82 = .ok (.getfield 16, 3) := by decide +kernel
theorem dX9_randomReduction_85 : decode cX9_randomReduction 85 = .ok (.aload_n 0, 1) := by decide +kernel
theorem dX9_randomReduction_86 : decode cX9_randomReduction 86 = .ok (.getfield 16, 3) := by decide +kernel
theorem dX9_randomReduction_89 : decode cX9_randomReduction 89 = .ok (.iload 4, 2) := by decide +kernel
theorem dX9_randomReduction_91 : decode cX9_randomReduction 91 = .ok (.iload 5, 2) := by decide +kernel
theorem dX9_randomReduction_93 : decode cX9_randomReduction 93 = .ok (.irem, 1) := by decide +kernel
theorem dX9_randomReduction_94 : decode cX9_randomReduction 94 = .ok (.invokestatic 218, 3) := by decide +kernel
theorem dX9_randomReduction_97 : decode cX9_randomReduction 97 = .ok (.invokevirtual 97, 3) := by decide +kernel
theorem dX9_randomReduction_100 : decode cX9_randomReduction 100 = .ok (.ifCond .eq 14, 3) := by decide +kernel
theorem dX9_randomReduction_103 : decode cX9_randomReduction 103 = .ok (.aload_n 0, 1) := by decide +kernel
theorem dX9_randomReduction_104 : decode cX9_randomReduction 104 = .ok (.getfield 22, 3) := by decide +kernel
theorem dX9_randomReduction_107 : decode cX9_randomReduction 107 = .ok (.aload_n 0, 1) := by decide +kernel
theorem dX9_randomReduction_108 : decode cX9_randomReduction 108 = .ok (.getfield 16, 3) := by decide +kernel
theorem dX9_randomReduction_111 : decode cX9_randomReduction 111 = .ok (.invokestatic 100, 3) := by decide +kernel
theorem dX9_randomReduction_114 : decode cX9_randomReduction 114 = .ok (.iload_n 2, 1) := by decide +kernel
theorem dX9_randomReduction_115 : decode cX9_randomReduction 115 = .ok (.aload_n 0, 1) := by decide +kernel
theorem dX9_randomReduction_116 : decode cX9_randomReduction 116 = .ok (.getfield 16, 3) := by decide +kernel
theorem dX9_randomReduction_119 : decode cX9_randomReduction 119 = .ok (.sipush 200, 3) := by decide +kernel
theorem dX9_randomReduction_122 : decode cX9_randomReduction 122 = .ok (.iaload, 1) := by decide +kernel
theorem dX9_randomReduction_123 : decode cX9_randomReduction 123 = .ok (.iadd, 1) := by decide +kernel
theorem dX9_randomReduction_124 : decode cX9_randomReduction 124 = .ok (.istore_n 2, 1) := by decide +kernel
theorem dX9_randomReduction_125 : decode cX9_randomReduction 125 = .ok (.iinc 3 1, 3) := by decide +kernel
theorem dX9_randomReduction_128 : decode cX9_randomReduction 128 = .ok (.goto (-93), 3) := by decide +kernel
theorem dX9_randomReduction_131 : decode cX9_randomReduction 131 = .ok (.iload_n 2, 1) := by decide +kernel
theorem dX9_randomReduction_132 : decode cX9_randomReduction 132 = .ok (.ireturn, 1) := by decide +kernel
theorem dX9_save_0 : decode cX9_save 0 = .ok (.aload_n 0, 1) := by decide +kernel
theorem dX9_save_1 : decode cX9_save 1 = .ok (.iconst 0, 1) := by decide +kernel
theorem dX9_save_2 : decode cX9_save 2 = .ok (.putfield 59, 3) := by decide +kernel
theorem dX9_save_5 : decode cX9_save 5 = .ok (.iload_n 1, 1) := by decide +kernel
theorem dX9_save_6 : decode cX9_save 6 = .ok (.i2l, 1) := by decide +kernel
theorem dX9_save_7 : decode cX9_save 7 = .ok (.lconst 0, 1) := by decide +kernel
theorem dX9_save_8 : decode cX9_save 8 = .ok (.lconst 1, 1) := by decide +kernel
theorem dX9_save_9 : decode cX9_save 9 = .ok (.invokestatic 114, 3) := by decide +kernel
theorem dX9_save_12 : decode cX9_save 12 = .ok (.ifCond .ne 5, 3) := by decide +kernel
theorem dX9_save_15 : decode cX9_save 15 = .ok (.iconst (-1), 1) := by decide +kernel
theorem dX9_save_16 : decode cX9_save 16 = .ok (.ireturn, 1) := by decide +kernel
theorem dX9_save_17 : decode cX9_save 17 = .ok (.aload_n 0, 1) := by decide +kernel
theorem dX9_save_18 : decode cX9_save 18 = .ok (.getfield 31, 3) := by decide +kernel
theorem dX9_save_21 : decode cX9_save 21 = .ok (.iload_n 1, 1) := by decide +kernel
theorem dX9_save_22 : decode cX9_save 22 = .ok (.iconst 1, 1) := by decide +kernel
theorem dX9_save_23 : decode cX9_save 23 = .ok (.bastore, 1) := by decide +kernel
theorem dX9_save_24 : decode cX9_save 24 = .ok (.iconst 0, 1) := by decide +kernel
theorem dX9_save_25 : decode cX9_save 25 = .ok (.istore_n 2, 1) := by decide +kernel
theorem dX9_save_26 : decode cX9_save 26 = .ok (.iload_n 2, 1) := by decide +kernel
theorem dX9_save_27 : decode cX9_save 27 = .ok (.sipush 201, 3) := by decide +kernel
theorem dX9_save_30 : decode cX9_save 30 = .ok (.if_icmp .ge 27, 3) := by decide +kernel
theorem dX9_save_33 : decode cX9_save 33 = .ok (.aload_n 0, 1) := by decide +kernel
theorem dX9_save_34 : decode cX9_save 34 = .ok (.getfield 28, 3) := by decide +kernel
theorem dX9_save_37 : decode cX9_save 37 = .ok (.sipush 201, 3) := by decide +kernel
theorem dX9_save_40 : decode cX9_save 40 = .ok (.iload_n 1, 1) := by decide +kernel
theorem dX9_save_41 : decode cX9_save 41 = .ok (.imul, 1) := by decide +kernel
theorem dX9_save_42 : decode cX9_save 42 = .ok (.iload_n 2, 1) := by decide +kernel
theorem dX9_save_43 : decode cX9_save 43 = .ok (.iadd, 1) := by decide +kernel
theorem dX9_save_44 : decode cX9_save 44 = .ok (.aload_n 0, 1) := by decide +kernel
theorem dX9_save_45 : decode cX9_save 45 = .ok (.getfield 13, 3) := by decide +kernel
theorem dX9_save_48 : decode cX9_save 48 = .ok (.iload_n 2, 1) := by decide +kernel
theorem dX9_save_49 : decode cX9_save 49 = .ok (.iaload, 1) := by decide +kernel
theorem dX9_save_50 : decode cX9_save 50 = .ok (.iastore, 1) := by decide +kernel
theorem dX9_save_51 : decode cX9_save 51 = .ok (.iinc 2 1, 3) := by decide +kernel
theorem dX9_save_54 : decode cX9_save 54 = .ok (.goto (-28), 3) := by decide +kernel
theorem dX9_save_57 : decode cX9_save 57 = .ok (.aload_n 0, 1) := by decide +kernel
theorem dX9_save_58 : decode cX9_save 58 = .ok (.getfield 13, 3) := by decide +kernel
theorem dX9_save_61 : decode cX9_save 61 = .ok (.sipush 200, 3) := by decide +kernel
theorem dX9_save_64 : decode cX9_save 64 = .ok (.iaload, 1) := by decide +kernel
theorem dX9_save_65 : decode cX9_save 65 = .ok (.ireturn, 1) := by decide +kernel
theorem dX9_restore_0 : decode cX9_restore 0 = .ok (.aload_n 0, 1) := by decide +kernel
theorem dX9_restore_1 : decode cX9_restore 1 = .ok (.iconst 0, 1) := by decide +kernel
theorem dX9_restore_2 : decode cX9_restore 2 = .ok (.putfield 59, 3) := by decide +kernel
theorem dX9_restore_5 : decode cX9_restore 5 = .ok (.iload_n 1, 1) := by decide +kernel
theorem dX9_restore_6 : decode cX9_restore 6 = .ok (.i2l, 1) := by decide +kernel
theorem dX9_restore_7 : decode cX9_restore 7 = .ok (.lconst 0, 1) := by decide +kernel
theorem dX9_restore_8 : decode cX9_restore 8 = .ok (.lconst 1, 1) := by decide +kernel
theorem dX9_restore_9 : decode cX9_restore 9 = .ok (.invokestatic 114, 3) := by decide +kernel
theorem dX9_restore_12 : decode cX9_restore 12 = .ok (.ifCond .ne 5, 3) := by decide +kernel
theorem dX9_restore_15 : decode cX9_restore 15 = .ok (.iconst (-1), 1) := by decide +kernel
theorem dX9_restore_16 : decode cX9_restore 16 = .ok (.ireturn, 1) := by decide +kernel
theorem dX9_restore_17 : decode cX9_restore 17 = .ok (.aload_n 0, 1) := by decide +kernel
theorem dX9_restore_18 : decode cX9_restore 18 = .ok (.getfield 31, 3) := by decide +kernel
theorem dX9_restore_21 : decode cX9_restore 21 = .ok (.iload_n 1, 1) := by decide +kernel
theorem dX9_restore_22 : decode cX9_restore 22 = .ok (.baload, 1) := by decide +kernel
theorem dX9_restore_23 : decode cX9_restore 23 = .ok (.ifCond .ne 6, 3) := by decide +kernel
theorem dX9_restore_26 : decode cX9_restore 26 = .ok (.bipush (-3), 2) := by decide +kernel
theorem dX9_restore_28 : decode cX9_restore 28 = .ok (.ireturn, 1) := by decide +kernel
theorem dX9_restore_29 : decode cX9_restore 29 = .ok (.aload_n 0, 1) := by decide +kernel
theorem dX9_restore_30 : decode cX9_restore 30 = .ok (.iload_n 1, 1) := by decide +kernel
theorem dX9_restore_31 : decode cX9_restore 31 = .ok (.aload_n 0, 1) := by decide +kernel
theorem dX9_restore_32 : decode cX9_restore 32 = .ok (.getfield 13, 3) := by decide +kernel
theorem dX9_restore_35 : decode cX9_restore 35 = .ok (.invokevirtual 149, 3) := by decide +kernel
theorem dX9_restore_38 : decode cX9_restore 38 = .ok (.aload_n 0, 1) := by decide +kernel
theorem dX9_restore_39 : decode cX9_restore 39 = .ok (.iconst 0, 1) := by decide +kernel
theorem dX9_restore_40 : decode cX9_restore 40 = .ok (.putfield 132, 3) := by decide +kernel
theorem dX9_restore_43 : decode cX9_restore 43 = .ok (.aload_n 0, 1) := by decide +kernel
theorem dX9_restore_44 : decode cX9_restore 44 = .ok (.getfield 13, 3) := by decide +kernel
theorem dX9_restore_47 : decode cX9_restore 47 = .ok (.sipush 200, 3) := by decide +kernel
theorem dX9_restore_50 : decode cX9_restore 50 = .ok (.iaload, 1) := by decide +kernel
theorem dX9_restore_51 : decode cX9_restore 51 = .ok (.ireturn, 1) := by decide +kernel
end
section
theorem dJ9_max_7cf53_0 : decode cJ9_max_7cf53 0 = .ok (.iload_n 0, 1) := by decide +kernel
theorem dJ9_max_7cf53_1 : decode cJ9_max_7cf53 1 = .ok (.iload_n 1, 1) := by decide +kernel
theorem dJ9_max_7cf53_2 : decode cJ9_max_7cf53 2 = .ok (.if_icmp .lt 7, 3) := by decide +kernel
theorem dJ9_max_7cf53_5 : decode cJ9_max_7cf53 5 = .ok (.iload_n 0, 1) := by decide +kernel
theorem dJ9_max_7cf53_6 : decode cJ9_max_7cf53 6 = .ok (.goto 4, 3) := by decide +kernel
theorem dJ9_max_7cf53_9 : decode cJ9_max_7cf53 9 = .ok (.iload_n 1, 1) := by decide +kernel
theorem dJ9_max_7cf53_10 : decode cJ9_max_7cf53 10 = .ok (.ireturn, 1) := by decide +kernel
theorem dJ9_min_7cf53_0 : decode cJ9_min_7cf53 0 = .ok (.iload_n 0, 1) := by decide +kernel
theorem dJ9_min_7cf53_1 : decode cJ9_min_7cf53 1 = .ok (.iload_n 1, 1) := by decide +kernel
theorem dJ9_min_7cf53_2 : decode cJ9_min_7cf53 2 = .ok (.if_icmp .gt 7, 3) := by decide +kernel
theorem dJ9_min_7cf53_5 : decode cJ9_min_7cf53 5 = .ok (.iload_n 0, 1) := by decide +kernel
theorem dJ9_min_7cf53_6 : decode cJ9_min_7cf53 6 = .ok (.goto 4, 3) := by decide +kernel
theorem dJ9_min_7cf53_9 : decode cJ9_min_7cf53 9 = .ok (.iload_n 1, 1) := by decide +kernel
theorem dJ9_min_7cf53_10 : decode cJ9_min_7cf53 10 = .ok (.ireturn, 1) := by decide +kernel
theorem dL_law_0 : decode cL_law 0 = .ok (.new 7, 3) := by decide +kernel
theorem dL_law_3 : decode cL_law 3 = .ok (.dup, 1) := by decide +kernel
theorem dL_law_4 : decode cL_law 4 = .ok (.invokespecial 9, 3) := by decide +kernel
theorem dL_law_7 : decode cL_law 7 = .ok (.astore_n 1, 1) := by decide +kernel
theorem dL_law_8 : decode cL_law 8 = .ok (.new 10, 3) := by decide +kernel
theorem dL_law_11 : decode cL_law 11 = .ok (.dup, 1) := by decide +kernel
theorem dL_law_12 : decode cL_law 12 = .ok (.invokespecial 12, 3) := by decide +kernel
theorem dL_law_15 : decode cL_law 15 = .ok (.astore_n 2, 1) := by decide +kernel
theorem dL_law_16 : decode cL_law 16 = .ok (.iconst 0, 1) := by decide +kernel
theorem dL_law_17 : decode cL_law 17 = .ok (.istore_n 3, 1) := by decide +kernel
theorem dL_law_18 : decode cL_law 18 = .ok (.iload_n 3, 1) := by decide +kernel
theorem dL_law_19 : decode cL_law 19 = .ok (.aload_n 0, 1) := by decide +kernel
theorem dL_law_20 : decode cL_law 20 = .ok (.arraylength, 1) := by decide +kernel
theorem dL_law_21 : decode cL_law 21 = .ok (.iconst 4, 1) := by decide +kernel
theorem dL_law_22 : decode cL_law 22 = .ok (.isub, 1) := by decide +kernel
theorem dL_law_23 : decode cL_law 23 = .ok (.if_icmp .gt 899, 3) := by decide +kernel
theorem dL_law_26 : decode cL_law 26 = .ok (.aload_n 0, 1) := by decide +kernel
theorem dL_law_27 : decode cL_law 27 = .ok (.iload_n 3, 1) := by decide +kernel
theorem dL_law_28 : decode cL_law 28 = .ok (.iaload, 1) := by decide +kernel
theorem dL_law_29 : decode cL_law 29 = .ok (.bipush 31, 2) := by decide +kernel
theorem dL_law_31 : decode cL_law 31 = .ok (.iand, 1) := by decide +kernel
theorem dL_law_32 : decode cL_law 32 = .ok (.tableswitch 884 0 30 #[140, 163, 176, 189, 202, 215, 238, 261, 274, 297, 310, 333, 366, 379, 402, 435, 448, 481, 514, 527, 550, 573, 606, 629, 692, 725, 748, 761, 815, 838, 861], 140) := by decide +kernel
theorem dL_law_172 : decode cL_law 172 = .ok (.aload_n 1, 1) := by decide +kernel
theorem dL_law_173 : decode cL_law 173 = .ok (.aload_n 0, 1) := by decide +kernel
theorem dL_law_174 : decode cL_law 174 = .ok (.iload_n 3, 1) := by decide +kernel
theorem dL_law_175 : decode cL_law 175 = .ok (.iconst 1, 1) := by decide +kernel
theorem dL_law_176 : decode cL_law 176 = .ok (.iadd, 1) := by decide +kernel
theorem dL_law_177 : decode cL_law 177 = .ok (.iaload, 1) := by decide +kernel
theorem dL_law_178 : decode cL_law 178 = .ok (.invokevirtual 13, 3) := by decide +kernel
theorem dL_law_181 : decode cL_law 181 = .ok (.aload_n 2, 1) := by decide +kernel
theorem dL_law_182 : decode cL_law 182 = .ok (.aload_n 0, 1) := by decide +kernel
theorem dL_law_183 : decode cL_law 183 = .ok (.iload_n 3, 1) := by decide +kernel
theorem dL_law_184 : decode cL_law 184 = .ok (.iconst 1, 1) := by decide +kernel
theorem dL_law_185 : decode cL_law 185 = .ok (.iadd, 1) := by decide +kernel
theorem dL_law_186 : decode cL_law 186 = .ok (.iaload, 1) := by decide +kernel
theorem dL_law_187 : decode cL_law 187 = .ok (.invokevirtual 17, 3) := by decide +kernel
theorem dL_law_190 : decode cL_law 190 = .ok (.if_icmp .eq 726, 3) := by decide +kernel
theorem dL_law_193 : decode cL_law 193 = .ok (.iconst 0, 1) := by decide +kernel
theorem dL_law_194 : decode cL_law 194 = .ok (.ireturn, 1) := by decide +kernel
theorem dL_law_195 : decode cL_law 195 = .ok (.aload_n 1, 1) := by decide +kernel
theorem dL_law_196 : decode cL_law 196 = .ok (.invokevirtual 18, 3) := by decide +kernel
theorem dL_law_199 : decode cL_law 199 = .ok (.aload_n 2, 1) := by decide +kernel
theorem dL_law_200 : decode cL_law 200 = .ok (.invokevirtual 22, 3) := by decide +kernel
theorem dL_law_203 : decode cL_law 203 = .ok (.if_icmp .eq 713, 3) := by decide +kernel
theorem dL_law_206 : decode cL_law 206 = .ok (.iconst 0, 1) := by decide +kernel
theorem dL_law_207 : decode cL_law 207 = .ok (.ireturn, 1) := by decide +kernel
theorem dL_law_208 : decode cL_law 208 = .ok (.aload_n 1, 1) := by decide +kernel
theorem dL_law_209 : decode cL_law 209 = .ok (.invokevirtual 23, 3) := by decide +kernel
theorem dL_law_212 : decode cL_law 212 = .ok (.aload_n 2, 1) := by decide +kernel
theorem dL_law_213 : decode cL_law 213 = .ok (.invokevirtual 26, 3) := by decide +kernel
theorem dL_law_216 : decode cL_law 216 = .ok (.if_icmp .eq 700, 3) := by decide +kernel
theorem dL_law_219 : decode cL_law 219 = .ok (.iconst 0, 1) := by decide +kernel
theorem dL_law_220 : decode cL_law 220 = .ok (.ireturn, 1) := by decide +kernel
theorem dL_law_221 : decode cL_law 221 = .ok (.aload_n 1, 1) := by decide +kernel
theorem dL_law_222 : decode cL_law 222 = .ok (.invokevirtual 27, 3) := by decide +kernel
theorem dL_law_225 : decode cL_law 225 = .ok (.aload_n 2, 1) := by decide +kernel
theorem dL_law_226 : decode cL_law 226 = .ok (.invokevirtual 30, 3) := by decide +kernel
theorem dL_law_229 : decode cL_law 229 = .ok (.if_icmp .eq 687, 3) := by decide +kernel
theorem dL_law_232 : decode cL_law 232 = .ok (.iconst 0, 1) := by decide +kernel
theorem dL_law_233 : decode cL_law 233 = .ok (.ireturn, 1) := by decide +kernel
theorem dL_law_234 : decode cL_law 234 = .ok (.aload_n 1, 1) := by decide +kernel
theorem dL_law_235 : decode cL_law 235 = .ok (.invokevirtual 31, 3) := by decide +kernel
theorem dL_law_238 : decode cL_law 238 = .ok (.aload_n 2, 1) := by decide +kernel
theorem dL_law_239 : decode cL_law 239 = .ok (.invokevirtual 34, 3) := by decide +kernel
theorem dL_law_242 : decode cL_law 242 = .ok (.if_icmp .eq 674, 3) := by decide +kernel
theorem dL_law_245 : decode cL_law 245 = .ok (.iconst 0, 1) := by decide +kernel
theorem dL_law_246 : decode cL_law 246 = .ok (.ireturn, 1) := by decide +kernel
theorem dL_law_247 : decode cL_law 247 = .ok (.aload_n 1, 1) := by decide +kernel
theorem dL_law_248 : decode cL_law 248 = .ok (.aload_n 0, 1) := by decide +kernel
theorem dL_law_249 : decode cL_law 249 = .ok (.iload_n 3, 1) := by decide +kernel
theorem dL_law_250 : decode cL_law 250 = .ok (.iconst 1, 1) := by decide +kernel
theorem dL_law_251 : decode cL_law 251 = .ok (.iadd, 1) := by decide +kernel
theorem dL_law_252 : decode cL_law 252 = .ok (.iaload, 1) := by decide +kernel
theorem dL_law_253 : decode cL_law 253 = .ok (.invokevirtual 35, 3) := by decide +kernel
theorem dL_law_256 : decode cL_law 256 = .ok (.aload_n 2, 1) := by decide +kernel
theorem dL_law_257 : decode cL_law 257 = .ok (.aload_n 0, 1) := by decide +kernel
theorem dL_law_258 : decode cL_law 258 = .ok (.iload_n 3, 1) := by decide +kernel
theorem dL_law_259 : decode cL_law 259 = .ok (.iconst 1, 1) := by decide +kernel
theorem dL_law_260 : decode cL_law 260 = .ok (.iadd, 1) := by decide +kernel
theorem dL_law_261 : decode cL_law 261 = .ok (.iaload, 1) := by decide +kernel
theorem dL_law_262 : decode cL_law 262 = .ok (.invokevirtual 38, 3) := by decide +kernel
theorem dL_law_265 : decode cL_law 265 = .ok (.if_icmp .eq 651, 3) := by decide +kernel
theorem dL_law_268 : decode cL_law 268 = .ok (.iconst 0, 1) := by decide +kernel
theorem dL_law_269 : decode cL_law 269 = .ok (.ireturn, 1) := by decide +kernel
theorem dL_law_270 : decode cL_law 270 = .ok (.aload_n 1, 1) := by decide +kernel
theorem dL_law_271 : decode cL_law 271 = .ok (.aload_n 0, 1) := by decide +kernel
theorem dL_law_272 : decode cL_law 272 = .ok (.iload_n 3, 1) := by decide +kernel
theorem dL_law_273 : decode cL_law 273 = .ok (.iconst 1, 1) := by decide +kernel
theorem dL_law_274 : decode cL_law 274 = .ok (.iadd, 1) := by decide +kernel
theorem dL_law_275 : decode cL_law 275 = .ok (.iaload, 1) := by decide +kernel
theorem dL_law_276 : decode cL_law 276 = .ok (.invokevirtual 39, 3) := by decide +kernel
theorem dL_law_279 : decode cL_law 279 = .ok (.aload_n 2, 1) := by decide +kernel
theorem dL_law_280 : decode cL_law 280 = .ok (.aload_n 0, 1) := by decide +kernel
theorem dL_law_281 : decode cL_law 281 = .ok (.iload_n 3, 1) := by decide +kernel
theorem dL_law_282 : decode cL_law 282 = .ok (.iconst 1, 1) := by decide +kernel
theorem dL_law_283 : decode cL_law 283 = .ok (.iadd, 1) := by decide +kernel
theorem dL_law_284 : decode cL_law 284 = .ok (.iaload, 1) := by decide +kernel
theorem dL_law_285 : decode cL_law 285 = .ok (.invokevirtual 42, 3) := by decide +kernel
theorem dL_law_288 : decode cL_law 288 = .ok (.if_icmp .eq 628, 3) := by decide +kernel
theorem dL_law_291 : decode cL_law 291 = .ok (.iconst 0, 1) := by decide +kernel
theorem dL_law_292 : decode cL_law 292 = .ok (.ireturn, 1) := by decide +kernel
theorem dL_law_293 : decode cL_law 293 = .ok (.aload_n 1, 1) := by decide +kernel
theorem dL_law_294 : decode cL_law 294 = .ok (.invokevirtual 43, 3) := by decide +kernel
theorem dL_law_297 : decode cL_law 297 = .ok (.aload_n 2, 1) := by decide +kernel
theorem dL_law_298 : decode cL_law 298 = .ok (.invokevirtual 46, 3) := by decide +kernel
theorem dL_law_301 : decode cL_law 301 = .ok (.if_icmp .eq 615, 3) := by decide +kernel
theorem dL_law_304 : decode cL_law 304 = .ok (.iconst 0, 1) := by decide +kernel
theorem dL_law_305 : decode cL_law 305 = .ok (.ireturn, 1) := by decide +kernel
theorem dL_law_306 : decode cL_law 306 = .ok (.aload_n 1, 1) := by decide +kernel
theorem dL_law_307 : decode cL_law 307 = .ok (.aload_n 0, 1) := by decide +kernel
theorem dL_law_308 : decode cL_law 308 = .ok (.iload_n 3, 1) := by decide +kernel
theorem dL_law_309 : decode cL_law 309 = .ok (.iconst 1, 1) := by decide +kernel
theorem dL_law_310 : decode cL_law 310 = .ok (.iadd, 1) := by decide +kernel
theorem dL_law_311 : decode cL_law 311 = .ok (.iaload, 1) := by decide +kernel
theorem dL_law_312 : decode cL_law 312 = .ok (.invokevirtual 47, 3) := by decide +kernel
theorem dL_law_315 : decode cL_law 315 = .ok (.aload_n 2, 1) := by decide +kernel
theorem dL_law_316 : decode cL_law 316 = .ok (.aload_n 0, 1) := by decide +kernel
theorem dL_law_317 : decode cL_law 317 = .ok (.iload_n 3, 1) := by decide +kernel
theorem dL_law_318 : decode cL_law 318 = .ok (.iconst 1, 1) := by decide +kernel
theorem dL_law_319 : decode cL_law 319 = .ok (.iadd, 1) := by decide +kernel
theorem dL_law_320 : decode cL_law 320 = .ok (.iaload, 1) := by decide +kernel
theorem dL_law_321 : decode cL_law 321 = .ok (.invokevirtual 50, 3) := by decide +kernel
theorem dL_law_324 : decode cL_law 324 = .ok (.if_icmp .eq 592, 3) := by decide +kernel
theorem dL_law_327 : decode cL_law 327 = .ok (.iconst 0, 1) := by decide +kernel
theorem dL_law_328 : decode cL_law 328 = .ok (.ireturn, 1) := by decide +kernel
theorem dL_law_329 : decode cL_law 329 = .ok (.aload_n 1, 1) := by decide +kernel
theorem dL_law_330 : decode cL_law 330 = .ok (.invokevirtual 51, 3) := by decide +kernel
theorem dL_law_333 : decode cL_law 333 = .ok (.aload_n 2, 1) := by decide +kernel
theorem dL_law_334 : decode cL_law 334 = .ok (.invokevirtual 54, 3) := by decide +kernel
theorem dL_law_337 : decode cL_law 337 = .ok (.if_icmp .eq 579, 3) := by decide +kernel
theorem dL_law_340 : decode cL_law 340 = .ok (.iconst 0, 1) := by decide +kernel
theorem dL_law_341 : decode cL_law 341 = .ok (.ireturn, 1) := by decide +kernel
theorem dL_law_342 : decode cL_law 342 = .ok (.aload_n 1, 1) := by decide +kernel
theorem dL_law_343 : decode cL_law 343 = .ok (.aload_n 0, 1) := by decide +kernel
theorem dL_law_344 : decode cL_law 344 = .ok (.iload_n 3, 1) := by decide +kernel
theorem dL_law_345 : decode cL_law 345 = .ok (.iconst 1, 1) := by decide +kernel
theorem dL_law_346 : decode cL_law 346 = .ok (.iadd, 1) := by decide +kernel
theorem dL_law_347 : decode cL_law 347 = .ok (.iaload, 1) := by decide +kernel
theorem dL_law_348 : decode cL_law 348 = .ok (.invokevirtual 55, 3) := by decide +kernel
theorem dL_law_351 : decode cL_law 351 = .ok (.aload_n 2, 1) := by decide +kernel
theorem dL_law_352 : decode cL_law 352 = .ok (.aload_n 0, 1) := by decide +kernel
theorem dL_law_353 : decode cL_law 353 = .ok (.iload_n 3, 1) := by decide +kernel
theorem dL_law_354 : decode cL_law 354 = .ok (.iconst 1, 1) := by decide +kernel
theorem dL_law_355 : decode cL_law 355 = .ok (.iadd, 1) := by decide +kernel
theorem dL_law_356 : decode cL_law 356 = .ok (.iaload, 1) := by decide +kernel
theorem dL_law_357 : decode cL_law 357 = .ok (.invokevirtual 58, 3) := by decide +kernel
theorem dL_law_360 : decode cL_law 360 = .ok (.if_icmp .eq 556, 3) := by decide +kernel
theorem dL_law_363 : decode cL_law 363 = .ok (.iconst 0, 1) := by decide +kernel
theorem dL_law_364 : decode cL_law 364 = .ok (.ireturn, 1) := by decide +kernel
theorem dL_law_365 : decode cL_law 365 = .ok (.aload_n 1, 1) := by decide +kernel
theorem dL_law_366 : decode cL_law 366 = .ok (.aload_n 0, 1) := by decide +kernel
theorem dL_law_367 : decode cL_law 367 = .ok (.iload_n 3, 1) := by decide +kernel
theorem dL_law_368 : decode cL_law 368 = .ok (.iconst 1, 1) := by decide +kernel
theorem dL_law_369 : decode cL_law 369 = .ok (.iadd, 1) := by decide +kernel
theorem dL_law_370 : decode cL_law 370 = .ok (.iaload, 1) := by decide +kernel
theorem dL_law_371 : decode cL_law 371 = .ok (.aload_n 0, 1) := by decide +kernel
theorem dL_law_372 : decode cL_law 372 = .ok (.iload_n 3, 1) := by decide +kernel
theorem dL_law_373 : decode cL_law 373 = .ok (.iconst 2, 1) := by decide +kernel
theorem dL_law_374 : decode cL_law 374 = .ok (.iadd, 1) := by decide +kernel
theorem dL_law_375 : decode cL_law 375 = .ok (.iaload, 1) := by decide +kernel
theorem dL_law_376 : decode cL_law 376 = .ok (.invokevirtual 59, 3) := by decide +kernel
theorem dL_law_379 : decode cL_law 379 = .ok (.aload_n 2, 1) := by decide +kernel
theorem dL_law_380 : decode cL_law 380 = .ok (.aload_n 0, 1) := by decide +kernel
theorem dL_law_381 : decode cL_law 381 = .ok (.iload_n 3, 1) := by decide +kernel
theorem dL_law_382 : decode cL_law 382 = .ok (.iconst 1, 1) := by decide +kernel
theorem dL_law_383 : decode cL_law 383 = .ok (.iadd, 1) := by decide +kernel
theorem dL_law_384 : decode cL_law 384 = .ok (.iaload, 1) := by decide +kernel
theorem dL_law_385 : decode cL_law 385 = .ok (.aload_n 0, 1) := by decide +kernel
theorem dL_law_386 : decode cL_law 386 = .ok (.iload_n 3, 1) := by decide +kernel
theorem dL_law_387 : decode cL_law 387 = .ok (.iconst 2, 1) := by decide +kernel
theorem dL_law_388 : decode cL_law 388 = .ok (.iadd, 1) := by decide +kernel
theorem dL_law_389 : decode cL_law 389 = .ok (.iaload, 1) := by decide +kernel
theorem dL_law_390 : decode cL_law 390 = .ok (.invokevirtual 63, 3) := by decide +kernel
theorem dL_law_393 : decode cL_law 393 = .ok (.if_icmp .eq 523, 3) := by decide +kernel
theorem dL_law_396 : decode cL_law 396 = .ok (.iconst 0, 1) := by decide +kernel
theorem dL_law_397 : decode cL_law 397 = .ok (.ireturn, 1) := by decide +kernel
theorem dL_law_398 : decode cL_law 398 = .ok (.aload_n 1, 1) := by decide +kernel
theorem dL_law_399 : decode cL_law 399 = .ok (.invokevirtual 64, 3) := by decide +kernel
theorem dL_law_402 : decode cL_law 402 = .ok (.aload_n 2, 1) := by decide +kernel
theorem dL_law_403 : decode cL_law 403 = .ok (.invokevirtual 67, 3) := by decide +kernel
theorem dL_law_406 : decode cL_law 406 = .ok (.if_icmp .eq 510, 3) := by decide +kernel
theorem dL_law_409 : decode cL_law 409 = .ok (.iconst 0, 1) := by decide +kernel
theorem dL_law_410 : decode cL_law 410 = .ok (.ireturn, 1) := by decide +kernel
theorem dL_law_411 : decode cL_law 411 = .ok (.aload_n 1, 1) := by decide +kernel
theorem dL_law_412 : decode cL_law 412 = .ok (.aload_n 0, 1) := by decide +kernel
theorem dL_law_413 : decode cL_law 413 = .ok (.iload_n 3, 1) := by decide +kernel
theorem dL_law_414 : decode cL_law 414 = .ok (.iconst 1, 1) := by decide +kernel
theorem dL_law_415 : decode cL_law 415 = .ok (.iadd, 1) := by decide +kernel
theorem dL_law_416 : decode cL_law 416 = .ok (.iaload, 1) := by decide +kernel
theorem dL_law_417 : decode cL_law 417 = .ok (.invokevirtual 68, 3) := by decide +kernel
theorem dL_law_420 : decode cL_law 420 = .ok (.aload_n 2, 1) := by decide +kernel
theorem dL_law_421 : decode cL_law 421 = .ok (.aload_n 0, 1) := by decide +kernel
theorem dL_law_422 : decode cL_law 422 = .ok (.iload_n 3, 1) := by decide +kernel
theorem dL_law_423 : decode cL_law 423 = .ok (.iconst 1, 1) := by decide +kernel
theorem dL_law_424 : decode cL_law 424 = .ok (.iadd, 1) := by decide +kernel
theorem dL_law_425 : decode cL_law 425 = .ok (.iaload, 1) := by decide +kernel
theorem dL_law_426 : decode cL_law 426 = .ok (.invokevirtual 71, 3) := by decide +kernel
theorem dL_law_429 : decode cL_law 429 = .ok (.if_icmp .eq 487, 3) := by decide +kernel
theorem dL_law_432 : decode cL_law 432 = .ok (.iconst 0, 1) := by decide +kernel
theorem dL_law_433 : decode cL_law 433 = .ok (.ireturn, 1) := by decide +kernel
theorem dL_law_434 : decode cL_law 434 = .ok (.aload_n 1, 1) := by decide +kernel
theorem dL_law_435 : decode cL_law 435 = .ok (.aload_n 0, 1) := by decide +kernel
theorem dL_law_436 : decode cL_law 436 = .ok (.iload_n 3, 1) := by decide +kernel
theorem dL_law_437 : decode cL_law 437 = .ok (.iconst 1, 1) := by decide +kernel
theorem dL_law_438 : decode cL_law 438 = .ok (.iadd, 1) := by decide +kernel
theorem dL_law_439 : decode cL_law 439 = .ok (.iaload, 1) := by decide +kernel
theorem dL_law_440 : decode cL_law 440 = .ok (.aload_n 0, 1) := by decide +kernel
theorem dL_law_441 : decode cL_law 441 = .ok (.iload_n 3, 1) := by decide +kernel
theorem dL_law_442 : decode cL_law 442 = .ok (.iconst 2, 1) := by decide +kernel
theorem dL_law_443 : decode cL_law 443 = .ok (.iadd, 1) := by decide +kernel
theorem dL_law_444 : decode cL_law 444 = .ok (.iaload, 1) := by decide +kernel
theorem dL_law_445 : decode cL_law 445 = .ok (.invokevirtual 72, 3) := by decide +kernel
theorem dL_law_448 : decode cL_law 448 = .ok (.aload_n 2, 1) := by decide +kernel
theorem dL_law_449 : decode cL_law 449 = .ok (.aload_n 0, 1) := by decide +kernel
theorem dL_law_450 : decode cL_law 450 = .ok (.iload_n 3, 1) := by decide +kernel
theorem dL_law_451 : decode cL_law 451 = .ok (.iconst 1, 1) := by decide +kernel
theorem dL_law_452 : decode cL_law 452 = .ok (.iadd, 1) := by decide +kernel
theorem dL_law_453 : decode cL_law 453 = .ok (.iaload, 1) := by decide +kernel
theorem dL_law_454 : decode cL_law 454 = .ok (.aload_n 0, 1) := by decide +kernel
theorem dL_law_455 : decode cL_law 455 = .ok (.iload_n 3, 1) := by decide +kernel
theorem dL_law_456 : decode cL_law 456 = .ok (.iconst 2, 1) := by decide +kernel
theorem dL_law_457 : decode cL_law 457 = .ok (.iadd, 1) := by decide +kernel
theorem dL_law_458 : decode cL_law 458 = .ok (.iaload, 1) := by decide +kernel
theorem dL_law_459 : decode cL_law 459 = .ok (.invokevirtual 75, 3) := by decide +kernel
theorem dL_law_462 : decode cL_law 462 = .ok (.if_icmp .eq 454, 3) := by decide +kernel
theorem dL_law_465 : decode cL_law 465 = .ok (.iconst 0, 1) := by decide +kernel
theorem dL_law_466 : decode cL_law 466 = .ok (.ireturn, 1) := by decide +kernel
theorem dL_law_467 : decode cL_law 467 = .ok (.aload_n 1, 1) := by decide +kernel
theorem dL_law_468 : decode cL_law 468 = .ok (.invokevirtual 76, 3) := by decide +kernel
theorem dL_law_471 : decode cL_law 471 = .ok (.aload_n 2, 1) := by decide +kernel
theorem dL_law_472 : decode cL_law 472 = .ok (.invokevirtual 79, 3) := by decide +kernel
theorem dL_law_475 : decode cL_law 475 = .ok (.if_icmp .eq 441, 3) := by decide +kernel
theorem dL_law_478 : decode cL_law 478 = .ok (.iconst 0, 1) := by decide +kernel
theorem dL_law_479 : decode cL_law 479 = .ok (.ireturn, 1) := by decide +kernel
theorem dL_law_480 : decode cL_law 480 = .ok (.aload_n 1, 1) := by decide +kernel
theorem dL_law_481 : decode cL_law 481 = .ok (.aload_n 0, 1) := by decide +kernel
theorem dL_law_482 : decode cL_law 482 = .ok (.iload_n 3, 1) := by decide +kernel
theorem dL_law_483 : decode cL_law 483 = .ok (.iconst 1, 1) := by decide +kernel
theorem dL_law_484 : decode cL_law 484 = .ok (.iadd, 1) := by decide +kernel
theorem dL_law_485 : decode cL_law 485 = .ok (.iaload, 1) := by decide +kernel
theorem dL_law_486 : decode cL_law 486 = .ok (.aload_n 0, 1) := by decide +kernel
theorem dL_law_487 : decode cL_law 487 = .ok (.iload_n 3, 1) := by decide +kernel
theorem dL_law_488 : decode cL_law 488 = .ok (.iconst 2, 1) := by decide +kernel
theorem dL_law_489 : decode cL_law 489 = .ok (.iadd, 1) := by decide +kernel
theorem dL_law_490 : decode cL_law 490 = .ok (.iaload, 1) := by decide +kernel
theorem dL_law_491 : decode cL_law 491 = .ok (.invokevirtual 80, 3) := by decide +kernel
theorem dL_law_494 : decode cL_law 494 = .ok (.aload_n 2, 1) := by decide +kernel
theorem dL_law_495 : decode cL_law 495 = .ok (.aload_n 0, 1) := by decide +kernel
theorem dL_law_496 : decode cL_law 496 = .ok (.iload_n 3, 1) := by decide +kernel
theorem dL_law_497 : decode cL_law 497 = .ok (.iconst 1, 1) := by decide +kernel
theorem dL_law_498 : decode cL_law 498 = .ok (.iadd, 1) := by decide +kernel
theorem dL_law_499 : decode cL_law 499 = .ok (.iaload, 1) := by decide +kernel
theorem dL_law_500 : decode cL_law 500 = .ok (.aload_n 0, 1) := by decide +kernel
theorem dL_law_501 : decode cL_law 501 = .ok (.iload_n 3, 1) := by decide +kernel
theorem dL_law_502 : decode cL_law 502 = .ok (.iconst 2, 1) := by decide +kernel
theorem dL_law_503 : decode cL_law 503 = .ok (.iadd, 1) := by decide +kernel
theorem dL_law_504 : decode cL_law 504 = .ok (.iaload, 1) := by decide +kernel
theorem dL_law_505 : decode cL_law 505 = .ok (.invokevirtual 83, 3) := by decide +kernel
theorem dL_law_508 : decode cL_law 508 = .ok (.if_icmp .eq 408, 3) := by decide +kernel
theorem dL_law_511 : decode cL_law 511 = .ok (.iconst 0, 1) := by decide +kernel
theorem dL_law_512 : decode cL_law 512 = .ok (.ireturn, 1) := by decide +kernel
theorem dL_law_513 : decode cL_law 513 = .ok (.aload_n 1, 1) := by decide +kernel
theorem dL_law_514 : decode cL_law 514 = .ok (.aload_n 0, 1) := by decide +kernel
theorem dL_law_515 : decode cL_law 515 = .ok (.iload_n 3, 1) := by decide +kernel
theorem dL_law_516 : decode cL_law 516 = .ok (.iconst 1, 1) := by decide +kernel
theorem dL_law_517 : decode cL_law 517 = .ok (.iadd, 1) := by decide +kernel
theorem dL_law_518 : decode cL_law 518 = .ok (.iaload, 1) := by decide +kernel
theorem dL_law_519 : decode cL_law 519 = .ok (.aload_n 0, 1) := by decide +kernel
theorem dL_law_520 : decode cL_law 520 = .ok (.iload_n 3, 1) := by decide +kernel
theorem dL_law_521 : decode cL_law 521 = .ok (.iconst 2, 1) := by decide +kernel
theorem dL_law_522 : decode cL_law 522 = .ok (.iadd, 1) := by decide +kernel
theorem dL_law_523 : decode cL_law 523 = .ok (.iaload, 1) := by decide +kernel
theorem dL_law_524 : decode cL_law 524 = .ok (.invokevirtual 84, 3) := by decide +kernel
theorem dL_law_527 : decode cL_law 527 = .ok (.aload_n 2, 1) := by decide +kernel
theorem dL_law_528 : decode cL_law 528 = .ok (.aload_n 0, 1) := by decide +kernel
theorem dL_law_529 : decode cL_law 529 = .ok (.iload_n 3, 1) := by decide +kernel
theorem dL_law_530 : decode cL_law 530 = .ok (.iconst 1, 1) := by decide +kernel
theorem dL_law_531 : decode cL_law 531 = .ok (.iadd, 1) := by decide +kernel
theorem dL_law_532 : decode cL_law 532 = .ok (.iaload, 1) := by decide +kernel
theorem dL_law_533 : decode cL_law 533 = .ok (.aload_n 0, 1) := by decide +kernel
theorem dL_law_534 : decode cL_law 534 = .ok (.iload_n 3, 1) := by decide +kernel
theorem dL_law_535 : decode cL_law 535 = .ok (.iconst 2, 1) := by decide +kernel
theorem dL_law_536 : decode cL_law 536 = .ok (.iadd, 1) := by decide +kernel
theorem dL_law_537 : decode cL_law 537 = .ok (.iaload, 1) := by decide +kernel
theorem dL_law_538 : decode cL_law 538 = .ok (.invokevirtual 87, 3) := by decide +kernel
theorem dL_law_541 : decode cL_law 541 = .ok (.if_icmp .eq 375, 3) := by decide +kernel
theorem dL_law_544 : decode cL_law 544 = .ok (.iconst 0, 1) := by decide +kernel
theorem dL_law_545 : decode cL_law 545 = .ok (.ireturn, 1) := by decide +kernel
theorem dL_law_546 : decode cL_law 546 = .ok (.aload_n 1, 1) := by decide +kernel
theorem dL_law_547 : decode cL_law 547 = .ok (.invokevirtual 88, 3) := by decide +kernel
theorem dL_law_550 : decode cL_law 550 = .ok (.aload_n 2, 1) := by decide +kernel
theorem dL_law_551 : decode cL_law 551 = .ok (.invokevirtual 91, 3) := by decide +kernel
theorem dL_law_554 : decode cL_law 554 = .ok (.if_icmp .eq 362, 3) := by decide +kernel
theorem dL_law_557 : decode cL_law 557 = .ok (.iconst 0, 1) := by decide +kernel
theorem dL_law_558 : decode cL_law 558 = .ok (.ireturn, 1) := by decide +kernel
theorem dL_law_559 : decode cL_law 559 = .ok (.aload_n 1, 1) := by decide +kernel
theorem dL_law_560 : decode cL_law 560 = .ok (.aload_n 0, 1) := by decide +kernel
theorem dL_law_561 : decode cL_law 561 = .ok (.iload_n 3, 1) := by decide +kernel
theorem dL_law_562 : decode cL_law 562 = .ok (.iconst 1, 1) := by decide +kernel
theorem dL_law_563 : decode cL_law 563 = .ok (.iadd, 1) := by decide +kernel
theorem dL_law_564 : decode cL_law 564 = .ok (.iaload, 1) := by decide +kernel
theorem dL_law_565 : decode cL_law 565 = .ok (.invokevirtual 92, 3) := by decide +kernel
theorem dL_law_568 : decode cL_law 568 = .ok (.aload_n 2, 1) := by decide +kernel
theorem dL_law_569 : decode cL_law 569 = .ok (.aload_n 0, 1) := by decide +kernel
theorem dL_law_570 : decode cL_law 570 = .ok (.iload_n 3, 1) := by decide +kernel
theorem dL_law_571 : decode cL_law 571 = .ok (.iconst 1, 1) := by decide +kernel
theorem dL_law_572 : decode cL_law 572 = .ok (.iadd, 1) := by decide +kernel
theorem dL_law_573 : decode cL_law 573 = .ok (.iaload, 1) := by decide +kernel
theorem dL_law_574 : decode cL_law 574 = .ok (.invokevirtual 95, 3) := by decide +kernel
theorem dL_law_577 : decode cL_law 577 = .ok (.if_icmp .eq 339, 3) := by decide +kernel
theorem dL_law_580 : decode cL_law 580 = .ok (.iconst 0, 1) := by decide +kernel
theorem dL_law_581 : decode cL_law 581 = .ok (.ireturn, 1) := by decide +kernel
theorem dL_law_582 : decode cL_law 582 = .ok (.aload_n 1, 1) := by decide +kernel
theorem dL_law_583 : decode cL_law 583 = .ok (.aload_n 0, 1) := by decide +kernel
theorem dL_law_584 : decode cL_law 584 = .ok (.iload_n 3, 1) := by decide +kernel
theorem dL_law_585 : decode cL_law 585 = .ok (.iconst 1, 1) := by decide +kernel
theorem dL_law_586 : decode cL_law 586 = .ok (.iadd, 1) := by decide +kernel
theorem dL_law_587 : decode cL_law 587 = .ok (.iaload, 1) := by decide +kernel
theorem dL_law_588 : decode cL_law 588 = .ok (.invokevirtual 96, 3) := by decide +kernel
theorem dL_law_591 : decode cL_law 591 = .ok (.aload_n 2, 1) := by decide +kernel
theorem dL_law_592 : decode cL_law 592 = .ok (.aload_n 0, 1) := by decide +kernel
theorem dL_law_593 : decode cL_law 593 = .ok (.iload_n 3, 1) := by decide +kernel
theorem dL_law_594 : decode cL_law 594 = .ok (.iconst 1, 1) := by decide +kernel
theorem dL_law_595 : decode cL_law 595 = .ok (.iadd, 1) := by decide +kernel
theorem dL_law_596 : decode cL_law 596 = .ok (.iaload, 1) := by decide +kernel
theorem dL_law_597 : decode cL_law 597 = .ok (.invokevirtual 99, 3) := by decide +kernel
theorem dL_law_600 : decode cL_law 600 = .ok (.if_icmp .eq 316, 3) := by decide +kernel
theorem dL_law_603 : decode cL_law 603 = .ok (.iconst 0, 1) := by decide +kernel
theorem dL_law_604 : decode cL_law 604 = .ok (.ireturn, 1) := by decide +kernel
theorem dL_law_605 : decode cL_law 605 = .ok (.aload_n 1, 1) := by decide +kernel
theorem dL_law_606 : decode cL_law 606 = .ok (.aload_n 0, 1) := by decide +kernel
theorem dL_law_607 : decode cL_law 607 = .ok (.iload_n 3, 1) := by decide +kernel
theorem dL_law_608 : decode cL_law 608 = .ok (.iconst 1, 1) := by decide +kernel
theorem dL_law_609 : decode cL_law 609 = .ok (.iadd, 1) := by decide +kernel
theorem dL_law_610 : decode cL_law 610 = .ok (.iaload, 1) := by decide +kernel
theorem dL_law_611 : decode cL_law 611 = .ok (.aload_n 0, 1) := by decide +kernel
theorem dL_law_612 : decode cL_law 612 = .ok (.iload_n 3, 1) := by decide +kernel
theorem dL_law_613 : decode cL_law 613 = .ok (.iconst 2, 1) := by decide +kernel
theorem dL_law_614 : decode cL_law 614 = .ok (.iadd, 1) := by decide +kernel
theorem dL_law_615 : decode cL_law 615 = .ok (.iaload, 1) := by decide +kernel
theorem dL_law_616 : decode cL_law 616 = .ok (.invokevirtual 100, 3) := by decide +kernel
theorem dL_law_619 : decode cL_law 619 = .ok (.aload_n 2, 1) := by decide +kernel
theorem dL_law_620 : decode cL_law 620 = .ok (.aload_n 0, 1) := by decide +kernel
theorem dL_law_621 : decode cL_law 621 = .ok (.iload_n 3, 1) := by decide +kernel
theorem dL_law_622 : decode cL_law 622 = .ok (.iconst 1, 1) := by decide +kernel
theorem dL_law_623 : decode cL_law 623 = .ok (.iadd, 1) := by decide +kernel
theorem dL_law_624 : decode cL_law 624 = .ok (.iaload, 1) := by decide +kernel
theorem dL_law_625 : decode cL_law 625 = .ok (.aload_n 0, 1) := by decide +kernel
theorem dL_law_626 : decode cL_law 626 = .ok (.iload_n 3, 1) := by decide +kernel
theorem dL_law_627 : decode cL_law 627 = .ok (.iconst 2, 1) := by decide +kernel
theorem dL_law_628 : decode cL_law 628 = .ok (.iadd, 1) := by decide +kernel
theorem dL_law_629 : decode cL_law 629 = .ok (.iaload, 1) := by decide +kernel
theorem dL_law_630 : decode cL_law 630 = .ok (.invokevirtual 103, 3) := by decide +kernel
theorem dL_law_633 : decode cL_law 633 = .ok (.if_icmp .eq 283, 3) := by decide +kernel
theorem dL_law_636 : decode cL_law 636 = .ok (.iconst 0, 1) := by decide +kernel
theorem dL_law_637 : decode cL_law 637 = .ok (.ireturn, 1) := by decide +kernel
theorem dL_law_638 : decode cL_law 638 = .ok (.aload_n 1, 1) := by decide +kernel
theorem dL_law_639 : decode cL_law 639 = .ok (.aload_n 0, 1) := by decide +kernel
theorem dL_law_640 : decode cL_law 640 = .ok (.iload_n 3, 1) := by decide +kernel
theorem dL_law_641 : decode cL_law 641 = .ok (.iconst 1, 1) := by decide +kernel
theorem dL_law_642 : decode cL_law 642 = .ok (.iadd, 1) := by decide +kernel
theorem dL_law_643 : decode cL_law 643 = .ok (.iaload, 1) := by decide +kernel
theorem dL_law_644 : decode cL_law 644 = .ok (.invokevirtual 104, 3) := by decide +kernel
theorem dL_law_647 : decode cL_law 647 = .ok (.aload_n 2, 1) := by decide +kernel
theorem dL_law_648 : decode cL_law 648 = .ok (.aload_n 0, 1) := by decide +kernel
theorem dL_law_649 : decode cL_law 649 = .ok (.iload_n 3, 1) := by decide +kernel
theorem dL_law_650 : decode cL_law 650 = .ok (.iconst 1, 1) := by decide +kernel
theorem dL_law_651 : decode cL_law 651 = .ok (.iadd, 1) := by decide +kernel
theorem dL_law_652 : decode cL_law 652 = .ok (.iaload, 1) := by decide +kernel
theorem dL_law_653 : decode cL_law 653 = .ok (.invokevirtual 107, 3) := by decide +kernel
theorem dL_law_656 : decode cL_law 656 = .ok (.if_icmp .eq 260, 3) := by decide +kernel
theorem dL_law_659 : decode cL_law 659 = .ok (.iconst 0, 1) := by decide +kernel
theorem dL_law_660 : decode cL_law 660 = .ok (.ireturn, 1) := by decide +kernel
theorem dL_law_661 : decode cL_law 661 = .ok (.aload_n 1, 1) := by decide +kernel
theorem dL_law_662 : decode cL_law 662 = .ok (.aload_n 0, 1) := by decide +kernel
theorem dL_law_663 : decode cL_law 663 = .ok (.iload_n 3, 1) := by decide +kernel
theorem dL_law_664 : decode cL_law 664 = .ok (.iconst 1, 1) := by decide +kernel
theorem dL_law_665 : decode cL_law 665 = .ok (.iadd, 1) := by decide +kernel
theorem dL_law_666 : decode cL_law 666 = .ok (.iaload, 1) := by decide +kernel
theorem dL_law_667 : decode cL_law 667 = .ok (.aload_n 0, 1) := by decide +kernel
theorem dL_law_668 : decode cL_law 668 = .ok (.iload_n 3, 1) := by decide +kernel
theorem dL_law_669 : decode cL_law 669 = .ok (.iconst 2, 1) := by decide +kernel
theorem dL_law_670 : decode cL_law 670 = .ok (.iadd, 1) := by decide +kernel
theorem dL_law_671 : decode cL_law 671 = .ok (.iaload, 1) := by decide +kernel
theorem dL_law_672 : decode cL_law 672 = .ok (.i2l, 1) := by decide +kernel
theorem dL_law_673 : decode cL_law 673 = .ok (.bipush 32, 2) := by decide +kernel
theorem dL_law_675 : decode cL_law 675 = .ok (.lshl, 1) := by decide +kernel
theorem dL_law_676 : decode cL_law 676 = .ok (.aload_n 0, 1) := by decide +kernel
theorem dL_law_677 : decode cL_law 677 = .ok (.iload_n 3, 1) := by decide +kernel
theorem dL_law_678 : decode cL_law 678 = .ok (.iconst 3, 1) := by decide +kernel
theorem dL_law_679 : decode cL_law 679 = .ok (.iadd, 1) := by decide +kernel
theorem dL_law_680 : decode cL_law 680 = .ok (.iaload, 1) := by decide +kernel
theorem dL_law_681 : decode cL_law 681 = .ok (.i2l, 1) := by decide +kernel
theorem dL_law_682 : decode cL_law 682 = .ok (.ldc2_w 108, 3) := by decide +kernel
theorem dL_law_685 : decode cL_law 685 = .ok (.land, 1) := by decide +kernel
theorem dL_law_686 : decode cL_law 686 = .ok (.lor, 1) := by decide +kernel
theorem dL_law_687 : decode cL_law 687 = .ok (.invokevirtual 110, 3) := by decide +kernel
theorem dL_law_690 : decode cL_law 690 = .ok (.aload_n 2, 1) := by decide +kernel
theorem dL_law_691 : decode cL_law 691 = .ok (.aload_n 0, 1) := by decide +kernel
theorem dL_law_692 : decode cL_law 692 = .ok (.iload_n 3, 1) := by decide +kernel
theorem dL_law_693 : decode cL_law 693 = .ok (.iconst 1, 1) := by decide +kernel
theorem dL_law_694 : decode cL_law 694 = .ok (.iadd, 1) := by decide +kernel
theorem dL_law_695 : decode cL_law 695 = .ok (.iaload, 1) := by decide +kernel
theorem dL_law_696 : decode cL_law 696 = .ok (.aload_n 0, 1) := by decide +kernel
theorem dL_law_697 : decode cL_law 697 = .ok (.iload_n 3, 1) := by decide +kernel
theorem dL_law_698 : decode cL_law 698 = .ok (.iconst 2, 1) := by decide +kernel
theorem dL_law_699 : decode cL_law 699 = .ok (.iadd, 1) := by decide +kernel
theorem dL_law_700 : decode cL_law 700 = .ok (.iaload, 1) := by decide +kernel
theorem dL_law_701 : decode cL_law 701 = .ok (.i2l, 1) := by decide +kernel
theorem dL_law_702 : decode cL_law 702 = .ok (.bipush 32, 2) := by decide +kernel
theorem dL_law_704 : decode cL_law 704 = .ok (.lshl, 1) := by decide +kernel
theorem dL_law_705 : decode cL_law 705 = .ok (.aload_n 0, 1) := by decide +kernel
theorem dL_law_706 : decode cL_law 706 = .ok (.iload_n 3, 1) := by decide +kernel
theorem dL_law_707 : decode cL_law 707 = .ok (.iconst 3, 1) := by decide +kernel
theorem dL_law_708 : decode cL_law 708 = .ok (.iadd, 1) := by decide +kernel
theorem dL_law_709 : decode cL_law 709 = .ok (.iaload, 1) := by decide +kernel
theorem dL_law_710 : decode cL_law 710 = .ok (.i2l, 1) := by decide +kernel
theorem dL_law_711 : decode cL_law 711 = .ok (.ldc2_w 108, 3) := by decide +kernel
theorem dL_law_714 : decode cL_law 714 = .ok (.land, 1) := by decide +kernel
theorem dL_law_715 : decode cL_law 715 = .ok (.lor, 1) := by decide +kernel
theorem dL_law_716 : decode cL_law 716 = .ok (.invokevirtual 114, 3) := by decide +kernel
theorem dL_law_719 : decode cL_law 719 = .ok (.if_icmp .eq 197, 3) := by decide +kernel
theorem dL_law_722 : decode cL_law 722 = .ok (.iconst 0, 1) := by decide +kernel
theorem dL_law_723 : decode cL_law 723 = .ok (.ireturn, 1) := by decide +kernel
theorem dL_law_724 : decode cL_law 724 = .ok (.aload_n 1, 1) := by decide +kernel
theorem dL_law_725 : decode cL_law 725 = .ok (.aload_n 0, 1) := by decide +kernel
theorem dL_law_726 : decode cL_law 726 = .ok (.iload_n 3, 1) := by decide +kernel
theorem dL_law_727 : decode cL_law 727 = .ok (.iconst 1, 1) := by decide +kernel
theorem dL_law_728 : decode cL_law 728 = .ok (.iadd, 1) := by decide +kernel
theorem dL_law_729 : decode cL_law 729 = .ok (.iaload, 1) := by decide +kernel
theorem dL_law_730 : decode cL_law 730 = .ok (.aload_n 0, 1) := by decide +kernel
theorem dL_law_731 : decode cL_law 731 = .ok (.iload_n 3, 1) := by decide +kernel
theorem dL_law_732 : decode cL_law 732 = .ok (.iconst 2, 1) := by decide +kernel
theorem dL_law_733 : decode cL_law 733 = .ok (.iadd, 1) := by decide +kernel
theorem dL_law_734 : decode cL_law 734 = .ok (.iaload, 1) := by decide +kernel
theorem dL_law_735 : decode cL_law 735 = .ok (.invokevirtual 115, 3) := by decide +kernel
theorem dL_law_738 : decode cL_law 738 = .ok (.aload_n 2, 1) := by decide +kernel
theorem dL_law_739 : decode cL_law 739 = .ok (.aload_n 0, 1) := by decide +kernel
theorem dL_law_740 : decode cL_law 740 = .ok (.iload_n 3, 1) := by decide +kernel
theorem dL_law_741 : decode cL_law 741 = .ok (.iconst 1, 1) := by decide +kernel
theorem dL_law_742 : decode cL_law 742 = .ok (.iadd, 1) := by decide +kernel
theorem dL_law_743 : decode cL_law 743 = .ok (.iaload, 1) := by decide +kernel
theorem dL_law_744 : decode cL_law 744 = .ok (.aload_n 0, 1) := by decide +kernel
theorem dL_law_745 : decode cL_law 745 = .ok (.iload_n 3, 1) := by decide +kernel
theorem dL_law_746 : decode cL_law 746 = .ok (.iconst 2, 1) := by decide +kernel
theorem dL_law_747 : decode cL_law 747 = .ok (.iadd, 1) := by decide +kernel
theorem dL_law_748 : decode cL_law 748 = .ok (.iaload, 1) := by decide +kernel
theorem dL_law_749 : decode cL_law 749 = .ok (.invokevirtual 118, 3) := by decide +kernel
theorem dL_law_752 : decode cL_law 752 = .ok (.if_icmp .eq 164, 3) := by decide +kernel
theorem dL_law_755 : decode cL_law 755 = .ok (.iconst 0, 1) := by decide +kernel
theorem dL_law_756 : decode cL_law 756 = .ok (.ireturn, 1) := by decide +kernel
theorem dL_law_757 : decode cL_law 757 = .ok (.aload_n 1, 1) := by decide +kernel
theorem dL_law_758 : decode cL_law 758 = .ok (.aload_n 0, 1) := by decide +kernel
theorem dL_law_759 : decode cL_law 759 = .ok (.iload_n 3, 1) := by decide +kernel
theorem dL_law_760 : decode cL_law 760 = .ok (.iconst 1, 1) := by decide +kernel
theorem dL_law_761 : decode cL_law 761 = .ok (.iadd, 1) := by decide +kernel
theorem dL_law_762 : decode cL_law 762 = .ok (.iaload, 1) := by decide +kernel
theorem dL_law_763 : decode cL_law 763 = .ok (.invokevirtual 119, 3) := by decide +kernel
theorem dL_law_766 : decode cL_law 766 = .ok (.aload_n 2, 1) := by decide +kernel
theorem dL_law_767 : decode cL_law 767 = .ok (.aload_n 0, 1) := by decide +kernel
theorem dL_law_768 : decode cL_law 768 = .ok (.iload_n 3, 1) := by decide +kernel
theorem dL_law_769 : decode cL_law 769 = .ok (.iconst 1, 1) := by decide +kernel
theorem dL_law_770 : decode cL_law 770 = .ok (.iadd, 1) := by decide +kernel
theorem dL_law_771 : decode cL_law 771 = .ok (.iaload, 1) := by decide +kernel
theorem dL_law_772 : decode cL_law 772 = .ok (.invokevirtual 122, 3) := by decide +kernel
theorem dL_law_775 : decode cL_law 775 = .ok (.if_icmp .eq 141, 3) := by decide +kernel
theorem dL_law_778 : decode cL_law 778 = .ok (.iconst 0, 1) := by decide +kernel
theorem dL_law_779 : decode cL_law 779 = .ok (.ireturn, 1) := by decide +kernel
theorem dL_law_780 : decode cL_law 780 = .ok (.aload_n 1, 1) := by decide +kernel
theorem dL_law_781 : decode cL_law 781 = .ok (.invokevirtual 123, 3) := by decide +kernel
theorem dL_law_784 : decode cL_law 784 = .ok (.aload_n 2, 1) := by decide +kernel
theorem dL_law_785 : decode cL_law 785 = .ok (.invokevirtual 126, 3) := by decide +kernel
theorem dL_law_788 : decode cL_law 788 = .ok (.if_icmp .eq 128, 3) := by decide +kernel
theorem dL_law_791 : decode cL_law 791 = .ok (.iconst 0, 1) := by decide +kernel
theorem dL_law_792 : decode cL_law 792 = .ok (.ireturn, 1) := by decide +kernel
theorem dL_law_793 : decode cL_law 793 = .ok (.aload_n 1, 1) := by decide +kernel
theorem dL_law_794 : decode cL_law 794 = .ok (.aload_n 0, 1) := by decide +kernel
theorem dL_law_795 : decode cL_law 795 = .ok (.iload_n 3, 1) := by decide +kernel
theorem dL_law_796 : decode cL_law 796 = .ok (.iconst 1, 1) := by decide +kernel
theorem dL_law_797 : decode cL_law 797 = .ok (.iadd, 1) := by decide +kernel
theorem dL_law_798 : decode cL_law 798 = .ok (.iaload, 1) := by decide +kernel
theorem dL_law_799 : decode cL_law 799 = .ok (.i2l, 1) := by decide +kernel
theorem dL_law_800 : decode cL_law 800 = .ok (.bipush 32, 2) := by decide +kernel
theorem dL_law_802 : decode cL_law 802 = .ok (.lshl, 1) := by decide +kernel
theorem dL_law_803 : decode cL_law 803 = .ok (.aload_n 0, 1) := by decide +kernel
theorem dL_law_804 : decode cL_law 804 = .ok (.iload_n 3, 1) := by decide +kernel
theorem dL_law_805 : decode cL_law 805 = .ok (.iconst 2, 1) := by decide +kernel
theorem dL_law_806 : decode cL_law 806 = .ok (.iadd, 1) := by decide +kernel
theorem dL_law_807 : decode cL_law 807 = .ok (.iaload, 1) := by decide +kernel
theorem dL_law_808 : decode cL_law 808 = .ok (.i2l, 1) := by decide +kernel
theorem dL_law_809 : decode cL_law 809 = .ok (.ldc2_w 108, 3) := by decide +kernel
theorem dL_law_812 : decode cL_law 812 = .ok (.land, 1) := by decide +kernel
theorem dL_law_813 : decode cL_law 813 = .ok (.lor, 1) := by decide +kernel
theorem dL_law_814 : decode cL_law 814 = .ok (.invokevirtual 127, 3) := by decide +kernel
theorem dL_law_817 : decode cL_law 817 = .ok (.aload_n 2, 1) := by decide +kernel
theorem dL_law_818 : decode cL_law 818 = .ok (.aload_n 0, 1) := by decide +kernel
theorem dL_law_819 : decode cL_law 819 = .ok (.iload_n 3, 1) := by decide +kernel
theorem dL_law_820 : decode cL_law 820 = .ok (.iconst 1, 1) := by decide +kernel
theorem dL_law_821 : decode cL_law 821 = .ok (.iadd, 1) := by decide +kernel
theorem dL_law_822 : decode cL_law 822 = .ok (.iaload, 1) := by decide +kernel
theorem dL_law_823 : decode cL_law 823 = .ok (.i2l, 1) := by decide +kernel
theorem dL_law_824 : decode cL_law 824 = .ok (.bipush 32, 2) := by decide +kernel
theorem dL_law_826 : decode cL_law 826 = .ok (.lshl, 1) := by decide +kernel
theorem dL_law_827 : decode cL_law 827 = .ok (.aload_n 0, 1) := by decide +kernel
theorem dL_law_828 : decode cL_law 828 = .ok (.iload_n 3, 1) := by decide +kernel
theorem dL_law_829 : decode cL_law 829 = .ok (.iconst 2, 1) := by decide +kernel
theorem dL_law_830 : decode cL_law 830 = .ok (.iadd, 1) := by decide +kernel
theorem dL_law_831 : decode cL_law 831 = .ok (.iaload, 1) := by decide +kernel
theorem dL_law_832 : decode cL_law 832 = .ok (.i2l, 1) := by decide +kernel
theorem dL_law_833 : decode cL_law 833 = .ok (.ldc2_w 108, 3) := by decide +kernel
theorem dL_law_836 : decode cL_law 836 = .ok (.land, 1) := by decide +kernel
theorem dL_law_837 : decode cL_law 837 = .ok (.lor, 1) := by decide +kernel
theorem dL_law_838 : decode cL_law 838 = .ok (.invokevirtual 131, 3) := by decide +kernel
theorem dL_law_841 : decode cL_law 841 = .ok (.lcmp, 1) := by decide +kernel
theorem dL_law_842 : decode cL_law 842 = .ok (.ifCond .eq 74, 3) := by decide +kernel
theorem dL_law_845 : decode cL_law 845 = .ok (.iconst 0, 1) := by decide +kernel
theorem dL_law_846 : decode cL_law 846 = .ok (.ireturn, 1) := by decide +kernel
theorem dL_law_847 : decode cL_law 847 = .ok (.aload_n 1, 1) := by decide +kernel
theorem dL_law_848 : decode cL_law 848 = .ok (.aload_n 0, 1) := by decide +kernel
theorem dL_law_849 : decode cL_law 849 = .ok (.iload_n 3, 1) := by decide +kernel
theorem dL_law_850 : decode cL_law 850 = .ok (.iconst 1, 1) := by decide +kernel
theorem dL_law_851 : decode cL_law 851 = .ok (.iadd, 1) := by decide +kernel
theorem dL_law_852 : decode cL_law 852 = .ok (.iaload, 1) := by decide +kernel
theorem dL_law_853 : decode cL_law 853 = .ok (.invokevirtual 132, 3) := by decide +kernel
theorem dL_law_856 : decode cL_law 856 = .ok (.aload_n 2, 1) := by decide +kernel
theorem dL_law_857 : decode cL_law 857 = .ok (.aload_n 0, 1) := by decide +kernel
theorem dL_law_858 : decode cL_law 858 = .ok (.iload_n 3, 1) := by decide +kernel
theorem dL_law_859 : decode cL_law 859 = .ok (.iconst 1, 1) := by decide +kernel
theorem dL_law_860 : decode cL_law 860 = .ok (.iadd, 1) := by decide +kernel
theorem dL_law_861 : decode cL_law 861 = .ok (.iaload, 1) := by decide +kernel
theorem dL_law_862 : decode cL_law 862 = .ok (.invokevirtual 135, 3) := by decide +kernel
theorem dL_law_865 : decode cL_law 865 = .ok (.if_icmp .eq 51, 3) := by decide +kernel
theorem dL_law_868 : decode cL_law 868 = .ok (.iconst 0, 1) := by decide +kernel
theorem dL_law_869 : decode cL_law 869 = .ok (.ireturn, 1) := by decide +kernel
theorem dL_law_870 : decode cL_law 870 = .ok (.aload_n 1, 1) := by decide +kernel
theorem dL_law_871 : decode cL_law 871 = .ok (.aload_n 0, 1) := by decide +kernel
theorem dL_law_872 : decode cL_law 872 = .ok (.iload_n 3, 1) := by decide +kernel
theorem dL_law_873 : decode cL_law 873 = .ok (.iconst 1, 1) := by decide +kernel
theorem dL_law_874 : decode cL_law 874 = .ok (.iadd, 1) := by decide +kernel
theorem dL_law_875 : decode cL_law 875 = .ok (.iaload, 1) := by decide +kernel
theorem dL_law_876 : decode cL_law 876 = .ok (.invokevirtual 136, 3) := by decide +kernel
theorem dL_law_879 : decode cL_law 879 = .ok (.aload_n 2, 1) := by decide +kernel
theorem dL_law_880 : decode cL_law 880 = .ok (.aload_n 0, 1) := by decide +kernel
theorem dL_law_881 : decode cL_law 881 = .ok (.iload_n 3, 1) := by decide +kernel
theorem dL_law_882 : decode cL_law 882 = .ok (.iconst 1, 1) := by decide +kernel
theorem dL_law_883 : decode cL_law 883 = .ok (.iadd, 1) := by decide +kernel
theorem dL_law_884 : decode cL_law 884 = .ok (.iaload, 1) := by decide +kernel
theorem dL_law_885 : decode cL_law 885 = .ok (.invokevirtual 139, 3) := by decide +kernel
theorem dL_law_888 : decode cL_law 888 = .ok (.if_icmp .eq 28, 3) := by decide +kernel
theorem dL_law_891 : decode cL_law 891 = .ok (.iconst 0, 1) := by decide +kernel
theorem dL_law_892 : decode cL_law 892 = .ok (.ireturn, 1) := by decide +kernel
theorem dL_law_893 : decode cL_law 893 = .ok (.aload_n 1, 1) := by decide +kernel
theorem dL_law_894 : decode cL_law 894 = .ok (.aload_n 0, 1) := by decide +kernel
theorem dL_law_895 : decode cL_law 895 = .ok (.iload_n 3, 1) := by decide +kernel
theorem dL_law_896 : decode cL_law 896 = .ok (.iconst 1, 1) := by decide +kernel
theorem dL_law_897 : decode cL_law 897 = .ok (.iadd, 1) := by decide +kernel
theorem dL_law_898 : decode cL_law 898 = .ok (.iaload, 1) := by decide +kernel
theorem dL_law_899 : decode cL_law 899 = .ok (.invokevirtual 140, 3) := by decide +kernel
theorem dL_law_902 : decode cL_law 902 = .ok (.aload_n 2, 1) := by decide +kernel
theorem dL_law_903 : decode cL_law 903 = .ok (.aload_n 0, 1) := by decide +kernel
theorem dL_law_904 : decode cL_law 904 = .ok (.iload_n 3, 1) := by decide +kernel
theorem dL_law_905 : decode cL_law 905 = .ok (.iconst 1, 1) := by decide +kernel
theorem dL_law_906 : decode cL_law 906 = .ok (.iadd, 1) := by decide +kernel
theorem dL_law_907 : decode cL_law 907 = .ok (.iaload, 1) := by decide +kernel
theorem dL_law_908 : decode cL_law 908 = .ok (.invokevirtual 143, 3) := by decide +kernel
theorem dL_law_911 : decode cL_law 911 = .ok (.if_icmp .eq 5, 3) := by decide +kernel
theorem dL_law_914 : decode cL_law 914 = .ok (.iconst 0, 1) := by decide +kernel
theorem dL_law_915 : decode cL_law 915 = .ok (.ireturn, 1) := by decide +kernel
theorem dL_law_916 : decode cL_law 916 = .ok (.iinc 3 4, 3) := by decide +kernel
theorem dL_law_919 : decode cL_law 919 = .ok (.goto (-901), 3) := by decide +kernel
theorem dL_law_922 : decode cL_law 922 = .ok (.iconst 1, 1) := by decide +kernel
theorem dL_law_923 : decode cL_law 923 = .ok (.ireturn, 1) := by decide +kernel
end
section
/-! more rules: booleans that are told by a proposition; ints of a cut point -/
theorem sZ {L : Nat → Option Value} {k : Nat} {a b : Int} {r : List (Option Value)} (h : L k = some (.int (zI a))) (e : a = b) (h2 : subL L (k + 1) r) : subL L k (some (.int (zI b)) :: r) := ⟨by rw [h, e], h2⟩
theorem bb_01 {P : Prop} [Decidable P] : (if P then 1 else 0 : Int) = 0 ∨ (if P then 1 else 0 : Int) = 1 := by
  by_cases h : P
  · exact Or.inr (if_pos h)
  · exact Or.inl (if_neg h)
theorem zb1 {P : Prop} [Decidable P] (h : P) : zI 1 = zI (if P then 1 else 0) := by rw [if_pos h]
theorem zb0 {P : Prop} [Decidable P] (h : ¬ P) : zI 0 = zI (if P then 1 else 0) := by rw [if_neg h]
theorem bb_rg {P : Prop} [Decidable P] : rg (if P then 1 else 0 : Int) := by
  by_cases h : P
  · rw [if_pos h]; decide
  · rw [if_neg h]; decide
section AB
variable {l : Launch} {G : Gm} {K : Cx} {cc : ByteArray} {nL : Nat} {own : String} {ret : Option FieldType} {rm : Room} {Q : Option Value → HP → Prop} {pc q t : Nat} {L : Nat → Option Value} {st : List Value} {c : HP}
theorem A_bne {P : Prop} {i : Decidable P} {off : Int} (X : Fx l G K cc nL own ret rm) (d : decode cc pc = .ok (.ifCond .ne off, 3)) (ht : (pc : Int) + off = (t : Int)) (hq : pc + 3 = q)
    (kt : P → AW G K Q t L st c) (kf : ¬ P → AW G K Q q L st c) : AW G K Q pc L (.int (zI (if P then 1 else 0)) :: st) c := by
  refine A_if_ne X d bb_rg ht hq (fun h => kt ?_) (fun h => kf ?_)
  · by_cases p : P
    · exact p
    · exact absurd (if_neg p) h
  · intro p
    exact h (by rw [if_pos p]; decide)
theorem A_beq {P : Prop} {i : Decidable P} {off : Int} (X : Fx l G K cc nL own ret rm) (d : decode cc pc = .ok (.ifCond .eq off, 3)) (ht : (pc : Int) + off = (t : Int)) (hq : pc + 3 = q)
    (kt : ¬ P → AW G K Q t L st c) (kf : P → AW G K Q q L st c) : AW G K Q pc L (.int (zI (if P then 1 else 0)) :: st) c := by
  refine A_if_eq X d bb_rg ht hq (fun h => kt ?_) (fun h => kf ?_)
  · intro p
    rw [if_pos p] at h
    exact absurd h (by decide)
  · by_cases p : P
    · exact p
    · exact absurd (if_neg p) h
end AB
theorem nI_get {α : Type} {l : List α} {k : Nat} {d : α} (h : k < l.length) : l.getD k d = l[k] := by
  rw [List.getD_eq_getElem?_getD, List.getElem?_eq_getElem h]
  rfl
end
section
/-! PURE: rows of tokens as terms, by stacks of contexts -/
def kn (t : Int) : Nat := ((t - 1000000) / 1000).toNat
def kh (t : Int) : Nat := ((t - 1000000) % 1000).toNat
def prt (t : Int) : Nat := if 1000000 ≤ t then 1 + kn t else if t = 1000 then 2 else if t = 1001 then 1 else 0
def nxt (t : Int) (c : Nat) : Option (List Nat) :=
  if t = 1000 then some [c, c] else if t = 1001 then some [c + 1] else if 1000000 ≤ t then (if kh t ≤ c then some ((c - kh t + kn t) :: List.replicate (kn t) c) else none) else if 0 ≤ t ∧ t < (c : Nat) then some [] else none
def wfr : List Int → List Nat → Option (List Nat)
  | [], cs => some cs
  | _ :: _, [] => none
  | t :: r, c :: cs => match nxt t c with
    | none => none
    | some n => wfr r (n ++ cs)
theorem wfr_nil (cs : List Nat) : wfr [] cs = some cs := by cases cs <;> rfl
theorem wfr_cons {t : Int} {r : List Int} {cs ds : List Nat} (h : wfr (t :: r) cs = some ds) : ∃ c cs' n, cs = c :: cs' ∧ nxt t c = some n ∧ wfr r (n ++ cs') = some ds := by
  cases cs with
  | nil => cases h
  | cons c cs' =>
    unfold wfr at h
    cases hn : nxt t c with
    | none => rw [hn] at h; cases h
    | some n => rw [hn] at h; exact ⟨c, cs', n, rfl, hn, h⟩
theorem wfr_step {t : Int} {r : List Int} {c : Nat} {cs n : List Nat} (h : nxt t c = some n) : wfr (t :: r) (c :: cs) = wfr r (n ++ cs) := by
  show (match nxt t c with | none => none | some n => wfr r (n ++ cs)) = _
  rw [h]
theorem wfr_app : ∀ (a b : List Int) (cs : List Nat), wfr (a ++ b) cs = (wfr a cs).bind (wfr b)
  | [], b, cs => by rw [List.nil_append, wfr_nil]; rfl
  | t :: a, b, [] => rfl
  | t :: a, b, c :: cs => by
    rw [List.cons_append]
    cases hn : nxt t c with
    | none =>
      have e : ∀ r, wfr (t :: r) (c :: cs) = none := fun r => by
        show (match nxt t c with | none => none | some n => wfr r (n ++ cs)) = _
        rw [hn]
      rw [e, e]
      rfl
    | some n => rw [wfr_step hn, wfr_step hn, wfr_app a b (n ++ cs)]
theorem wfr_tl : ∀ (l : List Int) (cs ds e : List Nat), wfr l cs = some ds → wfr l (cs ++ e) = some (ds ++ e)
  | [], cs, ds, e, h => by
    rw [wfr_nil] at h
    cases h
    exact wfr_nil _
  | t :: r, cs, ds, e, h => by
    obtain ⟨c, cs', n, rfl, hn, h2⟩ := wfr_cons h
    rw [List.cons_append, wfr_step hn, ← List.append_assoc]
    exact wfr_tl r _ ds e h2
theorem wfr_split : ∀ (l : List Int) (c1 c2 : List Nat), wfr l (c1 ++ c2) = some [] → ∃ a b, l = a ++ b ∧ wfr a c1 = some [] ∧ wfr b c2 = some []
  | l, [], c2, h => ⟨[], l, rfl, rfl, h⟩
  | [], c :: c1, c2, h => by cases h
  | t :: r, c :: c1, c2, h => by
    obtain ⟨c', cs', n, e, hn, h2⟩ := wfr_cons h
    cases e
    have h2 : wfr r (n ++ (c1 ++ c2)) = some [] := h2
    rw [← List.append_assoc] at h2
    obtain ⟨a, b, e1, h3, h4⟩ := wfr_split r (n ++ c1) c2 h2
    exact ⟨t :: a, b, by rw [e1]; rfl, by rw [wfr_step hn]; exact h3, h4⟩
theorem nxt_len {t : Int} {c : Nat} {n : List Nat} (h : nxt t c = some n) : n.length = prt t := by
  unfold nxt at h
  unfold prt
  by_cases h1 : t = 1000
  · rw [if_pos h1] at h
    cases h
    rw [if_neg (by omega), if_pos h1]
    rfl
  · rw [if_neg h1] at h
    by_cases h2 : t = 1001
    · rw [if_pos h2] at h
      cases h
      rw [if_neg (by omega), if_neg h1, if_pos h2]
      rfl
    · rw [if_neg h2] at h
      by_cases h3 : 1000000 ≤ t
      · rw [if_pos h3] at h
        split at h
        · cases h
          rw [if_pos h3, List.length_cons, List.length_replicate]
          omega
        · cases h
      · rw [if_neg h3] at h
        split at h
        · cases h
          rw [if_neg h3, if_neg h1, if_neg h2]
          rfl
        · cases h
def sk : List Int → Nat → Nat
  | _, 0 => 0
  | [], _ + 1 => 0
  | t :: r, n + 1 => 1 + sk r (n + prt t)
theorem sk_0 (l : List Int) : sk l 0 = 0 := by cases l <;> rfl
theorem sk_nil (n : Nat) : sk [] n = 0 := by cases n <;> rfl
theorem sk_add : ∀ (l : List Int) (a b : Nat), sk l (a + b) = sk l a + sk (l.drop (sk l a)) b
  | l, 0, b => by rw [Nat.zero_add, sk_0, List.drop_zero, Nat.zero_add]
  | [], a + 1, b => by rw [sk_nil, sk_nil, List.drop_nil, sk_nil]
  | t :: r, a + 1, b => by
    have e : a + 1 + b = (a + b) + 1 := by omega
    rw [e]
    show 1 + sk r (a + b + prt t) = 1 + sk r (a + prt t) + sk ((t :: r).drop (1 + sk r (a + prt t))) b
    rw [show a + b + prt t = (a + prt t) + b by omega, sk_add r (a + prt t) b, Nat.add_comm 1 (sk r (a + prt t)), List.drop_succ_cons]
    omega
theorem sk_le : ∀ (l : List Int) (n : Nat), sk l n ≤ l.length
  | l, 0 => by rw [sk_0]; exact Nat.zero_le _
  | [], n + 1 => Nat.le_refl 0
  | t :: r, n + 1 => by
    have := sk_le r (n + prt t)
    show 1 + sk r (n + prt t) ≤ r.length + 1
    omega
theorem sk_wf : ∀ (l : List Int) (cs : List Nat) (r : List Int), wfr l cs = some [] → sk (l ++ r) cs.length = l.length
  | [], cs, r, h => by
    rw [wfr_nil] at h
    cases h
    exact sk_0 _
  | t :: l, cs, r, h => by
    obtain ⟨c, cs', n, rfl, hn, h2⟩ := wfr_cons h
    have h3 := sk_wf l (n ++ cs') r h2
    rw [List.length_append, nxt_len hn] at h3
    show 1 + sk (l ++ r) (cs'.length + prt t) = l.length + 1
    rw [Nat.add_comm cs'.length, h3]
    omega
theorem wfr_le : ∀ (l : List Int) (cs : List Nat), wfr l cs = some [] → cs.length ≤ l.length
  | [], cs, h => by
    rw [wfr_nil] at h
    cases h
    exact Nat.le_refl 0
  | t :: l, cs, h => by
    obtain ⟨c, cs', n, rfl, hn, h2⟩ := wfr_cons h
    have := wfr_le l _ h2
    rw [List.length_append] at this
    simp only [List.length_cons]
    omega
/-- a token's numbers stay below a bound -/
def tokB (M : Nat) (t : Int) : Prop := t = 1000 ∨ t = 1001 ∨ (1000000 ≤ t ∧ kn t < M ∧ kh t ≤ M) ∨ (0 ≤ t ∧ t < (M : Nat))
theorem wfr_B {M : Nat} : ∀ (l : List Int) (cs : List Nat), wfr l cs = some [] → (∀ c ∈ cs, c + l.length ≤ M + cs.length) → ∀ t ∈ l, tokB M t
  | [], cs, h, hb => fun t ht => by cases ht
  | t :: l, cs, h, hb => by
    obtain ⟨c, cs', n, rfl, hn, h2⟩ := wfr_cons h
    have hc := hb c List.mem_cons_self
    have hl := wfr_le l _ h2
    have hnl := nxt_len hn
    rw [List.length_append] at hl
    simp only [List.length_cons] at hc
    have hrest : ∀ c' ∈ cs', c' + (l.length + 1) ≤ M + (cs'.length + 1) := fun c' h' => by
      have := hb c' (List.mem_cons_of_mem _ h')
      simpa only [List.length_cons] using this
    have key : tokB M t ∧ ∀ c' ∈ n, c' + l.length ≤ M + (n.length + cs'.length) := by
      unfold nxt at hn
      by_cases h1 : t = 1000
      · rw [if_pos h1] at hn
        cases hn
        refine ⟨Or.inl h1, fun c' h' => ?_⟩
        have : c' = c := by simpa using h'
        simp only [List.length_cons, List.length_nil]
        omega
      · rw [if_neg h1] at hn
        by_cases h22 : t = 1001
        · rw [if_pos h22] at hn
          cases hn
          refine ⟨Or.inr (Or.inl h22), fun c' h' => ?_⟩
          have : c' = c + 1 := by simpa using h'
          simp only [List.length_cons, List.length_nil]
          omega
        · rw [if_neg h22] at hn
          by_cases h3 : 1000000 ≤ t
          · rw [if_pos h3] at hn
            by_cases h4 : kh t ≤ c
            · rw [if_pos h4] at hn
              cases hn
              simp only [List.length_cons, List.length_replicate] at hl ⊢
              refine ⟨Or.inr (Or.inr (Or.inl ⟨h3, by omega, by omega⟩)), fun c' h' => ?_⟩
              rcases List.mem_cons.mp h' with e | e
              · omega
              · have := (List.mem_replicate.mp e).2
                omega
            · rw [if_neg h4] at hn
              cases hn
          · rw [if_neg h3] at hn
            split at hn
            · rename_i h4
              cases hn
              exact ⟨Or.inr (Or.inr (Or.inr ⟨h4.1, by omega⟩)), fun c' h' => by cases h'⟩
            · cases hn
    have ih := wfr_B l (n ++ cs') h2 (fun c' h' => by
      rw [List.length_append]
      rcases List.mem_append.mp h' with e | e
      · exact key.2 c' e
      · have := hrest c' e
        omega)
    intro x hx
    rcases List.mem_cons.mp hx with e | e
    · rw [e]; exact key.1
    · exact ih x e
/-! depths -/
def nd (t : Int) (d : Nat) : List Nat := if t = 1000 then [d, d] else if t = 1001 then [d + 1] else []
def stk : List Int → List Nat → List Nat
  | [], ds => ds
  | _ :: _, [] => []
  | t :: r, d :: ds => stk r (nd t d ++ ds)
def dl : List Int → List Nat → List Nat
  | [], _ => []
  | _ :: r, [] => 0 :: dl r []
  | t :: r, d :: ds => d :: dl r (nd t d ++ ds)
theorem stk_nil (ds : List Nat) : stk [] ds = ds := by cases ds <;> rfl
theorem dl_nil (ds : List Nat) : dl [] ds = [] := by cases ds <;> rfl
theorem stk_e : ∀ l : List Int, stk l [] = []
  | [] => rfl
  | _ :: _ => rfl
theorem stk_app : ∀ (a b : List Int) (ds : List Nat), stk (a ++ b) ds = stk b (stk a ds)
  | [], b, ds => by rw [List.nil_append, stk_nil]
  | t :: a, b, [] => by rw [stk_e, stk_e, stk_e]
  | t :: a, b, d :: ds => stk_app a b (nd t d ++ ds)
theorem dl_app : ∀ (a b : List Int) (ds : List Nat), dl (a ++ b) ds = dl a ds ++ dl b (stk a ds)
  | [], b, ds => by rw [List.nil_append, dl_nil, stk_nil]; rfl
  | t :: a, b, [] => by
    have := dl_app a b []
    rw [stk_e] at this ⊢
    exact congrArg (fun x => 0 :: x) this
  | t :: a, b, d :: ds => congrArg (fun x => d :: x) (dl_app a b (nd t d ++ ds))
theorem dl_len : ∀ (l : List Int) (ds : List Nat), (dl l ds).length = l.length
  | [], ds => by rw [dl_nil]; rfl
  | t :: r, [] => congrArg (· + 1) (dl_len r [])
  | t :: r, d :: ds => congrArg (· + 1) (dl_len r (nd t d ++ ds))
theorem nd_len {t : Int} {c d : Nat} {n : List Nat} (hp : t < 1000000) (h : nxt t c = some n) : (nd t d).length = n.length := by
  rw [nxt_len h]
  have e : prt t = if t = 1000 then 2 else if t = 1001 then 1 else 0 := by
    unfold prt
    rw [if_neg (by omega : ¬ (1000000 : Int) ≤ t)]
  rw [e]
  unfold nd
  by_cases h1 : t = 1000
  · rw [if_pos h1, if_pos h1]; rfl
  · rw [if_neg h1, if_neg h1]
    by_cases h2 : t = 1001
    · rw [if_pos h2, if_pos h2]; rfl
    · rw [if_neg h2, if_neg h2]; rfl
theorem stk_wf : ∀ (l : List Int) (cs ds e : List Nat), (∀ t ∈ l, t < 1000000) → wfr l cs = some [] → ds.length = cs.length → stk l (ds ++ e) = e
  | [], cs, ds, e, hp, h, hl => by
    rw [wfr_nil] at h
    cases h
    rw [List.length_eq_zero_iff.mp hl, stk_nil]
    rfl
  | t :: l, cs, ds, e, hp, h, hl => by
    obtain ⟨c, cs', n, rfl, hn, h2⟩ := wfr_cons h
    cases ds with
    | nil => cases hl
    | cons d ds' =>
      show stk l (nd t d ++ (ds' ++ e)) = e
      rw [← List.append_assoc]
      refine stk_wf l _ _ e (fun x hx => hp x (List.mem_cons_of_mem _ hx)) h2 ?_
      rw [List.length_append, List.length_append, nd_len (hp t List.mem_cons_self) hn]
      have : ds'.length + 1 = cs'.length + 1 := hl
      omega
theorem nd_map (t : Int) (d k : Nat) : (nd t d).map (· + k) = nd t (d + k) := by
  unfold nd
  split
  · rfl
  · split
    · show [d + 1 + k] = [d + k + 1]
      rw [show d + 1 + k = d + k + 1 by omega]
    · rfl
theorem dl_shift (k : Nat) : ∀ (l : List Int) (cs ds e : List Nat), (∀ t ∈ l, t < 1000000) → wfr l cs = some [] → ds.length = cs.length → dl l (ds.map (· + k) ++ e) = (dl l ds).map (· + k)
  | [], cs, ds, e, hp, h, hl => by rw [dl_nil, dl_nil]; rfl
  | t :: l, cs, ds, e, hp, h, hl => by
    obtain ⟨c, cs', n, rfl, hn, h2⟩ := wfr_cons h
    cases ds with
    | nil => cases hl
    | cons d ds' =>
      have hl' : ds'.length + 1 = cs'.length + 1 := hl
      have ih := dl_shift k l (n ++ cs') (nd t d ++ ds') e (fun x hx => hp x (List.mem_cons_of_mem _ hx)) h2 (by
        rw [List.length_append, List.length_append, nd_len (hp t List.mem_cons_self) hn]
        omega)
      rw [List.map_append, nd_map] at ih
      show (d + k) :: dl l (nd t (d + k) ++ (ds'.map (· + k) ++ e)) = (d + k) :: (dl l (nd t d ++ ds')).map (· + k)
      rw [← List.append_assoc, ih]
/-! shifting and substituting -/
def shf : List Int → List Nat → Nat → List Int
  | [], _, _ => []
  | t :: r, [], k => t :: shf r [] k
  | t :: r, d :: ds, k => (if 0 ≤ t ∧ t < 1000 ∧ (d : Int) ≤ t then t + (k : Int) else t) :: shf r (nd t d ++ ds) k
def pce (t : Int) (d : Nat) (arg : List Int) : List Int := if ¬ (0 ≤ t ∧ t < 1000) ∨ t < (d : Int) then [t] else if t = (d : Int) then shf arg [0] d else [t - 1]
def sb : List Int → List Nat → List Int → List Int
  | [], _, _ => []
  | _ :: r, [], arg => sb r [] arg
  | t :: r, d :: ds, arg => pce t d arg ++ sb r (nd t d ++ ds) arg
theorem sb_nil (ds : List Nat) (arg : List Int) : sb [] ds arg = [] := by cases ds <;> rfl
theorem sb_app : ∀ (a b : List Int) (ds : List Nat) (arg : List Int), sb (a ++ b) ds arg = sb a ds arg ++ sb b (stk a ds) arg
  | [], b, ds, arg => by rw [List.nil_append, sb_nil, stk_nil]; rfl
  | t :: a, b, [], arg => by
    have := sb_app a b [] arg
    rw [stk_e] at this ⊢
    exact this
  | t :: a, b, d :: ds, arg => by
    show pce t d arg ++ sb (a ++ b) (nd t d ++ ds) arg = (pce t d arg ++ sb a (nd t d ++ ds) arg) ++ sb b (stk a (nd t d ++ ds)) arg
    rw [sb_app a b, List.append_assoc]
theorem shf_len (k : Nat) : ∀ (l : List Int) (ds : List Nat), (shf l ds k).length = l.length
  | [], ds => by cases ds <;> rfl
  | t :: r, [] => congrArg (· + 1) (shf_len k r [])
  | t :: r, d :: ds => congrArg (· + 1) (shf_len k r (nd t d ++ ds))
theorem nxt_plain {t : Int} {c : Nat} {n : List Nat} (hp : t < 1000000) (h : nxt t c = some n) : (t = 1000 ∧ n = [c, c]) ∨ (t = 1001 ∧ n = [c + 1]) ∨ (t ≠ 1000 ∧ t ≠ 1001 ∧ 0 ≤ t ∧ t < (c : Nat) ∧ n = []) := by
  unfold nxt at h
  by_cases h1 : t = 1000
  · rw [if_pos h1] at h
    cases h
    exact Or.inl ⟨h1, rfl⟩
  · rw [if_neg h1] at h
    by_cases h2 : t = 1001
    · rw [if_pos h2] at h
      cases h
      exact Or.inr (Or.inl ⟨h2, rfl⟩)
    · rw [if_neg h2, if_neg (by omega)] at h
      split at h
      · rename_i h3
        cases h
        exact Or.inr (Or.inr ⟨h1, h2, h3.1, h3.2, rfl⟩)
      · cases h
theorem nxt_1000 (c : Nat) : nxt 1000 c = some [c, c] := rfl
theorem nxt_1001 (c : Nat) : nxt 1001 c = some [c + 1] := rfl
theorem nxt_var {t : Int} {c : Nat} (h0 : 0 ≤ t) (h1 : t < (c : Nat)) (h2 : t < 1000) : nxt t c = some [] := by
  unfold nxt
  rw [if_neg (by omega), if_neg (by omega), if_neg (by omega), if_pos ⟨h0, h1⟩]
theorem wfr_shf (c k : Nat) : ∀ (l : List Int) (ds e : List Nat), (∀ t ∈ l, t < 1000000) → wfr l (ds.map (c + ·)) = some [] → (∀ d ∈ ds, c + k + d + l.length ≤ 1000) → wfr (shf l ds k) (ds.map (c + k + ·) ++ e) = some e
  | [], ds, e, hp, h, hb => by
    rw [wfr_nil] at h
    have : ds = [] := by simpa using h
    subst this
    exact wfr_nil e
  | t :: l, ds, e, hp, h, hb => by
    obtain ⟨c1, cs', n, e1, hn, h2⟩ := wfr_cons h
    cases ds with
    | nil => cases e1
    | cons d ds' =>
      cases e1
      have hp' : ∀ x ∈ l, x < 1000000 := fun x hx => hp x (List.mem_cons_of_mem _ hx)
      have hb0 := hb d List.mem_cons_self
      simp only [List.length_cons] at hb0
      have hb' : ∀ x ∈ ds', c + k + x + l.length ≤ 1000 := fun x hx => by
        have := hb x (List.mem_cons_of_mem _ hx)
        simp only [List.length_cons] at this
        omega
      rcases nxt_plain (hp t List.mem_cons_self) hn with ⟨rfl, rfl⟩ | ⟨rfl, rfl⟩ | ⟨n1, n2, h0, h1, rfl⟩
      · have ih := wfr_shf c k l (d :: d :: ds') e hp' h2 (fun x hx => by
          rcases List.mem_cons.mp hx with e | hx
          · omega
          · rcases List.mem_cons.mp hx with e | hx
            · omega
            · exact hb' x hx)
        exact ih
      · have ih := wfr_shf c k l ((d + 1) :: ds') e hp' h2 (fun x hx => by
          rcases List.mem_cons.mp hx with e | hx
          · omega
          · exact hb' x hx)
        exact ih
      · have h1 : t < ((c + d : Nat) : Int) := h1
        have ih := wfr_shf c k l ds' e hp' h2 hb'
        show wfr ((if 0 ≤ t ∧ t < 1000 ∧ (d : Int) ≤ t then t + (k : Int) else t) :: shf l (nd t d ++ ds') k) ((c + k + d) :: (ds'.map (c + k + ·) ++ e)) = some e
        have hnd : nd t d = [] := by unfold nd; rw [if_neg n1, if_neg n2]
        rw [hnd, List.nil_append]
        rw [wfr_step (n := [])]
        · exact ih
        · split
          · exact nxt_var (by omega) (by omega) (by omega)
          · exact nxt_var (by omega) (by omega) (by omega)
theorem wfr_sb (c : Nat) (arg : List Int) (ha : wfr arg [c] = some []) (hpa : ∀ t ∈ arg, t < 1000000) (hla : arg.length ≤ 200) : ∀ (l : List Int) (ds e : List Nat), (∀ t ∈ l, t < 1000000) → wfr l (ds.map (c + 1 + ·)) = some [] → (∀ d ∈ ds, c + d + l.length ≤ 500) → wfr (sb l ds arg) (ds.map (c + ·) ++ e) = some e
  | [], ds, e, hp, h, hb => by
    rw [wfr_nil] at h
    have : ds = [] := by simpa using h
    subst this
    exact wfr_nil e
  | t :: l, ds, e, hp, h, hb => by
    obtain ⟨c1, cs', n, e1, hn, h2⟩ := wfr_cons h
    cases ds with
    | nil => cases e1
    | cons d ds' =>
      cases e1
      have hp' : ∀ x ∈ l, x < 1000000 := fun x hx => hp x (List.mem_cons_of_mem _ hx)
      have hb0 := hb d List.mem_cons_self
      simp only [List.length_cons] at hb0
      have hb' : ∀ x ∈ ds', c + x + l.length ≤ 500 := fun x hx => by
        have := hb x (List.mem_cons_of_mem _ hx)
        simp only [List.length_cons] at this
        omega
      rcases nxt_plain (hp t List.mem_cons_self) hn with ⟨rfl, rfl⟩ | ⟨rfl, rfl⟩ | ⟨n1, n2, h0, h1, rfl⟩
      · have ih := wfr_sb c arg ha hpa hla l (d :: d :: ds') e hp' h2 (fun x hx => by
          rcases List.mem_cons.mp hx with e | hx
          · omega
          · rcases List.mem_cons.mp hx with e | hx
            · omega
            · exact hb' x hx)
        exact ih
      · have ih := wfr_sb c arg ha hpa hla l ((d + 1) :: ds') e hp' h2 (fun x hx => by
          rcases List.mem_cons.mp hx with e | hx
          · omega
          · exact hb' x hx)
        exact ih
      · have h1 : t < ((c + 1 + d : Nat) : Int) := h1
        have ih := wfr_sb c arg ha hpa hla l ds' e hp' h2 hb'
        show wfr (pce t d arg ++ sb l (nd t d ++ ds') arg) ((c + d) :: (ds'.map (c + ·) ++ e)) = some e
        have hnd : nd t d = [] := by unfold nd; rw [if_neg n1, if_neg n2]
        rw [hnd, List.nil_append, wfr_app]
        have key : wfr (pce t d arg) ((c + d) :: (ds'.map (c + ·) ++ e)) = some (ds'.map (c + ·) ++ e) := by
          unfold pce
          by_cases q1 : t < (d : Int)
          · rw [if_pos (Or.inr q1), wfr_step (nxt_var h0 (by omega) (by omega))]
            exact wfr_nil _
          · rw [if_neg (by omega)]
            by_cases q2 : t = (d : Int)
            · rw [if_pos q2]
              exact wfr_shf c d arg [0] _ hpa ha (fun x hx => by
                have : x = 0 := by simpa using hx
                omega)
            · rw [if_neg q2, wfr_step (nxt_var (by omega) (by omega) (by omega))]
              exact wfr_nil _
        rw [key]
        exact ih
end
section
/-! PURE 2: ends, pending terms, good terms -/
def tokA (l : List Int) (p : Int) : Int := if 0 ≤ p ∧ p < (l.length : Nat) then l.getD p.toNat 0 else -1
theorem tokA_in {l : List Int} {k : Nat} (h : k < l.length) : tokA l (k : Nat) = l.getD k 0 := by
  unfold tokA
  rw [if_pos ⟨by omega, by omega⟩, Int.toNat_natCast]
theorem tokA_out {l : List Int} {k : Nat} (h : l.length ≤ k) : tokA l (k : Nat) = -1 := by
  unfold tokA
  rw [if_neg (by omega)]
def en (l : List Int) (i : Nat) : Nat := i + sk (l.drop i) 1
theorem drop_cons {l : List Int} {i : Nat} (h : i < l.length) : l.drop i = l.getD i 0 :: l.drop (i + 1) := by
  rw [nI_get h]
  exact List.drop_eq_getElem_cons h
theorem sk_1 (t : Int) (r : List Int) : sk (t :: r) 1 = 1 + sk r (prt t) := by
  show 1 + sk r (0 + prt t) = _
  rw [Nat.zero_add]
theorem en_ge (l : List Int) (i : Nat) : i ≤ en l i := Nat.le_add_right _ _
theorem en_le {l : List Int} {i : Nat} (h : i ≤ l.length) : en l i ≤ l.length := by
  have := sk_le (l.drop i) 1
  rw [List.length_drop] at this
  unfold en
  omega
theorem en_gt {l : List Int} {i : Nat} (h : i < l.length) : i < en l i := by
  unfold en
  rw [drop_cons h, sk_1]
  omega
theorem en_n (l : List Int) : en l l.length = l.length := by
  unfold en
  rw [List.drop_length, sk_nil]
  rfl
theorem en_var {l : List Int} {i : Nat} (h : i < l.length) (h0 : prt (l.getD i 0) = 0) : en l i = i + 1 := by
  unfold en
  rw [drop_cons h, sk_1, h0, sk_0]
theorem en_abs {l : List Int} {i : Nat} (h : i < l.length) (h0 : prt (l.getD i 0) = 1) : en l i = en l (i + 1) := by
  unfold en
  rw [drop_cons h, sk_1, h0]
  omega
theorem en_app {l : List Int} {i : Nat} (h : i < l.length) (h0 : prt (l.getD i 0) = 2) : en l i = en l (en l (i + 1)) := by
  unfold en
  rw [drop_cons h, sk_1, h0, show 2 = 1 + 1 from rfl, sk_add, List.drop_drop]
  omega
theorem prt_1000 : prt 1000 = 2 := rfl
theorem prt_1001 : prt 1001 = 1 := rfl
theorem prt_var {t : Int} (h1 : t ≠ 1000) (h2 : t ≠ 1001) (h3 : t < 1000000) : prt t = 0 := by
  unfold prt
  rw [if_neg (by omega), if_neg h1, if_neg h2]
/-- a good term: whole, plain, at most 200 tokens, its free variables below 10 -/
def Gd (l : List Int) : Prop := l.length ≤ 200 ∧ wfr l [10] = some [] ∧ ∀ t ∈ l, t < 1000000
theorem mem_getD {l : List Int} {i : Nat} (h : i < l.length) : l.getD i 0 ∈ l := by
  rw [nI_get h]
  exact List.getElem_mem h
theorem Gd.pos {l : List Int} (h : Gd l) : 0 < l.length := wfr_le l _ h.2.1
theorem Gd.tok {l : List Int} (h : Gd l) {t : Int} (ht : t ∈ l) : t = 1000 ∨ t = 1001 ∨ (0 ≤ t ∧ t < 210) := by
  have hp := h.2.2 t ht
  have := wfr_B (M := 209) l [10] h.2.1 (fun c hc => by
    have : c = 10 := by simpa using hc
    have := h.1
    simp only [List.length_cons, List.length_nil]
    omega) t ht
  rcases this with h | h | h | h
  · exact Or.inl h
  · exact Or.inr (Or.inl h)
  · omega
  · exact Or.inr (Or.inr ⟨h.1, by omega⟩)
theorem Gd.at {l : List Int} (h : Gd l) {i : Nat} (hi : i < l.length) : 0 ≤ l.getD i 0 ∧ l.getD i 0 ≤ 1001 := by
  have := h.tok (mem_getD hi)
  omega
theorem Gd.at2 {l : List Int} (h : Gd l) {i : Nat} (hi : i < l.length) : l.getD i 0 = 1000 ∨ l.getD i 0 = 1001 ∨ (0 ≤ l.getD i 0 ∧ l.getD i 0 < 210) := h.tok (mem_getD hi)
theorem Gd_tokA {l : List Int} (h : Gd l) (p : Int) : -1 ≤ tokA l p ∧ tokA l p ≤ 1001 := by
  unfold tokA
  split
  · have := h.at (i := p.toNat) (by omega)
    omega
  · omega
/-! pending terms -/
def pnd (l : List Int) (i : Nat) (ds : List Nat) : Prop := ∃ cs, wfr (l.drop i) cs = some [] ∧ cs.length = ds.length
theorem pnd_0 {l : List Int} (h : Gd l) : pnd l 0 [0] := ⟨[10], h.2.1, rfl⟩
theorem pnd_step {l : List Int} {i : Nat} {ds : List Nat} (hp : ∀ t ∈ l, t < 1000000) (hi : i < l.length) (h : pnd l i ds) : ∃ d ds', ds = d :: ds' ∧ pnd l (i + 1) (nd (l.getD i 0) d ++ ds') := by
  obtain ⟨cs, h1, h2⟩ := h
  rw [drop_cons hi] at h1
  obtain ⟨c, cs', n, rfl, hn, h3⟩ := wfr_cons h1
  cases ds with
  | nil => cases h2
  | cons d ds' =>
    refine ⟨d, ds', rfl, n ++ cs', h3, ?_⟩
    have h2 : cs'.length + 1 = ds'.length + 1 := h2
    rw [List.length_append, List.length_append, nd_len (d := d) (hp _ (mem_getD hi)) hn]
    omega
theorem pnd_end {l : List Int} {ds : List Nat} (h : pnd l l.length ds) : ds = [] := by
  obtain ⟨cs, h1, h2⟩ := h
  rw [List.drop_length, wfr_nil] at h1
  cases h1
  exact List.length_eq_zero_iff.mp h2.symm
theorem sk_wfk {m : List Int} {cs : List Nat} (h : wfr m cs = some []) {k : Nat} (hk : k < cs.length) : sk m k < sk m (k + 1) ∧ sk m k < m.length := by
  rw [← List.take_append_drop k cs] at h
  obtain ⟨a, b, rfl, h1, h2⟩ := wfr_split m _ _ h
  have e1 := sk_wf a _ b h1
  rw [List.length_take, Nat.min_eq_left (Nat.le_of_lt hk)] at e1
  have e2 := wfr_le b _ h2
  rw [List.length_drop] at e2
  rw [sk_add, e1, List.drop_left]
  cases b with
  | nil => simp at e2; omega
  | cons t b' =>
    rw [sk_1, List.length_append]
    simp only [List.length_cons]
    omega
theorem sk_mono {m : List Int} {cs : List Nat} (h : wfr m cs = some []) : ∀ (j k : Nat), k + j ≤ cs.length → sk m k + j ≤ sk m (k + j)
  | 0, k, _ => Nat.le_refl _
  | j + 1, k, hk => by
    have h1 := sk_mono h j k (by omega)
    have h2 := (sk_wfk h (k := k + j) (by omega)).1
    rw [show k + (j + 1) = k + j + 1 by omega]
    omega
/-- the depths that are laid ahead: the k-th pending term's place bears its depth -/
def ahd (l : List Int) (i : Nat) (ds : List Nat) (D : Nat → Int) : Prop := ∀ k, k < ds.length → D (i + sk (l.drop i) k) = (ds.getD k 0 : Nat)
theorem ahd_0 {l : List Int} {ds : List Nat} {i d : Nat} {D : Nat → Int} (h : ahd l i (d :: ds) D) : D i = (d : Nat) := by
  have := h 0 (Nat.zero_lt_succ _)
  rw [sk_0] at this
  exact this
theorem ahd_var {l : List Int} {i d : Nat} {ds : List Nat} {D : Nat → Int} (hi : i < l.length) (h0 : prt (l.getD i 0) = 0) (h : ahd l i (d :: ds) D) : ahd l (i + 1) ds D := fun k hk => by
  have := h (k + 1) (Nat.succ_lt_succ hk)
  rw [drop_cons hi] at this
  have e : sk (l.getD i 0 :: l.drop (i + 1)) (k + 1) = 1 + sk (l.drop (i + 1)) k := by
    show 1 + sk _ (k + prt _) = _
    rw [h0]
    rfl
  rw [e] at this
  rw [show i + 1 + sk (l.drop (i + 1)) k = i + (1 + sk (l.drop (i + 1)) k) by omega]
  exact this
theorem ahd_abs {l : List Int} {i d : Nat} {ds : List Nat} {D D' : Nat → Int} (hi : i < l.length) (h0 : prt (l.getD i 0) = 1) (hp : pnd l (i + 1) ((d + 1) :: ds)) (h : ahd l i (d :: ds) D) (h1 : D' (i + 1) = ((d + 1 : Nat) : Int)) (h2 : ∀ j, j ≠ i + 1 → D' j = D j) : ahd l (i + 1) ((d + 1) :: ds) D' := fun k hk => by
  obtain ⟨cs, w1, w2⟩ := hp
  cases k with
  | zero => rw [sk_0]; exact h1
  | succ k =>
    have hk' : k < ds.length := Nat.lt_of_succ_lt_succ hk
    have g := sk_mono w1 (k + 1) 0 (by rw [w2]; exact Nat.le_of_lt (by simpa using hk))
    rw [sk_0, Nat.zero_add] at g
    rw [h2 _ (by omega)]
    have := h (k + 1) (Nat.succ_lt_succ hk')
    rw [drop_cons hi] at this
    have e : sk (l.getD i 0 :: l.drop (i + 1)) (k + 1) = 1 + sk (l.drop (i + 1)) (k + 1) := by
      show 1 + sk _ (k + prt _) = _
      rw [h0]
    rw [e] at this
    rw [show i + 1 + sk (l.drop (i + 1)) (k + 1) = i + (1 + sk (l.drop (i + 1)) (k + 1)) by omega]
    exact this
theorem ahd_app {l : List Int} {i d : Nat} {ds : List Nat} {D D' : Nat → Int} (hi : i < l.length) (h0 : prt (l.getD i 0) = 2) (hp : pnd l (i + 1) (d :: d :: ds)) (h : ahd l i (d :: ds) D) (h1 : D' (i + 1) = ((d : Nat) : Int)) (h3 : D' (en l (i + 1)) = ((d : Nat) : Int)) (h2 : ∀ j, j ≠ i + 1 → j ≠ en l (i + 1) → D' j = D j) : ahd l (i + 1) (d :: d :: ds) D' := fun k hk => by
  obtain ⟨cs, w1, w2⟩ := hp
  have w2' : cs.length = ds.length + 2 := w2
  match k, hk with
  | 0, _ => rw [sk_0]; exact h1
  | 1, _ => exact h3
  | k + 2, hk =>
    have hk' : k < ds.length := by
      have : k + 2 < ds.length + 2 := hk
      omega
    have g := sk_mono w1 (k + 2) 0 (by omega)
    have g2 := sk_mono w1 (k + 1) 1 (by omega)
    rw [sk_0, Nat.zero_add] at g
    rw [show 1 + (k + 1) = k + 2 by omega] at g2
    rw [h2 _ (by omega) (by unfold en; omega)]
    have := h (k + 1) (Nat.succ_lt_succ hk')
    rw [drop_cons hi] at this
    have e : sk (l.getD i 0 :: l.drop (i + 1)) (k + 1) = 1 + sk (l.drop (i + 1)) (k + 2) := by
      show 1 + sk _ (k + prt _) = _
      rw [h0]
    rw [e] at this
    rw [show i + 1 + sk (l.drop (i + 1)) (k + 2) = i + (1 + sk (l.drop (i + 1)) (k + 2)) by omega]
    exact this
/-- the depth at a place -/
def dp (l : List Int) (i : Nat) : Nat := (dl l [0]).getD i 0
theorem take_succ_getD {l : List Int} {i : Nat} (h : i < l.length) : l.take (i + 1) = l.take i ++ [l.getD i 0] := by
  rw [nI_get h]
  exact (List.take_append_getElem h).symm
theorem stk_take {l : List Int} {i d : Nat} {ds : List Nat} (h : i < l.length) (hs : stk (l.take i) [0] = d :: ds) : stk (l.take (i + 1)) [0] = nd (l.getD i 0) d ++ ds := by
  rw [take_succ_getD h, stk_app, hs]
  exact stk_nil _
theorem dp_stk {l : List Int} {i d : Nat} {ds : List Nat} (h : i < l.length) (hs : stk (l.take i) [0] = d :: ds) : dp l i = d := by
  unfold dp
  have e : l = l.take i ++ l.drop i := (List.take_append_drop i l).symm
  have e2 : dl l [0] = dl (l.take i) [0] ++ dl (l.drop i) (d :: ds) := by
    conv => lhs; rw [e, dl_app, hs]
  rw [e2, List.getD_eq_getElem?_getD, List.getElem?_append_right (by rw [dl_len, List.length_take]; omega), dl_len, List.length_take, Nat.min_eq_left (Nat.le_of_lt h), Nat.sub_self, drop_cons h]
  rfl
end
section
/-! PURE 3: redexes, strategies, contraction -/
abbrev rx (l : List Int) (k : Nat) : Prop := tokA l (k : Nat) = 1000 ∧ tokA l ((k : Nat) + 1) = 1001
abbrev inn (l : List Int) (k : Nat) : Prop := rx l k ∧ ∀ j, j < en l k → k < j → ¬ rx l j
abbrev whP (l : List Int) (k : Nat) : Prop := rx l k ∧ ∀ j, j < k → tokA l (j : Nat) = 1000
def fnd (P : Nat → Prop) [DecidablePred P] : Nat → Int
  | 0 => -9
  | n + 1 => if fnd P n ≠ -9 then fnd P n else if P n then (n : Nat) else -9
def lst (P : Nat → Prop) [DecidablePred P] : Nat → Int
  | 0 => -9
  | n + 1 => if P n then (n : Nat) else lst P n
def cntP (P : Nat → Prop) [DecidablePred P] : Nat → Nat
  | 0 => 0
  | n + 1 => cntP P n + if P n then 1 else 0
theorem fnd_none {P : Nat → Prop} [DecidablePred P] : ∀ {n : Nat}, (∀ k, k < n → ¬ P k) → fnd P n = -9
  | 0, _ => rfl
  | n + 1, h => by
    have ih := fnd_none (n := n) (fun k hk => h k (by omega))
    unfold fnd
    rw [if_neg (by rw [ih]; exact fun z => z rfl), if_neg (h n (by omega))]
theorem fnd_some {P : Nat → Prop} [DecidablePred P] {k : Nat} (hp : P k) (hb : ∀ j, j < k → ¬ P j) : ∀ {n : Nat}, k < n → fnd P n = (k : Nat)
  | 0, h => absurd h (Nat.not_lt_zero k)
  | n + 1, h => by
    unfold fnd
    by_cases e : k < n
    · have ih := fnd_some hp hb e
      rw [if_pos (by rw [ih]; omega), ih]
    · have e2 : k = n := by omega
      subst e2
      rw [if_neg (by rw [fnd_none hb]; exact fun z => z rfl), if_pos hp]
theorem fnd_cases (P : Nat → Prop) [DecidablePred P] : ∀ n : Nat, (fnd P n = -9 ∧ ∀ k, k < n → ¬ P k) ∨ ∃ k, k < n ∧ fnd P n = (k : Nat) ∧ P k ∧ ∀ j, j < k → ¬ P j
  | 0 => Or.inl ⟨rfl, fun k h => absurd h (Nat.not_lt_zero k)⟩
  | n + 1 => by
    rcases fnd_cases P n with ⟨h1, h2⟩ | ⟨k, h1, h2, h3, h4⟩
    · by_cases hp : P n
      · exact Or.inr ⟨n, Nat.lt_succ_self n, fnd_some hp h2 (Nat.lt_succ_self n), hp, h2⟩
      · exact Or.inl ⟨fnd_none (fun k hk => by
          by_cases e : k = n
          · rw [e]; exact hp
          · exact h2 k (by omega)), fun k hk => by
          by_cases e : k = n
          · rw [e]; exact hp
          · exact h2 k (by omega)⟩
    · exact Or.inr ⟨k, by omega, fnd_some h3 h4 (by omega), h3, h4⟩
theorem lst_none {P : Nat → Prop} [DecidablePred P] : ∀ {n : Nat}, (∀ k, k < n → ¬ P k) → lst P n = -9
  | 0, _ => rfl
  | n + 1, h => by
    unfold lst
    rw [if_neg (h n (by omega))]
    exact lst_none (fun k hk => h k (by omega))
theorem lst_some {P : Nat → Prop} [DecidablePred P] {k : Nat} (hp : P k) : ∀ {n : Nat}, k < n → (∀ j, k < j → j < n → ¬ P j) → lst P n = (k : Nat)
  | 0, h, _ => absurd h (Nat.not_lt_zero k)
  | n + 1, h, hb => by
    unfold lst
    by_cases e : k = n
    · subst e
      rw [if_pos hp]
    · rw [if_neg (hb n (by omega) (by omega))]
      exact lst_some hp (by omega) (fun j h1 h2 => hb j h1 (by omega))
theorem lst_cases (P : Nat → Prop) [DecidablePred P] : ∀ n : Nat, (lst P n = -9 ∧ ∀ k, k < n → ¬ P k) ∨ ∃ k, k < n ∧ lst P n = (k : Nat) ∧ P k
  | 0 => Or.inl ⟨rfl, fun k h => absurd h (Nat.not_lt_zero k)⟩
  | n + 1 => by
    by_cases hp : P n
    · exact Or.inr ⟨n, Nat.lt_succ_self n, by unfold lst; rw [if_pos hp], hp⟩
    · have e : lst P (n + 1) = lst P n := by
        show (if P n then ((n : Nat) : Int) else lst P n) = _
        rw [if_neg hp]
      rcases lst_cases P n with ⟨h1, h2⟩ | ⟨k, h1, h2, h3⟩
      · refine Or.inl ⟨by rw [e]; exact h1, fun k hk => ?_⟩
        by_cases e : k = n
        · rw [e]; exact hp
        · exact h2 k (by omega)
      · exact Or.inr ⟨k, by omega, by rw [e]; exact h2, h3⟩
theorem cntP_le (P : Nat → Prop) [DecidablePred P] : ∀ n, cntP P n ≤ n
  | 0 => Nat.le_refl 0
  | n + 1 => by
    have := cntP_le P n
    unfold cntP
    split <;> omega
theorem cntP_zero {P : Nat → Prop} [DecidablePred P] : ∀ {n : Nat}, cntP P n = 0 ↔ ∀ k, k < n → ¬ P k
  | 0 => ⟨fun _ k h => absurd h (Nat.not_lt_zero k), fun _ => rfl⟩
  | n + 1 => by
    have ih := cntP_zero (P := P) (n := n)
    unfold cntP
    by_cases hp : P n
    · rw [if_pos hp]
      exact ⟨fun h => by omega, fun h => absurd hp (h n (by omega))⟩
    · rw [if_neg hp]
      constructor
      · intro h k hk
        by_cases e : k = n
        · rw [e]; exact hp
        · exact ih.mp (by omega) k (by omega)
      · intro h
        have := ih.mpr (fun k hk => h k (by omega))
        omega
def chz (l : List Int) (s : Int) : Int := if s = 0 then fnd (rx l) l.length else if s = 1 then fnd (inn l) l.length else if s = 2 then lst (rx l) l.length else if s = 3 then fnd (whP l) l.length else -9
theorem chz_cases (l : List Int) (s : Int) : chz l s = -9 ∨ ∃ k, k < l.length ∧ chz l s = (k : Nat) ∧ rx l k := by
  unfold chz
  split
  · rcases fnd_cases (rx l) l.length with ⟨h, -⟩ | ⟨k, h1, h2, h3, -⟩
    · exact Or.inl h
    · exact Or.inr ⟨k, h1, h2, h3⟩
  · split
    · rcases fnd_cases (inn l) l.length with ⟨h, -⟩ | ⟨k, h1, h2, h3, -⟩
      · exact Or.inl h
      · exact Or.inr ⟨k, h1, h2, h3.1⟩
    · split
      · rcases lst_cases (rx l) l.length with ⟨h, -⟩ | ⟨k, h1, h2, h3⟩
        · exact Or.inl h
        · exact Or.inr ⟨k, h1, h2, h3⟩
      · split
        · rcases fnd_cases (whP l) l.length with ⟨h, -⟩ | ⟨k, h1, h2, h3, -⟩
          · exact Or.inl h
          · exact Or.inr ⟨k, h1, h2, h3.1⟩
        · exact Or.inl rfl
theorem rx_lt {l : List Int} {k : Nat} (h : rx l k) : k + 1 < l.length ∧ l.getD k 0 = 1000 ∧ l.getD (k + 1) 0 = 1001 := by
  obtain ⟨h1, h2⟩ := h
  have e2 : k + 1 < l.length := by
    rcases Nat.lt_or_ge (k + 1) l.length with q | q
    · exact q
    · have := tokA_out q
      rw [show ((k + 1 : Nat) : Int) = (k : Nat) + 1 by omega] at this
      omega
  rw [tokA_in (by omega)] at h1
  rw [show ((k : Nat) : Int) + 1 = ((k + 1 : Nat) : Int) by omega, tokA_in e2] at h2
  exact ⟨e2, h1, h2⟩
theorem rx_of {l : List Int} {k : Nat} (h : k + 1 < l.length) (h1 : l.getD k 0 = 1000) (h2 : l.getD (k + 1) 0 = 1001) : rx l k := by
  refine ⟨?_, ?_⟩
  · rw [tokA_in (by omega)]; exact h1
  · rw [show ((k : Nat) : Int) + 1 = ((k + 1 : Nat) : Int) by omega, tokA_in h]; exact h2
/-- one term, plain -/
def One (l : List Int) (c : Nat) : Prop := wfr l [c] = some [] ∧ ∀ t ∈ l, t < 1000000
theorem Gd.one {l : List Int} (h : Gd l) : One l 10 := ⟨h.2.1, h.2.2⟩
theorem One.pnd {l : List Int} {c : Nat} (h : One l c) : ∀ i, i ≤ l.length → pnd l i (stk (l.take i) [0])
  | 0, _ => ⟨[c], h.1, rfl⟩
  | i + 1, hi => by
    obtain ⟨d, ds, e, q⟩ := pnd_step h.2 (by omega) (h.pnd i (by omega))
    rw [stk_take (by omega) e]
    exact q
theorem One.top {l : List Int} {c : Nat} (h : One l c) {i : Nat} (hi : i < l.length) : ∃ ds, stk (l.take i) [0] = dp l i :: ds := by
  obtain ⟨d, ds, e, -⟩ := pnd_step h.2 hi (h.pnd i (by omega))
  exact ⟨ds, by rw [dp_stk hi e]; exact e⟩
/-- the subterm at a place -/
def sub_ (l : List Int) (s : Nat) : List Int := (l.drop s).take (en l s - s)
theorem One.sub {l : List Int} {c : Nat} (h : One l c) {s : Nat} (hs : s < l.length) : ∃ c', One (sub_ l s) c' ∧ (sub_ l s).length = en l s - s ∧ ∀ i, i < en l s - s → dp l (s + i) = dp l s + dp (sub_ l s) i := by
  obtain ⟨ds, e1⟩ := h.top hs
  obtain ⟨cs, h1, h2⟩ := h.pnd s (by omega)
  rw [e1] at h2
  cases cs with
  | nil => cases h2
  | cons c' cs' =>
    obtain ⟨a, b, e2, h3, h4⟩ := wfr_split (l.drop s) [c'] cs' h1
    have e3 : en l s - s = a.length := by
      unfold en
      rw [e2]
      have := sk_wf a [c'] b h3
      have this : sk (a ++ b) 1 = a.length := this
      omega
    have e4 : sub_ l s = a := by
      unfold sub_
      rw [e3, e2, List.take_left]
    have hpa : ∀ t ∈ a, t < 1000000 := fun t ht => h.2 t (List.mem_of_mem_drop (i := s) (by rw [e2]; exact List.mem_append_left _ ht))
    rw [e4, e3]
    refine ⟨c', ⟨h3, hpa⟩, rfl, fun i hi => ?_⟩
    have e5 : l = l.take s ++ (a ++ b) := by rw [← e2]; exact (List.take_append_drop s l).symm
    have e6 : dl l [0] = dl (l.take s) [0] ++ (dl a (dp l s :: ds) ++ dl b (stk a (dp l s :: ds))) := by
      have : dl (l.take s ++ (a ++ b)) [0] = dl (l.take s) [0] ++ (dl a (dp l s :: ds) ++ dl b (stk a (dp l s :: ds))) := by rw [dl_app, e1, dl_app]
      rw [← e5] at this
      exact this
    have e7 : dl a (dp l s :: ds) = (dl a [0]).map (· + dp l s) := by
      have := dl_shift (dp l s) a [c'] [0] ds hpa h3 rfl
      simpa using this
    have hl1 : (dl (l.take s) [0]).length = s := by rw [dl_len, List.length_take]; omega
    show (dl l [0]).getD (s + i) 0 = _
    rw [e6, e7, List.getD_eq_getElem?_getD, List.getElem?_append_right (by omega), hl1, show s + i - s = i by omega, List.getElem?_append_left (by rw [List.length_map, dl_len]; exact hi), List.getElem?_map]
    have hi2 : i < (dl a [0]).length := by rw [dl_len]; exact hi
    rw [List.getElem?_eq_getElem hi2]
    show (dl a [0])[i] + dp l s = dp l s + dp a i
    unfold dp
    rw [List.getD_eq_getElem?_getD, List.getD_eq_getElem?_getD, List.getElem?_eq_getElem hi2]
    show (dl a [0])[i] + _ = _ + (dl a [0])[i]
    omega
theorem shf_app (k : Nat) : ∀ (a b : List Int) (ds : List Nat), shf (a ++ b) ds k = shf a ds k ++ shf b (stk a ds) k
  | [], b, ds => by
    rw [List.nil_append, stk_nil]
    cases ds <;> rfl
  | t :: a, b, [] => by
    have := shf_app k a b []
    rw [stk_e] at this ⊢
    exact congrArg (fun x => t :: x) this
  | t :: a, b, d :: ds => congrArg (fun x => _ :: x) (shf_app k a b (nd t d ++ ds))
def shT (t : Int) (d k : Nat) : Int := if 0 ≤ t ∧ t < 1000 ∧ (d : Int) ≤ t then t + (k : Int) else t
theorem shf_take {l : List Int} {c k i : Nat} (h : One l c) (hi : i < l.length) : shf (l.take (i + 1)) [0] k = shf (l.take i) [0] k ++ [shT (l.getD i 0) (dp l i) k] := by
  obtain ⟨ds, e⟩ := h.top hi
  rw [take_succ_getD hi, shf_app, e]
  rfl
theorem sb_take {l arg : List Int} {c i : Nat} (h : One l c) (hi : i < l.length) : sb (l.take (i + 1)) [0] arg = sb (l.take i) [0] arg ++ pce (l.getD i 0) (dp l i) arg := by
  obtain ⟨ds, e⟩ := h.top hi
  rw [take_succ_getD hi, sb_app, e]
  show _ ++ (pce _ _ arg ++ sb [] _ arg) = _
  rw [sb_nil, List.append_nil]
/-- what a redex at k becomes -/
def ctr (l : List Int) (k : Nat) : List Int := l.take k ++ (sb ((l.drop (k + 2)).take (en l (k + 1) - (k + 2))) [0] (sub_ l (en l (k + 1))) ++ l.drop (en l (en l (k + 1))))
theorem wfr_up : ∀ (a : List Int) (cs ds : List Nat) (M : Nat), (∀ t ∈ a, t < 1000000) → wfr a cs = some ds → (∀ c ∈ cs, c ≤ M) → ∀ c ∈ ds, c ≤ M + a.length
  | [], cs, ds, M, hp, h, hb => by
    rw [wfr_nil] at h
    cases h
    exact hb
  | t :: a, cs, ds, M, hp, h, hb => by
    obtain ⟨c, cs', n, rfl, hn, h2⟩ := wfr_cons h
    have ih := wfr_up a (n ++ cs') ds (M + 1) (fun x hx => hp x (List.mem_cons_of_mem _ hx)) h2 (fun x hx => by
      have hc := hb c List.mem_cons_self
      rcases List.mem_append.mp hx with q | q
      · rcases nxt_plain (hp t List.mem_cons_self) hn with ⟨-, rfl⟩ | ⟨-, rfl⟩ | ⟨-, -, -, -, rfl⟩
        · have : x = c := by simpa using q
          omega
        · have : x = c + 1 := by simpa using q
          omega
        · cases q
      · have := hb x (List.mem_cons_of_mem _ q)
        omega)
    intro x hx
    have := ih x hx
    simp only [List.length_cons]
    omega
theorem rx_split {l : List Int} {k : Nat} (h : Gd l) (hr : rx l k) : ∃ (c : Nat) (cs : List Nat) (body arg post : List Int), l = l.take k ++ 1000 :: 1001 :: (body ++ (arg ++ post)) ∧ wfr (l.take k) [10] = some (c :: cs) ∧ wfr body [c + 1] = some [] ∧ wfr arg [c] = some [] ∧ wfr post cs = some [] ∧ c ≤ 10 + k ∧ en l (k + 1) = k + 2 + body.length ∧ en l (en l (k + 1)) = k + 2 + body.length + arg.length ∧ k + 2 + body.length + arg.length + post.length = l.length := by
  obtain ⟨h1, h2, h3⟩ := rx_lt hr
  have e0 : l = l.take k ++ l.drop k := (List.take_append_drop k l).symm
  have e1 : l.drop k = 1000 :: 1001 :: l.drop (k + 2) := by rw [drop_cons (by omega), h2, drop_cons h1, h3]
  have w := h.2.1
  rw [e0, wfr_app] at w
  cases hw : wfr (l.take k) [10] with
  | none => rw [hw] at w; cases w
  | some cs0 =>
    rw [hw] at w
    have w : wfr (l.drop k) cs0 = some [] := w
    rw [e1] at w
    obtain ⟨c, cs, n, rfl, hn, w2⟩ := wfr_cons w
    cases hn
    obtain ⟨c1, cs1, n1, e, hn1, w3⟩ := wfr_cons w2
    cases e
    cases hn1
    have w3 : wfr (l.drop (k + 2)) ([c + 1] ++ ([c] ++ cs)) = some [] := w3
    obtain ⟨body, r1, e2, b1, b2⟩ := wfr_split _ _ _ w3
    obtain ⟨arg, post, e3, b3, b4⟩ := wfr_split _ _ _ b2
    subst e3
    have hlen : l.length = k + (2 + (body.length + (arg.length + post.length))) := by
      have q := congrArg List.length e0
      rw [List.length_append, List.length_take, e1] at q
      simp only [List.length_cons] at q
      rw [e2, List.length_append, List.length_append] at q
      omega
    have en1 : en l (k + 1) = k + 2 + body.length := by
      unfold en
      rw [drop_cons h1, h3, sk_1, e2]
      have := sk_wf body [c + 1] (arg ++ post) b1
      have this : sk (body ++ (arg ++ post)) 1 = body.length := this
      rw [prt_1001, this]
      omega
    have ed : l.drop (k + 2 + body.length) = arg ++ post := by
      rw [← List.drop_drop, e2, List.drop_left]
    have en2 : en l (en l (k + 1)) = k + 2 + body.length + arg.length := by
      rw [en1]
      unfold en
      rw [ed]
      have := sk_wf arg [c] post b3
      have this : sk (arg ++ post) 1 = arg.length := this
      rw [this]
    refine ⟨c, cs, body, arg, post, ?_, rfl, b1, b3, b4, ?_, en1, en2, by omega⟩
    · rw [← e2, ← e1]
      exact e0
    · have := wfr_up (l.take k) [10] (c :: cs) 10 (fun t ht => h.2.2 t (List.mem_of_mem_take ht)) hw (fun x hx => by
        have : x = 10 := by simpa using hx
        omega) c List.mem_cons_self
      rw [List.length_take] at this
      omega
theorem ctr_eq {l body arg post : List Int} {k : Nat} (e : l = l.take k ++ 1000 :: 1001 :: (body ++ (arg ++ post))) (hk : k + 2 ≤ l.length) (e1 : en l (k + 1) = k + 2 + body.length) (e2 : en l (en l (k + 1)) = k + 2 + body.length + arg.length) : (l.drop (k + 2)).take (en l (k + 1) - (k + 2)) = body ∧ sub_ l (en l (k + 1)) = arg ∧ l.drop (en l (en l (k + 1))) = post := by
  have ht : (l.take k).length = k := by rw [List.length_take]; omega
  have d2 : l.drop (k + 2) = body ++ (arg ++ post) := by
    have q : l.drop k = 1000 :: 1001 :: (body ++ (arg ++ post)) := by
      have := congrArg (List.drop k) e
      rw [this]
      exact List.drop_left' ht
    rw [← List.drop_drop, q]
    rfl
  have d3 : l.drop (k + 2 + body.length) = arg ++ post := by rw [← List.drop_drop, d2, List.drop_left]
  have d4 : l.drop (k + 2 + body.length + arg.length) = post := by rw [← List.drop_drop, d3, List.drop_left]
  refine ⟨?_, ?_, ?_⟩
  · rw [e1, d2, show k + 2 + body.length - (k + 2) = body.length by omega, List.take_left]
  · unfold sub_
    rw [e2, e1, d3, show k + 2 + body.length + arg.length - (k + 2 + body.length) = arg.length by omega, List.take_left]
  · rw [e2, d4]
theorem shf_plain {k : Nat} (hk : k ≤ 1000) : ∀ (l : List Int) (ds : List Nat), (∀ t ∈ l, t < 1000000) → ∀ t ∈ shf l ds k, t < 1000000
  | [], ds, h => fun t ht => by cases ds <;> cases ht
  | x :: l, [], h => fun t ht => by
    rcases List.mem_cons.mp ht with e | e
    · rw [e]; exact h x List.mem_cons_self
    · exact shf_plain hk l [] (fun y hy => h y (List.mem_cons_of_mem _ hy)) t e
  | x :: l, d :: ds, h => fun t ht => by
    have ht : t ∈ (if 0 ≤ x ∧ x < 1000 ∧ (d : Int) ≤ x then x + (k : Int) else x) :: shf l (nd x d ++ ds) k := ht
    rcases List.mem_cons.mp ht with e | e
    · rw [e]
      have := h x List.mem_cons_self
      split <;> omega
    · exact shf_plain hk l (nd x d ++ ds) (fun y hy => h y (List.mem_cons_of_mem _ hy)) t e
theorem sb_plain {arg : List Int} (ha : ∀ t ∈ arg, t < 1000000) : ∀ (l : List Int) (ds : List Nat), (∀ t ∈ l, t < 1000000) → ∀ t ∈ sb l ds arg, t < 1000000
  | [], ds, h => fun t ht => by rw [sb_nil] at ht; cases ht
  | x :: l, [], h => fun t ht => sb_plain ha l [] (fun y hy => h y (List.mem_cons_of_mem _ hy)) t ht
  | x :: l, d :: ds, h => fun t ht => by
    have ht : t ∈ pce x d arg ++ sb l (nd x d ++ ds) arg := ht
    rcases List.mem_append.mp ht with e | e
    · have hx := h x List.mem_cons_self
      unfold pce at e
      split at e
      · have : t = x := by simpa using e
        omega
      · split at e
        · exact shf_plain (by omega) arg [0] ha t e
        · have : t = x - 1 := by simpa using e
          omega
    · exact sb_plain ha l _ (fun y hy => h y (List.mem_cons_of_mem _ hy)) t e
theorem Gd_ctr {l : List Int} {k : Nat} (h : Gd l) (hr : rx l k) (hl : (ctr l k).length ≤ 200) : Gd (ctr l k) := by
  obtain ⟨c, cs, body, arg, post, e, w1, w2, w3, w4, hc, e1, e2, hn⟩ := rx_split h hr
  have h1 := (rx_lt hr).1
  obtain ⟨q1, q2, q3⟩ := ctr_eq e (by omega) e1 e2
  have hm : ∀ t ∈ body ++ (arg ++ post), t < 1000000 := fun t ht => h.2.2 t (by
    rw [e]
    exact List.mem_append_right _ (List.mem_cons_of_mem _ (List.mem_cons_of_mem _ ht)))
  have hpb : ∀ t ∈ body, t < 1000000 := fun t ht => hm t (List.mem_append_left _ ht)
  have hpa : ∀ t ∈ arg, t < 1000000 := fun t ht => hm t (List.mem_append_right _ (List.mem_append_left _ ht))
  have hpp : ∀ t ∈ post, t < 1000000 := fun t ht => hm t (List.mem_append_right _ (List.mem_append_right _ ht))
  have hlen := h.1
  refine ⟨hl, ?_, ?_⟩
  · unfold ctr
    rw [q1, q2, q3, wfr_app, w1]
    show wfr (sb body [0] arg ++ post) (c :: cs) = some []
    rw [wfr_app]
    have := wfr_sb c arg w3 hpa (by omega) body [0] cs hpb w2 (fun d hd => by
      have : d = 0 := by simpa using hd
      omega)
    have this : wfr (sb body [0] arg) (c :: cs) = some cs := this
    rw [this]
    exact w4
  · unfold ctr
    rw [q1, q2, q3]
    intro t ht
    rcases List.mem_append.mp ht with g | g
    · exact h.2.2 t (List.mem_of_mem_take g)
    · rcases List.mem_append.mp g with g | g
      · exact sb_plain hpa body [0] hpb t g
      · exact hpp t g
end
section
/-! TERM: a row of at most 200 tokens, with a mark -/
def Tm (G : Gm) (c : HP) (h a : Nat) (T : List Int × Int) : Prop := h < G.2.1 ∧ a < G.2.1 ∧ h ≠ a ∧ T.1.length ≤ 200 ∧ (T.2 = 0 ∨ T.2 = 1) ∧ c h = .inr (6, [.ref (G.1 a), .int (zI (T.1.length : Nat)), .int (zI T.2)]) ∧ ∃ F : Nat → Int, c a = aI G 200 F ∧ ∀ k, k < T.1.length → F k = T.1.getD k 0
theorem Tm.keep {G : Gm} {c c' : HP} {h a : Nat} {T : List Int × Int} (q : Tm G c h a T) (e1 : c' h = c h) (e2 : c' a = c a) : Tm G c' h a T := by
  obtain ⟨h1, h2, h3, h4, h5, h6, F, h7, h8⟩ := q
  exact ⟨h1, h2, h3, h4, h5, e1.trans h6, F, e2.trans h7, h8⟩
theorem Tm.cell {G : Gm} {c : HP} {h a : Nat} {T : List Int × Int} (q : Tm G c h a T) : c h = .inr (6, [.ref (G.1 a), .int (zI (T.1.length : Nat)), .int (zI T.2)]) := q.2.2.2.2.2.1
theorem Tm.lt {G : Gm} {c : HP} {h a : Nat} {T : List Int × Int} (q : Tm G c h a T) : h < G.2.1 := q.1
theorem Tm.len {G : Gm} {c : HP} {h a : Nat} {T : List Int × Int} (q : Tm G c h a T) : T.1.length ≤ 200 := q.2.2.2.1
theorem Tm.b01 {G : Gm} {c : HP} {h a : Nat} {T : List Int × Int} (q : Tm G c h a T) : T.2 = 0 ∨ T.2 = 1 := q.2.2.2.2.1
def tAdd (T : List Int × Int) (t : Int) : List Int × Int := if T.1.length < 200 then (T.1 ++ [t], T.2) else (T.1, 1)
def tRange (T : List Int × Int) (l : List Int) (s e : Nat) : List Int × Int := if (e - s) + T.1.length ≤ 200 then (T.1 ++ (l.drop s).take (e - s), T.2) else (T.1, 1)
theorem getD_app_lt {l r : List Int} {k : Nat} (h : k < l.length) : (l ++ r).getD k 0 = l.getD k 0 := by
  simp only [List.getD_eq_getElem?_getD]
  rw [List.getElem?_append_left h]
theorem getD_app_ge {l r : List Int} {k : Nat} (h : l.length ≤ k) : (l ++ r).getD k 0 = r.getD (k - l.length) 0 := by
  simp only [List.getD_eq_getElem?_getD]
  rw [List.getElem?_append_right h]
theorem getD_range {l : List Int} {s n k : Nat} (h : k < n) : ((l.drop s).take n).getD k 0 = l.getD (s + k) 0 := by
  simp only [List.getD_eq_getElem?_getD]
  rw [List.getElem?_take_of_lt h, List.getElem?_drop]
set_option maxRecDepth 100000 in
set_option maxHeartbeats 4000000 in
theorem c_X6_length {l : Launch} {G : Gm} {c : HP} {h a : Nat} {T : List Int × Int} (hG : injG G) (hT : Tm G c h a T) : AMet l G yX6_length cX6_length 1 ((some .int)) (rmR 0 0) [.ref (G.1 h)] c (Qi (fun v c' => v = zI (T.1.length : Nat) ∧ c' = c)) := by
  refine AMet.of (vl := [some (.ref (G.1 h))]) (by decide) hG (Nat.le_of_ble_eq_true rfl) rfl ?_
  intro K X
  have X : Fx l G K cX6_length 1 RX6 ((some .int)) (rmR 0 0) := X
  obtain ⟨hN1, hN2, hne, hlen, hb01, hh, F, ha, hF⟩ := hT
  refine A_aload_n (q := 1) X dX6_length_0 rfl rfl ?_
  refine A_getf (q := 4) X fX6_15 dX6_length_1 hN1 hh rfl rfl ?_
  exact A_ireturn X dX6_length_4 ⟨rfl, rfl⟩
set_option maxRecDepth 100000 in
set_option maxHeartbeats 4000000 in
theorem c_X6_isTooLarge {l : Launch} {G : Gm} {c : HP} {h a : Nat} {T : List Int × Int} (hG : injG G) (hT : Tm G c h a T) : AMet l G yX6_isTooLarge cX6_isTooLarge 1 ((some .boolean)) (rmR 0 0) [.ref (G.1 h)] c (Qi (fun v c' => v = zI T.2 ∧ c' = c)) := by
  refine AMet.of (vl := [some (.ref (G.1 h))]) (by decide) hG (Nat.le_of_ble_eq_true rfl) rfl ?_
  intro K X
  have X : Fx l G K cX6_isTooLarge 1 RX6 ((some .boolean)) (rmR 0 0) := X
  obtain ⟨hN1, hN2, hne, hlen, hb01, hh, F, ha, hF⟩ := hT
  refine A_aload_n (q := 1) X dX6_isTooLarge_0 rfl rfl ?_
  refine A_getf (q := 4) X fX6_19 dX6_isTooLarge_1 hN1 hh rfl rfl ?_
  exact A_zreturn X dX6_isTooLarge_4 hb01 ⟨rfl, rfl⟩
set_option maxRecDepth 100000 in
set_option maxHeartbeats 4000000 in
theorem c_X6_has {l : Launch} {G : Gm} {c : HP} {h a : Nat} {T : List Int × Int} {p : Int} (hG : injG G) (hT : Tm G c h a T) (hp : rg p) : AMet l G yX6_has cX6_has 2 ((some .boolean)) (rmR 0 0) [.ref (G.1 h), .int (zI p)] c (Qi (fun v c' => v = zI (if 0 ≤ p ∧ p < (T.1.length : Nat) then 1 else 0) ∧ c' = c)) := by
  refine AMet.of (vl := [some (.ref (G.1 h)), some (.int (zI p))]) (by decide) hG (Nat.le_of_ble_eq_true rfl) rfl ?_
  intro K X
  have X : Fx l G K cX6_has 2 RX6 ((some .boolean)) (rmR 0 0) := X
  obtain ⟨hN1, hN2, hne, hlen, hb01, hh, F, ha, hF⟩ := hT
  refine A_iload_n (q := 1) X dX6_has_0 rfl rfl ?_
  refine A_if_lt (q := 4) (t := 16) X dX6_has_1 (by omega) rfl rfl (fun hb1 => ?_) (fun hb1 => ?_)
  · refine A_iconst (q := 17) X dX6_has_16 rfl ?_
    exact A_zreturn X dX6_has_17 (by decide) ⟨zb0 (by omega), rfl⟩
  · refine A_iload_n (q := 5) X dX6_has_4 rfl rfl ?_
    refine A_aload_n (q := 6) X dX6_has_5 rfl rfl ?_
    refine A_getf (q := 9) X fX6_15 dX6_has_6 hN1 hh rfl rfl ?_
    refine A_icmp_ge (q := 12) (t := 16) X dX6_has_9 (by omega) (by omega) rfl rfl (fun hb9 => ?_) (fun hb9 => ?_)
    · refine A_iconst (q := 17) X dX6_has_16 rfl ?_
      exact A_zreturn X dX6_has_17 (by decide) ⟨zb0 (by omega), rfl⟩
    · refine A_iconst (q := 13) X dX6_has_12 rfl ?_
      refine A_goto (q := 17) X dX6_has_13 rfl ?_
      exact A_zreturn X dX6_has_17 (by decide) ⟨zb1 (by omega), rfl⟩
set_option maxRecDepth 100000 in
set_option maxHeartbeats 4000000 in
theorem c_X6_token {l : Launch} {G : Gm} {c : HP} {h a : Nat} {T : List Int × Int} {p : Int} (hG : injG G) (hT : Tm G c h a T) (hp : rg p) : AMet l G yX6_token cX6_token 2 ((some .int)) (rmR 0 0) [.ref (G.1 h), .int (zI p)] c (Qi (fun v c' => v = zI (tokA T.1 p) ∧ c' = c)) := by
  refine AMet.of (vl := [some (.ref (G.1 h)), some (.int (zI p))]) (by decide) hG (Nat.le_of_ble_eq_true rfl) rfl ?_
  intro K X
  have X : Fx l G K cX6_token 2 RX6 ((some .int)) (rmR 0 0) := X
  obtain ⟨hN1, hN2, hne, hlen, hb01, hh, F, ha, hF⟩ := hT
  refine A_iload_n (q := 1) X dX6_token_0 rfl rfl ?_
  refine A_if_lt (q := 4) (t := 21) X dX6_token_1 (by omega) rfl rfl (fun hb1 => ?_) (fun hb1 => ?_)
  · refine A_iconst (q := 22) X dX6_token_21 rfl ?_
    exact A_ireturn X dX6_token_22 ⟨by unfold tokA; rw [if_neg (by omega)], rfl⟩
  · refine A_iload_n (q := 5) X dX6_token_4 rfl rfl ?_
    refine A_aload_n (q := 6) X dX6_token_5 rfl rfl ?_
    refine A_getf (q := 9) X fX6_15 dX6_token_6 hN1 hh rfl rfl ?_
    refine A_icmp_ge (q := 12) (t := 21) X dX6_token_9 (by omega) (by omega) rfl rfl (fun hb9 => ?_) (fun hb9 => ?_)
    · refine A_iconst (q := 22) X dX6_token_21 rfl ?_
      exact A_ireturn X dX6_token_22 ⟨by unfold tokA; rw [if_neg (by omega)], rfl⟩
    · refine A_aload_n (q := 13) X dX6_token_12 rfl rfl ?_
      refine A_getf (q := 16) X fX6_9 dX6_token_13 hN1 hh rfl rfl ?_
      refine A_iload_n (q := 17) X dX6_token_16 rfl rfl ?_
      refine A_iald (q := 18) ((p).toNat) X dX6_token_17 hN2 ha (by omega) (by omega) (by decide) rfl ?_
      refine A_goto (q := 22) X dX6_token_18 rfl ?_
      exact A_ireturn X dX6_token_22 ⟨by unfold tokA; rw [if_pos (by omega), hF _ (by omega)], rfl⟩
set_option maxRecDepth 100000 in
set_option maxHeartbeats 4000000 in
theorem c_X6_clear {l : Launch} {G : Gm} {c : HP} {h a : Nat} {T : List Int × Int} (hG : injG G) (hT : Tm G c h a T) : AMet l G yX6_clear cX6_clear 1 (none) (rmR 0 0) [.ref (G.1 h)] c (Qv (fun c' => Tm G c' h a ([], 0) ∧ (∀ k, k ≠ h → k ≠ a → c' k = c k))) := by
  refine AMet.of (vl := [some (.ref (G.1 h))]) (by decide) hG (Nat.le_of_ble_eq_true rfl) rfl ?_
  intro K X
  have X : Fx l G K cX6_clear 1 RX6 (none) (rmR 0 0) := X
  obtain ⟨hN1, hN2, hne, hlen, hb01, hh, F, ha, hF⟩ := hT
  refine A_aload_n (q := 1) X dX6_clear_0 rfl rfl ?_
  refine A_iconst (q := 2) X dX6_clear_1 rfl ?_
  refine A_putf (q := 5) X pX6_15 dX6_clear_2 hN1 hh (Nat.le_of_ble_eq_true rfl) rfl rfl rfl ?_
  refine A_aload_n (q := 6) X dX6_clear_5 rfl rfl ?_
  refine A_iconst (q := 7) X dX6_clear_6 rfl ?_
  refine A_putf (q := 10) X pX6_19 dX6_clear_7 hN1 lk_eq (Nat.le_of_ble_eq_true rfl) (bz_ok (Or.inl rfl)).1 (bz_ok (Or.inl rfl)).2 rfl ?_
  exact A_return X dX6_clear_10 ⟨⟨hN1, hN2, hne, by decide, by decide, lk_eq, F, (lk_ne (by omega) (lk_ne (by omega) ha)), fun k hk => absurd hk (Nat.not_lt_zero k)⟩, (fun k n0 n1 => (lk_ne (by omega) (lk_ne (by omega) rfl)))⟩
set_option maxRecDepth 100000 in
set_option maxHeartbeats 4000000 in
theorem c_X6_add {l : Launch} {G : Gm} {c : HP} {h a : Nat} {T : List Int × Int} {t : Int} (hG : injG G) (hT : Tm G c h a T) : AMet l G yX6_add cX6_add 2 (none) (rmR 0 0) [.ref (G.1 h), .int (zI t)] c (Qv (fun c' => Tm G c' h a (tAdd T t) ∧ (∀ k, k ≠ h → k ≠ a → c' k = c k))) := by
  refine AMet.of (vl := [some (.ref (G.1 h)), some (.int (zI t))]) (by decide) hG (Nat.le_of_ble_eq_true rfl) rfl ?_
  intro K X
  have X : Fx l G K cX6_add 2 RX6 (none) (rmR 0 0) := X
  obtain ⟨hN1, hN2, hne, hlen, hb01, hh, F, ha, hF⟩ := hT
  refine A_aload_n (q := 1) X dX6_add_0 rfl rfl ?_
  refine A_getf (q := 4) X fX6_15 dX6_add_1 hN1 hh rfl rfl ?_
  refine A_sipush (q := 7) X dX6_add_4 (by decide) rfl ?_
  refine A_icmp_ge (q := 10) (t := 33) X dX6_add_7 (by omega) (by decide) rfl rfl (fun hb7 => ?_) (fun hb7 => ?_)
  · refine A_aload_n (q := 34) X dX6_add_33 rfl rfl ?_
    refine A_iconst (q := 35) X dX6_add_34 rfl ?_
    refine A_putf (q := 38) X pX6_19 dX6_add_35 hN1 hh (Nat.le_of_ble_eq_true rfl) (bz_ok (Or.inr rfl)).1 (bz_ok (Or.inr rfl)).2 rfl ?_
    refine A_return X dX6_add_38 ⟨?_, (fun k n0 n1 => (lk_ne (by omega) rfl))⟩
    unfold tAdd
    rw [if_neg (by omega)]
    exact ⟨hN1, hN2, hne, hlen, Or.inr rfl, lk_eq, F, (lk_ne (by omega) ha), hF⟩
  · refine A_aload_n (q := 11) X dX6_add_10 rfl rfl ?_
    refine A_getf (q := 14) X fX6_9 dX6_add_11 hN1 hh rfl rfl ?_
    refine A_aload_n (q := 15) X dX6_add_14 rfl rfl ?_
    refine A_getf (q := 18) X fX6_15 dX6_add_15 hN1 hh rfl rfl ?_
    refine A_iload_n (q := 19) X dX6_add_18 rfl rfl ?_
    refine A_iast (q := 20) (T.1.length) X dX6_add_19 hN2 ha (by omega) (by omega) (by decide) rfl ?_
    refine A_aload_n (q := 21) X dX6_add_20 rfl rfl ?_
    refine A_dup (q := 22) X dX6_add_21 rfl rfl ?_
    refine A_getf (q := 25) X fX6_15 dX6_add_22 hN1 (lk_ne (by omega) hh) rfl rfl ?_
    refine A_iconst (q := 26) X dX6_add_25 rfl ?_
    refine A_iadd (q := 27) X dX6_add_26 rfl ?_
    refine A_putf (q := 30) X pX6_15 dX6_add_27 hN1 (lk_ne (by omega) hh) (Nat.le_of_ble_eq_true rfl) rfl rfl rfl ?_
    refine A_goto (q := 38) X dX6_add_30 rfl ?_
    refine A_return X dX6_add_38 ⟨?_, (fun k n0 n1 => (lk_ne (by omega) (lk_ne (by omega) rfl)))⟩
    unfold tAdd
    rw [if_pos (by omega)]
    refine ⟨hN1, hN2, hne, by simp only [List.length_append, List.length_singleton]; omega, hb01, lk_eq.trans (by simp only [List.length_append, List.length_singleton]; rfl), _, (lk_ne (by omega) lk_eq), fun k hk => ?_⟩
    simp only [List.length_append, List.length_singleton] at hk
    by_cases e : k = T.1.length
    · subst e
      rw [lk_eq, getD_app_ge (Nat.le_refl _), Nat.sub_self]
      rfl
    · rw [lk_ne e rfl, getD_app_lt (by omega)]
      exact hF k (by omega)
set_option maxRecDepth 100000 in
set_option maxHeartbeats 4000000 in
theorem c_X6_addRange {l : Launch} {G : Gm} {c : HP} {h a : Nat} {T : List Int × Int} {h2 a2 : Nat} {S : List Int × Int} {i j : Nat} (hG : injG G) (hT : Tm G c h a T) (hS : Tm G c h2 a2 S) (d1 : h ≠ h2) (d2 : h ≠ a2) (d3 : a ≠ h2) (d4 : a ≠ a2) (hi : i ≤ j) (hj : j ≤ S.1.length) : AMet l G yX6_addRange cX6_addRange 5 (none) (rmR 1 40) [.ref (G.1 h), .ref (G.1 h2), .int (zI ((i : Nat) : Int)), .int (zI ((j : Nat) : Int))] c (Qv (fun c' => Tm G c' h a (tRange T S.1 i j) ∧ (∀ k, k ≠ h → k ≠ a → c' k = c k))) := by
  refine AMet.of (vl := [some (.ref (G.1 h)), some (.ref (G.1 h2)), some (.int (zI ((i : Nat) : Int))), some (.int (zI ((j : Nat) : Int)))]) (by decide) hG (Nat.le_of_ble_eq_true rfl) rfl ?_
  intro K X
  have X : Fx l G K cX6_addRange 5 RX6 (none) (rmR 1 40) := X
  obtain ⟨hN1, hN2, hne, hlen, hb01, hh, F, ha, hF⟩ := hT
  obtain ⟨hM1, hM2, hme, hlem, hc01, hh2, F2, ha2, hF2⟩ := hS
  refine A_iload_n (q := 1) X dX6_addRange_0 rfl rfl ?_
  refine A_if_lt (q := 4) (t := 17) X dX6_addRange_1 (by omega) rfl rfl (fun hb1 => ?_) (fun hb1 => ?_)
  · exfalso
    omega
  · refine A_iload_n (q := 5) X dX6_addRange_4 rfl rfl ?_
    refine A_iload_n (q := 6) X dX6_addRange_5 rfl rfl ?_
    refine A_icmp_gt (q := 9) (t := 17) X dX6_addRange_6 (by omega) (by omega) rfl rfl (fun hb6 => ?_) (fun hb6 => ?_)
    · exfalso
      omega
    · refine A_iload_n (q := 10) X dX6_addRange_9 rfl rfl ?_
      refine A_aload_n (q := 11) X dX6_addRange_10 rfl rfl ?_
      refine A_getf (q := 14) X fX6_15 dX6_addRange_11 hM1 hh2 rfl rfl ?_
      refine A_icmp_le (q := 17) (t := 18) X dX6_addRange_14 (by omega) (by omega) rfl rfl (fun hb14 => ?_) (fun hb14 => ?_)
      · refine A_iload_n (q := 19) X dX6_addRange_18 rfl rfl ?_
        refine A_iload_n (q := 20) X dX6_addRange_19 rfl rfl ?_
        refine A_isub (q := 21) X dX6_addRange_20 rfl ?_
        refine A_istore (q := 23) X dX6_addRange_21 (by decide) (okP_s rfl rfl) rfl ?_
        refine A_iload (q := 25) X dX6_addRange_23 rfl rfl ?_
        refine A_sipush (q := 28) X dX6_addRange_25 (by decide) rfl ?_
        refine A_aload_n (q := 29) X dX6_addRange_28 rfl rfl ?_
        refine A_getf (q := 32) X fX6_15 dX6_addRange_29 hN1 hh rfl rfl ?_
        refine A_isub (q := 33) X dX6_addRange_32 rfl ?_
        refine A_icmp_le (q := 36) (t := 42) X dX6_addRange_33 (by omega) (by omega) rfl rfl (fun hb33 => ?_) (fun hb33 => ?_)
        · refine A_aload_n (q := 43) X dX6_addRange_42 rfl rfl ?_
          refine A_getf (q := 46) X fX6_9 dX6_addRange_43 hM1 hh2 rfl rfl ?_
          refine A_iload_n (q := 47) X dX6_addRange_46 rfl rfl ?_
          refine A_aload_n (q := 48) X dX6_addRange_47 rfl rfl ?_
          refine A_getf (q := 51) X fX6_9 dX6_addRange_48 hN1 hh rfl rfl ?_
          refine A_aload_n (q := 52) X dX6_addRange_51 rfl rfl ?_
          refine A_getf (q := 55) X fX6_15 dX6_addRange_52 hN1 hh rfl rfl ?_
          refine A_iload (q := 57) X dX6_addRange_55 rfl rfl ?_
          refine A_copy (q := 60) (i) (T.1.length) ((j) - (i)) X dX6_addRange_57 kX6_23 q_cp1 q_cp2 q_cp3 hM2 hN2 (ha2) (ha) (by omega) (by omega) (by omega) (by omega) (by omega) (by decide) (by decide) (by decide) (Nat.le_of_ble_eq_true rfl) rfl ?_
          refine A_aload_n (q := 61) X dX6_addRange_60 rfl rfl ?_
          refine A_dup (q := 62) X dX6_addRange_61 rfl rfl ?_
          refine A_getf (q := 65) X fX6_15 dX6_addRange_62 hN1 (lk_ne (by omega) hh) rfl rfl ?_
          refine A_iload (q := 67) X dX6_addRange_65 rfl rfl ?_
          refine A_iadd (q := 68) X dX6_addRange_67 rfl ?_
          refine A_putf (q := 71) X pX6_15 dX6_addRange_68 hN1 (lk_ne (by omega) hh) (Nat.le_of_ble_eq_true rfl) rfl rfl rfl ?_
          refine A_return X dX6_addRange_71 ⟨?_, (fun k n0 n1 => (lk_ne (by omega) (lk_ne (by omega) rfl)))⟩
          unfold tRange
          rw [if_pos (by omega)]
          have el : (T.1 ++ (S.1.drop i).take (j - i)).length = T.1.length + (j - i) := by rw [List.length_append, List.length_take, List.length_drop]; omega
          refine ⟨hN1, hN2, hne, by show (T.1 ++ (S.1.drop i).take (j - i)).length ≤ 200; omega, hb01, lk_eq.trans ?_, _, (lk_ne (by omega) lk_eq), fun k hk => ?_⟩
          · show Sum.inr _ = Sum.inr _
            have e2 : ((T.1.length : Nat) : Int) + (((j : Nat) : Int) - ((i : Nat) : Int)) = (((T.1 ++ (S.1.drop i).take (j - i)).length : Nat) : Int) := by rw [el]; omega
            rw [← e2]
            rfl
          · have hk2 : k < T.1.length + (j - i) := by rw [← el]; exact hk
            by_cases e : k < T.1.length
            · rw [pk_cpy_out (Or.inl e), getD_app_lt e]
              exact hF k e
            · rw [pk_cpy_in (by omega) (by omega), getD_app_ge (by omega), getD_range (by omega)]
              exact hF2 _ (by omega)
        · refine A_aload_n (q := 37) X dX6_addRange_36 rfl rfl ?_
          refine A_iconst (q := 38) X dX6_addRange_37 rfl ?_
          refine A_putf (q := 41) X pX6_19 dX6_addRange_38 hN1 hh (Nat.le_of_ble_eq_true rfl) (bz_ok (Or.inr rfl)).1 (bz_ok (Or.inr rfl)).2 rfl ?_
          refine A_return X dX6_addRange_41 ⟨?_, (fun k n0 n1 => (lk_ne (by omega) rfl))⟩
          unfold tRange
          rw [if_neg (by omega)]
          exact ⟨hN1, hN2, hne, hlen, Or.inr rfl, lk_eq, F, (lk_ne (by omega) ha), hF⟩
      · exfalso
        omega
set_option maxRecDepth 100000 in
set_option maxHeartbeats 4000000 in
theorem c_X6_copyFrom {l : Launch} {G : Gm} {c : HP} {h a : Nat} {T : List Int × Int} {h2 a2 : Nat} {S : List Int × Int} (hG : injG G) (hT : Tm G c h a T) (hS : Tm G c h2 a2 S) (d1 : h ≠ h2) (d2 : h ≠ a2) (d3 : a ≠ h2) (d4 : a ≠ a2) : AMet l G yX6_copyFrom cX6_copyFrom 2 (none) (rmR 1 40) [.ref (G.1 h), .ref (G.1 h2)] c (Qv (fun c' => Tm G c' h a S ∧ (∀ k, k ≠ h → k ≠ a → c' k = c k))) := by
  refine AMet.of (vl := [some (.ref (G.1 h)), some (.ref (G.1 h2))]) (by decide) hG (Nat.le_of_ble_eq_true rfl) rfl ?_
  intro K X
  have X : Fx l G K cX6_copyFrom 2 RX6 (none) (rmR 1 40) := X
  obtain ⟨hN1, hN2, hne, hlen, hb01, hh, F, ha, hF⟩ := hT
  obtain ⟨hM1, hM2, hme, hlem, hc01, hh2, F2, ha2, hF2⟩ := hS
  refine A_aload_n (q := 1) X dX6_copyFrom_0 rfl rfl ?_
  refine A_getf (q := 4) X fX6_9 dX6_copyFrom_1 hM1 hh2 rfl rfl ?_
  refine A_iconst (q := 5) X dX6_copyFrom_4 rfl ?_
  refine A_aload_n (q := 6) X dX6_copyFrom_5 rfl rfl ?_
  refine A_getf (q := 9) X fX6_9 dX6_copyFrom_6 hN1 hh rfl rfl ?_
  refine A_iconst (q := 10) X dX6_copyFrom_9 rfl ?_
  refine A_aload_n (q := 11) X dX6_copyFrom_10 rfl rfl ?_
  refine A_getf (q := 14) X fX6_15 dX6_copyFrom_11 hM1 hh2 rfl rfl ?_
  refine A_copy (q := 17) 0 0 (S.1.length) X dX6_copyFrom_14 kX6_23 q_cp1 q_cp2 q_cp3 hM2 hN2 (ha2) (ha) (by omega) (by omega) (by omega) (by omega) (by omega) (by decide) (by decide) (by decide) (Nat.le_of_ble_eq_true rfl) rfl ?_
  refine A_aload_n (q := 18) X dX6_copyFrom_17 rfl rfl ?_
  refine A_aload_n (q := 19) X dX6_copyFrom_18 rfl rfl ?_
  refine A_getf (q := 22) X fX6_15 dX6_copyFrom_19 hM1 (lk_ne (by omega) hh2) rfl rfl ?_
  refine A_putf (q := 25) X pX6_15 dX6_copyFrom_22 hN1 (lk_ne (by omega) hh) (Nat.le_of_ble_eq_true rfl) rfl rfl rfl ?_
  refine A_aload_n (q := 26) X dX6_copyFrom_25 rfl rfl ?_
  refine A_aload_n (q := 27) X dX6_copyFrom_26 rfl rfl ?_
  refine A_getf (q := 30) X fX6_19 dX6_copyFrom_27 hM1 (lk_ne (by omega) (lk_ne (by omega) hh2)) rfl rfl ?_
  refine A_putf (q := 33) X pX6_19 dX6_copyFrom_30 hN1 lk_eq (Nat.le_of_ble_eq_true rfl) (bz_ok (by omega)).1 (bz_ok (by omega)).2 rfl ?_
  refine A_return X dX6_copyFrom_33 ⟨⟨hN1, hN2, hne, hlem, hc01, lk_eq, _, (lk_ne (by omega) (lk_ne (by omega) lk_eq)), fun k hk => ?_⟩, (fun k n0 n1 => (lk_ne (by omega) (lk_ne (by omega) (lk_ne (by omega) rfl))))⟩
  rw [pk_cpy_in (Nat.zero_le _) (by omega), Nat.zero_add, Nat.sub_zero]
  exact hF2 k hk
set_option maxRecDepth 100000 in
set_option maxHeartbeats 4000000 in
theorem c_X6_wrapInAbstraction {l : Launch} {G : Gm} {c : HP} {h a : Nat} {T : List Int × Int} (hG : injG G) (hT : Tm G c h a T) : AMet l G yX6_wrapInAbstraction cX6_wrapInAbstraction 1 ((some .boolean)) (rmR 1 40) [.ref (G.1 h)] c (Qi (fun v c' => v = zI (if T.1.length < 200 then 1 else 0) ∧ (T.1.length < 200 → Tm G c' h a (1001 :: T.1, T.2)) ∧ (¬ T.1.length < 200 → c' = c) ∧ (∀ k, k ≠ h → k ≠ a → c' k = c k))) := by
  refine AMet.of (vl := [some (.ref (G.1 h))]) (by decide) hG (Nat.le_of_ble_eq_true rfl) rfl ?_
  intro K X
  have X : Fx l G K cX6_wrapInAbstraction 1 RX6 ((some .boolean)) (rmR 1 40) := X
  obtain ⟨hN1, hN2, hne, hlen, hb01, hh, F, ha, hF⟩ := hT
  refine A_aload_n (q := 1) X dX6_wrapInAbstraction_0 rfl rfl ?_
  refine A_getf (q := 4) X fX6_15 dX6_wrapInAbstraction_1 hN1 hh rfl rfl ?_
  refine A_sipush (q := 7) X dX6_wrapInAbstraction_4 (by decide) rfl ?_
  refine A_icmp_lt (q := 10) (t := 12) X dX6_wrapInAbstraction_7 (by omega) (by decide) rfl rfl (fun hb7 => ?_) (fun hb7 => ?_)
  · refine A_aload_n (q := 13) X dX6_wrapInAbstraction_12 rfl rfl ?_
    refine A_getf (q := 16) X fX6_9 dX6_wrapInAbstraction_13 hN1 hh rfl rfl ?_
    refine A_iconst (q := 17) X dX6_wrapInAbstraction_16 rfl ?_
    refine A_aload_n (q := 18) X dX6_wrapInAbstraction_17 rfl rfl ?_
    refine A_getf (q := 21) X fX6_9 dX6_wrapInAbstraction_18 hN1 hh rfl rfl ?_
    refine A_iconst (q := 22) X dX6_wrapInAbstraction_21 rfl ?_
    refine A_aload_n (q := 23) X dX6_wrapInAbstraction_22 rfl rfl ?_
    refine A_getf (q := 26) X fX6_15 dX6_wrapInAbstraction_23 hN1 hh rfl rfl ?_
    refine A_copy (q := 29) 0 1 (T.1.length) X dX6_wrapInAbstraction_26 kX6_23 q_cp1 q_cp2 q_cp3 hN2 hN2 (ha) (ha) (by omega) (by omega) (by omega) (by omega) (by omega) (by decide) (by decide) (by decide) (Nat.le_of_ble_eq_true rfl) rfl ?_
    refine A_aload_n (q := 30) X dX6_wrapInAbstraction_29 rfl rfl ?_
    refine A_getf (q := 33) X fX6_9 dX6_wrapInAbstraction_30 hN1 (lk_ne (by omega) hh) rfl rfl ?_
    refine A_iconst (q := 34) X dX6_wrapInAbstraction_33 rfl ?_
    refine A_sipush (q := 37) X dX6_wrapInAbstraction_34 (by decide) rfl ?_
    refine A_iast (q := 38) 0 X dX6_wrapInAbstraction_37 hN2 lk_eq (by omega) (by omega) (by decide) rfl ?_
    refine A_aload_n (q := 39) X dX6_wrapInAbstraction_38 rfl rfl ?_
    refine A_dup (q := 40) X dX6_wrapInAbstraction_39 rfl rfl ?_
    refine A_getf (q := 43) X fX6_15 dX6_wrapInAbstraction_40 hN1 (lk_ne (by omega) (lk_ne (by omega) hh)) rfl rfl ?_
    refine A_iconst (q := 44) X dX6_wrapInAbstraction_43 rfl ?_
    refine A_iadd (q := 45) X dX6_wrapInAbstraction_44 rfl ?_
    refine A_putf (q := 48) X pX6_15 dX6_wrapInAbstraction_45 hN1 (lk_ne (by omega) (lk_ne (by omega) hh)) (Nat.le_of_ble_eq_true rfl) rfl rfl rfl ?_
    refine A_iconst (q := 49) X dX6_wrapInAbstraction_48 rfl ?_
    refine A_zreturn X dX6_wrapInAbstraction_49 (by decide) ⟨zb1 (by omega), fun _ => ?_, fun hk => absurd hk (by omega), (fun k n0 n1 => (lk_ne (by omega) (lk_ne (by omega) (lk_ne (by omega) rfl))))⟩
    refine ⟨hN1, hN2, hne, by show (1001 :: T.1).length ≤ 200; rw [List.length_cons]; omega, hb01, lk_eq, _, (lk_ne (by omega) lk_eq), fun k hk => ?_⟩
    have hk2 : k < T.1.length + 1 := hk
    by_cases e : k = 0
    · subst e
      rw [lk_eq]
      rfl
    · rw [lk_ne e rfl, pk_cpy_in (by omega) (by omega), hF _ (by omega)]
      obtain ⟨m, rfl⟩ : ∃ m, k = m + 1 := ⟨k - 1, by omega⟩
      rw [show 0 + (m + 1 - 1) = m by omega]
      rfl
  · refine A_iconst (q := 11) X dX6_wrapInAbstraction_10 rfl ?_
    exact A_zreturn X dX6_wrapInAbstraction_11 (by decide) ⟨zb0 (by omega), fun hk => absurd hk (by omega), fun _ => rfl, fun _ _ _ => rfl⟩
theorem list_eq_getD {l r : List Int} (h : l.length = r.length) (q : ∀ k, k < l.length → l.getD k 0 = r.getD k 0) : l = r := by
  apply List.ext_getElem h
  intro k h1 h2
  have := q k h1
  rwa [nI_get h1, nI_get h2] at this
set_option maxRecDepth 100000 in
set_option maxHeartbeats 4000000 in
theorem lp_X6_hasSameTokens {l : Launch} {G : Gm} {K : Cx} {c : HP} {h a h2 a2 : Nat} {T S : List Int × Int} {F F2 : Nat → Int} (X : Fx l G K cX6_hasSameTokens 3 RX6 ((some .boolean)) (rmR 0 0)) (hN1 : h < G.2.1) (hN2 : a < G.2.1) (hM1 : h2 < G.2.1) (hM2 : a2 < G.2.1) (hlen : T.1.length ≤ 200) (hle : T.1.length = S.1.length) (hh : c h = .inr (6, [.ref (G.1 a), .int (zI (T.1.length : Nat)), .int (zI T.2)])) (ha : c a = aI G 200 F) (hh2 : c h2 = .inr (6, [.ref (G.1 a2), .int (zI (S.1.length : Nat)), .int (zI S.2)])) (ha2 : c a2 = aI G 200 F2) (hF : ∀ k, k < T.1.length → F k = T.1.getD k 0) (hF2 : ∀ k, k < S.1.length → F2 k = S.1.getD k 0) (hr1 : ∀ k, k < T.1.length → rg (F k)) (hr2 : ∀ k, k < S.1.length → rg (F2 k))  : ∀ (n : Nat) (i : Nat), T.1.length - i < n → i ≤ T.1.length → (∀ k, k < i → F k = F2 k) → AW G K (Qi (fun v c' => v = zI (if T.1 = S.1 then 1 else 0) ∧ c' = c)) 15 (mkL [some (.ref (G.1 h)), some (.ref (G.1 h2)), some (.int (zI ((i : Nat) : Int)))]) [] c := by
  intro n
  induction n with
  | zero => intro i hmz; exact absurd hmz (Nat.not_lt_zero _)
  | succ n ih =>
    intro i hmz hi hi2
    refine A_iload_n (q := 16) X dX6_hasSameTokens_15 rfl rfl ?_
    refine A_aload_n (q := 17) X dX6_hasSameTokens_16 rfl rfl ?_
    refine A_getf (q := 20) X fX6_15 dX6_hasSameTokens_17 hN1 hh rfl rfl ?_
    refine A_icmp_ge (q := 23) (t := 46) X dX6_hasSameTokens_20 (by omega) (by omega) rfl rfl (fun hb20 => ?_) (fun hb20 => ?_)
    · refine A_iconst (q := 47) X dX6_hasSameTokens_46 rfl ?_
      exact A_zreturn X dX6_hasSameTokens_47 (by decide) ⟨zb1 (list_eq_getD (by omega) (fun k hk => by rw [← hF k hk, ← hF2 k (by omega)]; exact hi2 k (by omega))), rfl⟩
    · refine A_aload_n (q := 24) X dX6_hasSameTokens_23 rfl rfl ?_
      refine A_getf (q := 27) X fX6_9 dX6_hasSameTokens_24 hN1 hh rfl rfl ?_
      refine A_iload_n (q := 28) X dX6_hasSameTokens_27 rfl rfl ?_
      refine A_iald (q := 29) (i) X dX6_hasSameTokens_28 hN2 ha (by omega) (by omega) (by decide) rfl ?_
      refine A_aload_n (q := 30) X dX6_hasSameTokens_29 rfl rfl ?_
      refine A_getf (q := 33) X fX6_9 dX6_hasSameTokens_30 hM1 hh2 rfl rfl ?_
      refine A_iload_n (q := 34) X dX6_hasSameTokens_33 rfl rfl ?_
      refine A_iald (q := 35) (i) X dX6_hasSameTokens_34 hM2 ha2 (by omega) (by omega) (by decide) rfl ?_
      have q1 := hr1 i (by omega)
      have q2 := hr2 i (by omega)
      refine A_icmp_eq (q := 38) (t := 40) X dX6_hasSameTokens_35 (by omega) (by omega) rfl rfl (fun hb35 => ?_) (fun hb35 => ?_)
      · refine A_iinc (q := 43) X dX6_hasSameTokens_40 rfl (by decide) (okP_s rfl rfl) rfl ?_
        refine A_goto (q := 15) X dX6_hasSameTokens_43 rfl ?_
        exact AW.loc (sS rfl (sS rfl (sZ rfl (by omega) sE))) (ih (i + 1) (by omega) (by omega) (lt_s hi2 (by omega)))
      · refine A_iconst (q := 39) X dX6_hasSameTokens_38 rfl ?_
        refine A_zreturn X dX6_hasSameTokens_39 (by decide) ⟨zb0 (fun e => ?_), rfl⟩
        have e1 := hF i (by omega)
        have e2 := hF2 i (by omega)
        rw [e] at e1
        omega
set_option maxRecDepth 100000 in
set_option maxHeartbeats 4000000 in
theorem c_X6_hasSameTokens {l : Launch} {G : Gm} {c : HP} {h a : Nat} {T : List Int × Int} {h2 a2 : Nat} {S : List Int × Int} (hG : injG G) (hT : Tm G c h a T) (hS : Tm G c h2 a2 S) (hr1 : ∀ k, k < T.1.length → rg (T.1.getD k 0)) (hr2 : ∀ k, k < S.1.length → rg (S.1.getD k 0)) : AMet l G yX6_hasSameTokens cX6_hasSameTokens 3 ((some .boolean)) (rmR 0 0) [.ref (G.1 h), .ref (G.1 h2)] c (Qi (fun v c' => v = zI (if T.1 = S.1 then 1 else 0) ∧ c' = c)) := by
  refine AMet.of (vl := [some (.ref (G.1 h)), some (.ref (G.1 h2))]) (by decide) hG (Nat.le_of_ble_eq_true rfl) rfl ?_
  intro K X
  have X : Fx l G K cX6_hasSameTokens 3 RX6 ((some .boolean)) (rmR 0 0) := X
  obtain ⟨hN1, hN2, hne, hlen, hb01, hh, F, ha, hF⟩ := hT
  obtain ⟨hM1, hM2, hme, hlem, hc01, hh2, F2, ha2, hF2⟩ := hS
  refine A_aload_n (q := 1) X dX6_hasSameTokens_0 rfl rfl ?_
  refine A_getf (q := 4) X fX6_15 dX6_hasSameTokens_1 hN1 hh rfl rfl ?_
  refine A_aload_n (q := 5) X dX6_hasSameTokens_4 rfl rfl ?_
  refine A_getf (q := 8) X fX6_15 dX6_hasSameTokens_5 hM1 hh2 rfl rfl ?_
  refine A_icmp_eq (q := 11) (t := 13) X dX6_hasSameTokens_8 (by omega) (by omega) rfl rfl (fun hb8 => ?_) (fun hb8 => ?_)
  · refine A_iconst (q := 14) X dX6_hasSameTokens_13 rfl ?_
    refine A_istore_n (q := 15) X dX6_hasSameTokens_14 (by decide) (okP_s rfl rfl) rfl ?_
    exact AW.loc (sS rfl (sS rfl (sZ rfl (by omega) sE))) (lp_X6_hasSameTokens X hN1 hN2 hM1 hM2 hlen (by omega) hh ha hh2 ha2 hF hF2 (fun k hk => by rw [hF k hk]; exact hr1 _ hk) (fun k hk => by rw [hF2 k hk]; exact hr2 _ hk) _ 0 (Nat.lt_succ_self _) (by omega) lt_0)
  · refine A_iconst (q := 12) X dX6_hasSameTokens_11 rfl ?_
    exact A_zreturn X dX6_hasSameTokens_12 (by decide) ⟨zb0 (fun e => by rw [e] at hb8; omega), rfl⟩
end
section
/-! SMALL STATICS of the class -/
def pA (t : Int) : Int := if t = 1000 then 2 else if t = 1001 ∨ t = 1002 then 1 else 0
set_option maxRecDepth 100000 in
set_option maxHeartbeats 4000000 in
theorem c_X8_isVariable {l : Launch} {G : Gm} {c : HP} {t : Int} (hG : injG G) (ht : rg t) : AMet l G yX8_isVariable cX8_isVariable 1 ((some .boolean)) (rmR 0 0) [.int (zI t)] c (Qi (fun v c' => v = zI (if 0 ≤ t ∧ t < 1000 then 1 else 0) ∧ c' = c)) := by
  refine AMet.of (vl := [some (.int (zI t))]) (by decide) hG (Nat.le_of_ble_eq_true rfl) rfl ?_
  intro K X
  have X : Fx l G K cX8_isVariable 1 RX8 ((some .boolean)) (rmR 0 0) := X
  refine A_iload_n (q := 1) X dX8_isVariable_0 rfl rfl ?_
  refine A_if_lt (q := 4) (t := 15) X dX8_isVariable_1 (by omega) rfl rfl (fun hb1 => ?_) (fun hb1 => ?_)
  · refine A_iconst (q := 16) X dX8_isVariable_15 rfl ?_
    exact A_zreturn X dX8_isVariable_16 (by decide) ⟨zb0 (by omega), rfl⟩
  · refine A_iload_n (q := 5) X dX8_isVariable_4 rfl rfl ?_
    refine A_sipush (q := 8) X dX8_isVariable_5 (by decide) rfl ?_
    refine A_icmp_ge (q := 11) (t := 15) X dX8_isVariable_8 (by omega) (by decide) rfl rfl (fun hb8 => ?_) (fun hb8 => ?_)
    · refine A_iconst (q := 16) X dX8_isVariable_15 rfl ?_
      exact A_zreturn X dX8_isVariable_16 (by decide) ⟨zb0 (by omega), rfl⟩
    · refine A_iconst (q := 12) X dX8_isVariable_11 rfl ?_
      refine A_goto (q := 16) X dX8_isVariable_12 rfl ?_
      exact A_zreturn X dX8_isVariable_16 (by decide) ⟨zb1 (by omega), rfl⟩
set_option maxRecDepth 100000 in
set_option maxHeartbeats 4000000 in
theorem c_X8_isStrategy {l : Launch} {G : Gm} {c : HP} {t : Int} (hG : injG G) (ht : rg t) : AMet l G yX8_isStrategy cX8_isStrategy 1 ((some .boolean)) (rmR 0 0) [.int (zI t)] c (Qi (fun v c' => v = zI (if 0 ≤ t ∧ t < 4 then 1 else 0) ∧ c' = c)) := by
  refine AMet.of (vl := [some (.int (zI t))]) (by decide) hG (Nat.le_of_ble_eq_true rfl) rfl ?_
  intro K X
  have X : Fx l G K cX8_isStrategy 1 RX8 ((some .boolean)) (rmR 0 0) := X
  refine A_iload_n (q := 1) X dX8_isStrategy_0 rfl rfl ?_
  refine A_if_lt (q := 4) (t := 13) X dX8_isStrategy_1 (by omega) rfl rfl (fun hb1 => ?_) (fun hb1 => ?_)
  · refine A_iconst (q := 14) X dX8_isStrategy_13 rfl ?_
    exact A_zreturn X dX8_isStrategy_14 (by decide) ⟨zb0 (by omega), rfl⟩
  · refine A_iload_n (q := 5) X dX8_isStrategy_4 rfl rfl ?_
    refine A_iconst (q := 6) X dX8_isStrategy_5 rfl ?_
    refine A_icmp_ge (q := 9) (t := 13) X dX8_isStrategy_6 (by omega) (by decide) rfl rfl (fun hb6 => ?_) (fun hb6 => ?_)
    · refine A_iconst (q := 14) X dX8_isStrategy_13 rfl ?_
      exact A_zreturn X dX8_isStrategy_14 (by decide) ⟨zb0 (by omega), rfl⟩
    · refine A_iconst (q := 10) X dX8_isStrategy_9 rfl ?_
      refine A_goto (q := 14) X dX8_isStrategy_10 rfl ?_
      exact A_zreturn X dX8_isStrategy_14 (by decide) ⟨zb1 (by omega), rfl⟩
set_option maxRecDepth 100000 in
set_option maxHeartbeats 4000000 in
theorem c_X8_isSlot {l : Launch} {G : Gm} {c : HP} {t : Int} (hG : injG G) (ht : rg t) : AMet l G yX8_isSlot cX8_isSlot 1 ((some .boolean)) (rmR 0 0) [.int (zI t)] c (Qi (fun v c' => v = zI (if t = 0 ∨ t = 1 then 1 else 0) ∧ c' = c)) := by
  refine AMet.of (vl := [some (.int (zI t))]) (by decide) hG (Nat.le_of_ble_eq_true rfl) rfl ?_
  intro K X
  have X : Fx l G K cX8_isSlot 1 RX8 ((some .boolean)) (rmR 0 0) := X
  refine A_iload_n (q := 1) X dX8_isSlot_0 rfl rfl ?_
  refine A_if_eq (q := 4) (t := 9) X dX8_isSlot_1 (by omega) rfl rfl (fun hb1 => ?_) (fun hb1 => ?_)
  · refine A_iconst (q := 10) X dX8_isSlot_9 rfl ?_
    refine A_goto (q := 14) X dX8_isSlot_10 rfl ?_
    exact A_zreturn X dX8_isSlot_14 (by decide) ⟨zb1 (by omega), rfl⟩
  · refine A_iload_n (q := 5) X dX8_isSlot_4 rfl rfl ?_
    refine A_iconst (q := 6) X dX8_isSlot_5 rfl ?_
    refine A_icmp_ne (q := 9) (t := 13) X dX8_isSlot_6 (by omega) (by decide) rfl rfl (fun hb6 => ?_) (fun hb6 => ?_)
    · refine A_iconst (q := 14) X dX8_isSlot_13 rfl ?_
      exact A_zreturn X dX8_isSlot_14 (by decide) ⟨zb0 (by omega), rfl⟩
    · refine A_iconst (q := 10) X dX8_isSlot_9 rfl ?_
      refine A_goto (q := 14) X dX8_isSlot_10 rfl ?_
      exact A_zreturn X dX8_isSlot_14 (by decide) ⟨zb1 (by omega), rfl⟩
set_option maxRecDepth 100000 in
set_option maxHeartbeats 4000000 in
theorem c_X8_isPrediction {l : Launch} {G : Gm} {c : HP} {t u : Int} (hG : injG G) (ht : rg t) (hu : rg u) : AMet l G yX8_isPrediction cX8_isPrediction 2 ((some .boolean)) (rmR 1 20) [.int (zI t), .int (zI u)] c (Qi (fun v c' => v = zI (if (0 ≤ t ∧ t < 4) ∧ 0 ≤ u ∧ u ≤ 200 then 1 else 0) ∧ c' = c)) := by
  refine AMet.of (vl := [some (.int (zI t)), some (.int (zI u))]) (by decide) hG (Nat.le_of_ble_eq_true rfl) rfl ?_
  intro K X
  have X : Fx l G K cX8_isPrediction 2 RX8 ((some .boolean)) (rmR 1 20) := X
  refine A_iload_n (q := 1) X dX8_isPrediction_0 rfl rfl ?_
  refine A_S1i (q := 4) X (c_X8_isStrategy hG (by omega)) mX8_isStrategy kX8_118 dX8_isPrediction_1 (by decide) (Nat.le_of_ble_eq_true rfl) rfl (fun vq3 cq2 hq1 => ?_)
  obtain ⟨rfl, hq1⟩ := hq1
  obtain rfl := hq1.symm
  refine A_beq (q := 7) (t := 22) X dX8_isPrediction_4 rfl rfl (fun hb4 => ?_) (fun hb4 => ?_)
  · refine A_iconst (q := 23) X dX8_isPrediction_22 rfl ?_
    exact A_zreturn X dX8_isPrediction_23 (by decide) ⟨zb0 (by omega), rfl⟩
  · refine A_iload_n (q := 8) X dX8_isPrediction_7 rfl rfl ?_
    refine A_if_lt (q := 11) (t := 22) X dX8_isPrediction_8 (by omega) rfl rfl (fun hb8 => ?_) (fun hb8 => ?_)
    · refine A_iconst (q := 23) X dX8_isPrediction_22 rfl ?_
      exact A_zreturn X dX8_isPrediction_23 (by decide) ⟨zb0 (by omega), rfl⟩
    · refine A_iload_n (q := 12) X dX8_isPrediction_11 rfl rfl ?_
      refine A_sipush (q := 15) X dX8_isPrediction_12 (by decide) rfl ?_
      refine A_icmp_gt (q := 18) (t := 22) X dX8_isPrediction_15 (by omega) (by decide) rfl rfl (fun hb15 => ?_) (fun hb15 => ?_)
      · refine A_iconst (q := 23) X dX8_isPrediction_22 rfl ?_
        exact A_zreturn X dX8_isPrediction_23 (by decide) ⟨zb0 (by omega), rfl⟩
      · refine A_iconst (q := 19) X dX8_isPrediction_18 rfl ?_
        refine A_goto (q := 23) X dX8_isPrediction_19 rfl ?_
        exact A_zreturn X dX8_isPrediction_23 (by decide) ⟨zb1 (by omega), rfl⟩
set_option maxRecDepth 100000 in
set_option maxHeartbeats 4000000 in
theorem c_X8_parts {l : Launch} {G : Gm} {c : HP} {t : Int} (hG : injG G) (ht : rg t) : AMet l G yX8_parts cX8_parts 1 ((some .int)) (rmR 0 0) [.int (zI t)] c (Qi (fun v c' => v = zI (pA t) ∧ c' = c)) := by
  refine AMet.of (vl := [some (.int (zI t))]) (by decide) hG (Nat.le_of_ble_eq_true rfl) rfl ?_
  intro K X
  have X : Fx l G K cX8_parts 1 RX8 ((some .int)) (rmR 0 0) := X
  refine A_iload_n (q := 1) X dX8_parts_0 rfl rfl ?_
  by_cases e1_1000 : t = 1000
  · refine A_tableIn (q := 28) (off := 27) X dX8_parts_1 (by omega) (by omega) (by omega) (by rw [e1_1000]; rfl) rfl ?_
    refine A_iconst (q := 29) X dX8_parts_28 rfl ?_
    exact A_ireturn X dX8_parts_29 ⟨by unfold pA; repeat (first | rw [if_pos (by omega)] | rw [if_neg (by omega)]), rfl⟩
  · skip
    by_cases e1_1001 : t = 1001
    · refine A_tableIn (q := 30) (off := 29) X dX8_parts_1 (by omega) (by omega) (by omega) (by rw [e1_1001]; rfl) rfl ?_
      refine A_iconst (q := 31) X dX8_parts_30 rfl ?_
      exact A_ireturn X dX8_parts_31 ⟨by unfold pA; repeat (first | rw [if_pos (by omega)] | rw [if_neg (by omega)]), rfl⟩
    · skip
      by_cases e1_1002 : t = 1002
      · refine A_tableIn (q := 30) (off := 29) X dX8_parts_1 (by omega) (by omega) (by omega) (by rw [e1_1002]; rfl) rfl ?_
        refine A_iconst (q := 31) X dX8_parts_30 rfl ?_
        exact A_ireturn X dX8_parts_31 ⟨by unfold pA; repeat (first | rw [if_pos (by omega)] | rw [if_neg (by omega)]), rfl⟩
      · skip
        refine A_tableOut (q := 32) X dX8_parts_1 (by omega) (by omega) rfl ?_
        refine A_iconst (q := 33) X dX8_parts_32 rfl ?_
        exact A_ireturn X dX8_parts_33 ⟨by unfold pA; repeat (first | rw [if_pos (by omega)] | rw [if_neg (by omega)]), rfl⟩
/-! OUTLINE -/
def Ol (G : Gm) (c : HP) (h a1 a2 n : Nat) (E D : Nat → Int) : Prop := h < G.2.1 ∧ a1 < G.2.1 ∧ a2 < G.2.1 ∧ h ≠ a1 ∧ h ≠ a2 ∧ a1 ≠ a2 ∧ n ≤ 200 ∧ c h = .inr (4, [.ref (G.1 a1), .ref (G.1 a2), .int (zI (n : Nat))]) ∧ c a1 = aI G 200 E ∧ c a2 = aI G 200 D
theorem Ol.keep {G : Gm} {c c' : HP} {h a1 a2 n : Nat} {E D : Nat → Int} (q : Ol G c h a1 a2 n E D) (e1 : c' h = c h) (e2 : c' a1 = c a1) (e3 : c' a2 = c a2) : Ol G c' h a1 a2 n E D := by
  obtain ⟨h1, h2, h3, h4, h5, h6, h7, h8, h9, h10⟩ := q
  exact ⟨h1, h2, h3, h4, h5, h6, h7, e1.trans h8, e2.trans h9, e3.trans h10⟩
theorem Ol.cell {G : Gm} {c : HP} {h a1 a2 n : Nat} {E D : Nat → Int} (q : Ol G c h a1 a2 n E D) : c h = .inr (4, [.ref (G.1 a1), .ref (G.1 a2), .int (zI (n : Nat))]) := q.2.2.2.2.2.2.2.1
theorem Ol.c1 {G : Gm} {c : HP} {h a1 a2 n : Nat} {E D : Nat → Int} (q : Ol G c h a1 a2 n E D) : c a1 = aI G 200 E := q.2.2.2.2.2.2.2.2.1
theorem Ol.c2 {G : Gm} {c : HP} {h a1 a2 n : Nat} {E D : Nat → Int} (q : Ol G c h a1 a2 n E D) : c a2 = aI G 200 D := q.2.2.2.2.2.2.2.2.2
theorem Ol.lt {G : Gm} {c : HP} {h a1 a2 n : Nat} {E D : Nat → Int} (q : Ol G c h a1 a2 n E D) : h < G.2.1 := q.1
def olE (n : Nat) (E : Nat → Int) (p : Int) : Int := if 0 ≤ p ∧ p < (n : Nat) then E p.toNat else (n : Nat)
def olD (n : Nat) (D : Nat → Int) (p : Int) : Int := if 0 ≤ p ∧ p < (n : Nat) then D p.toNat else 0
def olU (n : Nat) (D : Nat → Int) (p v : Int) : Nat → Int := if 0 ≤ p ∧ p < (n : Nat) then va_up D p.toNat v else D
set_option maxRecDepth 100000 in
set_option maxHeartbeats 4000000 in
theorem c_X4_endAt {l : Launch} {G : Gm} {c : HP} {h a1 a2 m : Nat} {E D : Nat → Int} {p : Int} (hG : injG G) (hO : Ol G c h a1 a2 m E D) (hp : rg p) : AMet l G yX4_endAt cX4_endAt 2 ((some .int)) (rmR 0 0) [.ref (G.1 h), .int (zI p)] c (Qi (fun v c' => v = zI (olE m E p) ∧ c' = c)) := by
  refine AMet.of (vl := [some (.ref (G.1 h)), some (.int (zI p))]) (by decide) hG (Nat.le_of_ble_eq_true rfl) rfl ?_
  intro K X
  have X : Fx l G K cX4_endAt 2 RX4 ((some .int)) (rmR 0 0) := X
  obtain ⟨hN0, hN1, hN2, n01, n02, n12, hm, hh, h1, h2⟩ := hO
  refine A_iload_n (q := 1) X dX4_endAt_0 rfl rfl ?_
  refine A_if_lt (q := 4) (t := 21) X dX4_endAt_1 (by omega) rfl rfl (fun hb1 => ?_) (fun hb1 => ?_)
  · refine A_aload_n (q := 22) X dX4_endAt_21 rfl rfl ?_
    refine A_getf (q := 25) X fX4_18 dX4_endAt_22 hN0 hh rfl rfl ?_
    exact A_ireturn X dX4_endAt_25 ⟨by unfold olE; first | rw [if_pos (by omega)] | rw [if_neg (by omega)], rfl⟩
  · refine A_iload_n (q := 5) X dX4_endAt_4 rfl rfl ?_
    refine A_aload_n (q := 6) X dX4_endAt_5 rfl rfl ?_
    refine A_getf (q := 9) X fX4_18 dX4_endAt_6 hN0 hh rfl rfl ?_
    refine A_icmp_ge (q := 12) (t := 21) X dX4_endAt_9 (by omega) (by omega) rfl rfl (fun hb9 => ?_) (fun hb9 => ?_)
    · refine A_aload_n (q := 22) X dX4_endAt_21 rfl rfl ?_
      refine A_getf (q := 25) X fX4_18 dX4_endAt_22 hN0 hh rfl rfl ?_
      exact A_ireturn X dX4_endAt_25 ⟨by unfold olE; first | rw [if_pos (by omega)] | rw [if_neg (by omega)], rfl⟩
    · refine A_aload_n (q := 13) X dX4_endAt_12 rfl rfl ?_
      refine A_getf (q := 16) X fX4_9 dX4_endAt_13 hN0 hh rfl rfl ?_
      refine A_iload_n (q := 17) X dX4_endAt_16 rfl rfl ?_
      refine A_iald (q := 18) ((p).toNat) X dX4_endAt_17 hN1 h1 (by omega) (by omega) (by decide) rfl ?_
      refine A_goto (q := 25) X dX4_endAt_18 rfl ?_
      exact A_ireturn X dX4_endAt_25 ⟨by unfold olE; first | rw [if_pos (by omega)] | rw [if_neg (by omega)], rfl⟩
set_option maxRecDepth 100000 in
set_option maxHeartbeats 4000000 in
theorem c_X4_depthAt {l : Launch} {G : Gm} {c : HP} {h a1 a2 m : Nat} {E D : Nat → Int} {p : Int} (hG : injG G) (hO : Ol G c h a1 a2 m E D) (hp : rg p) : AMet l G yX4_depthAt cX4_depthAt 2 ((some .int)) (rmR 0 0) [.ref (G.1 h), .int (zI p)] c (Qi (fun v c' => v = zI (olD m D p) ∧ c' = c)) := by
  refine AMet.of (vl := [some (.ref (G.1 h)), some (.int (zI p))]) (by decide) hG (Nat.le_of_ble_eq_true rfl) rfl ?_
  intro K X
  have X : Fx l G K cX4_depthAt 2 RX4 ((some .int)) (rmR 0 0) := X
  obtain ⟨hN0, hN1, hN2, n01, n02, n12, hm, hh, h1, h2⟩ := hO
  refine A_iload_n (q := 1) X dX4_depthAt_0 rfl rfl ?_
  refine A_if_lt (q := 4) (t := 21) X dX4_depthAt_1 (by omega) rfl rfl (fun hb1 => ?_) (fun hb1 => ?_)
  · refine A_iconst (q := 22) X dX4_depthAt_21 rfl ?_
    exact A_ireturn X dX4_depthAt_22 ⟨by unfold olD; first | rw [if_pos (by omega)] | rw [if_neg (by omega)], rfl⟩
  · refine A_iload_n (q := 5) X dX4_depthAt_4 rfl rfl ?_
    refine A_aload_n (q := 6) X dX4_depthAt_5 rfl rfl ?_
    refine A_getf (q := 9) X fX4_18 dX4_depthAt_6 hN0 hh rfl rfl ?_
    refine A_icmp_ge (q := 12) (t := 21) X dX4_depthAt_9 (by omega) (by omega) rfl rfl (fun hb9 => ?_) (fun hb9 => ?_)
    · refine A_iconst (q := 22) X dX4_depthAt_21 rfl ?_
      exact A_ireturn X dX4_depthAt_22 ⟨by unfold olD; first | rw [if_pos (by omega)] | rw [if_neg (by omega)], rfl⟩
    · refine A_aload_n (q := 13) X dX4_depthAt_12 rfl rfl ?_
      refine A_getf (q := 16) X fX4_15 dX4_depthAt_13 hN0 hh rfl rfl ?_
      refine A_iload_n (q := 17) X dX4_depthAt_16 rfl rfl ?_
      refine A_iald (q := 18) ((p).toNat) X dX4_depthAt_17 hN2 h2 (by omega) (by omega) (by decide) rfl ?_
      refine A_goto (q := 22) X dX4_depthAt_18 rfl ?_
      exact A_ireturn X dX4_depthAt_22 ⟨by unfold olD; first | rw [if_pos (by omega)] | rw [if_neg (by omega)], rfl⟩
set_option maxRecDepth 100000 in
set_option maxHeartbeats 4000000 in
theorem c_X4_setDepth {l : Launch} {G : Gm} {c : HP} {h a1 a2 m : Nat} {E D : Nat → Int} {p v : Int} (hG : injG G) (hO : Ol G c h a1 a2 m E D) (hp : rg p) : AMet l G yX4_setDepth cX4_setDepth 3 (none) (rmR 0 0) [.ref (G.1 h), .int (zI p), .int (zI v)] c (Qv (fun c' => Ol G c' h a1 a2 m E (olU m D p v) ∧ (∀ k, k ≠ a2 → c' k = c k))) := by
  refine AMet.of (vl := [some (.ref (G.1 h)), some (.int (zI p)), some (.int (zI v))]) (by decide) hG (Nat.le_of_ble_eq_true rfl) rfl ?_
  intro K X
  have X : Fx l G K cX4_setDepth 3 RX4 (none) (rmR 0 0) := X
  obtain ⟨hN0, hN1, hN2, n01, n02, n12, hm, hh, h1, h2⟩ := hO
  refine A_iload_n (q := 1) X dX4_setDepth_0 rfl rfl ?_
  refine A_if_lt (q := 4) (t := 19) X dX4_setDepth_1 (by omega) rfl rfl (fun hb1 => ?_) (fun hb1 => ?_)
  · refine A_return X dX4_setDepth_19 ⟨⟨hN0, hN1, hN2, n01, n02, n12, hm, hh, h1, h2.trans ?_⟩, (fun k n0 => rfl)⟩
    unfold olU
    first | rw [if_pos (by omega)] | rw [if_neg (by omega)]
  · refine A_iload_n (q := 5) X dX4_setDepth_4 rfl rfl ?_
    refine A_aload_n (q := 6) X dX4_setDepth_5 rfl rfl ?_
    refine A_getf (q := 9) X fX4_18 dX4_setDepth_6 hN0 hh rfl rfl ?_
    refine A_icmp_ge (q := 12) (t := 19) X dX4_setDepth_9 (by omega) (by omega) rfl rfl (fun hb9 => ?_) (fun hb9 => ?_)
    · refine A_return X dX4_setDepth_19 ⟨⟨hN0, hN1, hN2, n01, n02, n12, hm, hh, h1, h2.trans ?_⟩, (fun k n0 => rfl)⟩
      unfold olU
      first | rw [if_pos (by omega)] | rw [if_neg (by omega)]
    · refine A_aload_n (q := 13) X dX4_setDepth_12 rfl rfl ?_
      refine A_getf (q := 16) X fX4_15 dX4_setDepth_13 hN0 hh rfl rfl ?_
      refine A_iload_n (q := 17) X dX4_setDepth_16 rfl rfl ?_
      refine A_iload_n (q := 18) X dX4_setDepth_17 rfl rfl ?_
      refine A_iast (q := 19) ((p).toNat) X dX4_setDepth_18 hN2 h2 (by omega) (by omega) (by decide) rfl ?_
      refine A_return X dX4_setDepth_19 ⟨⟨hN0, hN1, hN2, n01, n02, n12, hm, (lk_ne (by omega) hh), (lk_ne (by omega) h1), lk_eq.trans ?_⟩, (fun k n0 => (lk_ne (by omega) rfl))⟩
      unfold olU
      first | rw [if_pos (by omega)] | rw [if_neg (by omega)]
theorem olE_en {l : List Int} {m i : Nat} {E : Nat → Int} (hm : m = l.length) (hE : ∀ j, i ≤ j → j < m → E j = (en l j : Nat)) {p : Int} {k : Nat} (hp : p = (k : Nat)) (h1 : i ≤ k) (h2 : k ≤ m) : olE m E p = (en l k : Nat) := by
  subst hp
  unfold olE
  by_cases h : k < m
  · rw [if_pos (by omega), Int.toNat_natCast, hE k h1 h]
  · have : k = l.length := by omega
    rw [if_neg (by omega), this, en_n, ← hm]
set_option maxRecDepth 100000 in
set_option maxHeartbeats 4000000 in
theorem lp_X4_measureEnds {l : Launch} {G : Gm} {K : Cx} {c0 : HP} {h a1 a2 m t ta : Nat} {D : Nat → Int} {T : List Int × Int} (X : Fx l G K cX4_measureEnds 4 RX4 (none) (rmR 1 21)) (hG : injG G) (hgd : Gd T.1) (hml : m = T.1.length) (x1 : h ≠ t) (x2 : h ≠ ta) (x3 : a1 ≠ t) (x4 : a1 ≠ ta) (x5 : a2 ≠ t) (x6 : a2 ≠ ta) : ∀ (n : Nat) (i : Nat) (E : Nat → Int) (c : HP), i < n → i ≤ m → Tm G c t ta T → Ol G c h a1 a2 m E D → (∀ j, i ≤ j → j < m → E j = (en T.1 j : Nat)) → (∀ k, k ≠ a1 → c k = c0 k) → AW G K (Qv (fun c' => ∃ E', Ol G c' h a1 a2 m E' D ∧ (∀ j, j < m → E' j = (en T.1 j : Nat)) ∧ (∀ k, k ≠ a1 → c' k = c0 k))) 7 (mkL [some (.ref (G.1 h)), some (.ref (G.1 t)), some (.int (zI (((i : Nat) : Int) - 1))), none]) [] c := by
  intro n
  induction n with
  | zero => intro i E c hmz; exact absurd hmz (Nat.not_lt_zero _)
  | succ n ih =>
    intro i E c hmz hi hT hO hE hf0
    obtain ⟨hN0, hN1, hN2, n01, n02, n12, hm, -, -, -⟩ := id hO
    have hlen := hT.len
    refine A_iload_n (q := 8) X dX4_measureEnds_7 rfl rfl ?_
    refine A_if_lt (q := 11) (t := 82) X dX4_measureEnds_8 (by omega) rfl rfl (fun hb8 => ?_) (fun hb8 => ?_)
    · exact A_return X dX4_measureEnds_82 ⟨E, hO, fun j hj => hE j (by omega) hj, hf0⟩
    · obtain ⟨i2, rfl⟩ : ∃ i2, i = i2 + 1 := ⟨i - 1, by omega⟩
      refine A_aload_n (q := 12) X dX4_measureEnds_11 rfl rfl ?_
      refine A_iload_n (q := 13) X dX4_measureEnds_12 rfl rfl ?_
      refine A_V1i (q := 16) X (c_X6_token hG hT (by omega)) mX6_token kX4_40 dX4_measureEnds_13 hT.lt hT.cell rfl (by decide) (Nat.le_of_ble_eq_true rfl) rfl (fun vq3 cq2 hq1 => ?_)
      obtain ⟨rfl, hq1⟩ := hq1
      obtain rfl := hq1.symm
      refine A_istore_n (q := 17) X dX4_measureEnds_16 (by decide) (okP_s rfl rfl) rfl ?_
      have etk : tokA T.1 (((i2 + 1 : Nat) : Int) - 1) = T.1.getD i2 0 := by rw [show (((i2 + 1 : Nat) : Int) - 1) = ((i2 : Nat) : Int) by omega]; exact tokA_in (by omega)
      have htk := hgd.at (i := i2) (by omega)
      rw [etk]
      refine A_iload_n (q := 18) X dX4_measureEnds_17 rfl rfl ?_
      refine A_sipush (q := 21) X dX4_measureEnds_18 (by decide) rfl ?_
      refine A_icmp_ne (q := 24) (t := 40) X dX4_measureEnds_21 (by omega) (by decide) rfl rfl (fun hb21 => ?_) (fun hb21 => ?_)
      · refine A_iload_n (q := 41) X dX4_measureEnds_40 rfl rfl ?_
        refine A_sipush (q := 44) X dX4_measureEnds_41 (by decide) rfl ?_
        refine A_icmp_ne (q := 47) (t := 67) X dX4_measureEnds_44 (by omega) (by decide) rfl rfl (fun hb44 => ?_) (fun hb44 => ?_)
        · refine A_aload_n (q := 68) X dX4_measureEnds_67 rfl rfl ?_
          refine A_getf (q := 71) X fX4_9 dX4_measureEnds_68 hO.lt hO.cell rfl rfl ?_
          refine A_iload_n (q := 72) X dX4_measureEnds_71 rfl rfl ?_
          refine A_iload_n (q := 73) X dX4_measureEnds_72 rfl rfl ?_
          refine A_iconst (q := 74) X dX4_measureEnds_73 rfl ?_
          refine A_iadd (q := 75) X dX4_measureEnds_74 rfl ?_
          refine A_iast (q := 76) (((((i2 + 1 : Nat) : Int) - 1)).toNat) X dX4_measureEnds_75 (by omega) hO.c1 (by omega) (by omega) (by decide) rfl ?_
          refine A_iinc (q := 79) X dX4_measureEnds_76 rfl (by decide) (okP_s rfl rfl) rfl ?_
          refine A_goto (q := 7) X dX4_measureEnds_79 rfl ?_
          refine AW.loc (sS rfl (sS rfl (sZ rfl (by omega) (sN sE)))) (ih i2 _ _ (by omega) (by omega) (hT.keep (lk_ne (by omega) rfl) (lk_ne (by omega) rfl)) ⟨hN0, hN1, hN2, n01, n02, n12, hm, (lk_ne (by omega) hO.cell), lk_eq, (lk_ne (by omega) hO.c2)⟩ (fun j h1 h2 => ?_) (fun k n0 => (lk_ne n0 (hf0 k n0))))
          by_cases ej : j = i2
          · subst ej
            rw [show (((j + 1 : Nat) : Int) - 1).toNat = j by omega, lk_eq]
            rw [en_var (by omega) (prt_var (by omega) (by omega) (by omega))]
            omega
          · rw [lk_ne (by omega) rfl]
            exact hE j (by omega) h2
        · refine A_aload_n (q := 48) X dX4_measureEnds_47 rfl rfl ?_
          refine A_getf (q := 51) X fX4_9 dX4_measureEnds_48 hO.lt hO.cell rfl rfl ?_
          refine A_iload_n (q := 52) X dX4_measureEnds_51 rfl rfl ?_
          refine A_aload_n (q := 53) X dX4_measureEnds_52 rfl rfl ?_
          refine A_aload_n (q := 54) X dX4_measureEnds_53 rfl rfl ?_
          refine A_iload_n (q := 55) X dX4_measureEnds_54 rfl rfl ?_
          refine A_iconst (q := 56) X dX4_measureEnds_55 rfl ?_
          refine A_iadd (q := 57) X dX4_measureEnds_56 rfl ?_
          have een := en_le (l := T.1) (i := i2 + 1) (by omega)
          have een2 := en_ge T.1 (i2 + 1)
          refine A_V1i (q := 60) X (c_X4_endAt hG hO (by omega)) mX4_endAt kX4_44 dX4_measureEnds_57 hO.lt hO.cell rfl (by decide) (Nat.le_of_ble_eq_true rfl) rfl (fun vq6 cq5 hq4 => ?_)
          obtain ⟨rfl, hq4⟩ := hq4
          obtain rfl := hq4.symm
          have eo := olE_en (p := (((i2 + 1 : Nat) : Int) - 1) + 1) (k := i2 + 1) hml hE (by omega) (by omega) (by omega)
          refine A_V1i (q := 63) X (c_X4_endAt hG hO (by omega)) mX4_endAt kX4_44 dX4_measureEnds_60 hO.lt hO.cell rfl (by decide) (Nat.le_of_ble_eq_true rfl) rfl (fun vq9 cq8 hq7 => ?_)
          obtain ⟨rfl, hq7⟩ := hq7
          obtain rfl := hq7.symm
          refine A_iast (q := 64) (((((i2 + 1 : Nat) : Int) - 1)).toNat) X dX4_measureEnds_63 (by omega) hO.c1 (by omega) (by omega) (by decide) rfl ?_
          refine A_goto (q := 76) X dX4_measureEnds_64 rfl ?_
          refine A_iinc (q := 79) X dX4_measureEnds_76 rfl (by decide) (okP_s rfl rfl) rfl ?_
          refine A_goto (q := 7) X dX4_measureEnds_79 rfl ?_
          refine AW.loc (sS rfl (sS rfl (sZ rfl (by omega) (sN sE)))) (ih i2 _ _ (by omega) (by omega) (hT.keep (lk_ne (by omega) rfl) (lk_ne (by omega) rfl)) ⟨hN0, hN1, hN2, n01, n02, n12, hm, (lk_ne (by omega) hO.cell), lk_eq, (lk_ne (by omega) hO.c2)⟩ (fun j h1 h2 => ?_) (fun k n0 => (lk_ne n0 (hf0 k n0))))
          by_cases ej : j = i2
          · subst ej
            rw [show (((j + 1 : Nat) : Int) - 1).toNat = j by omega, lk_eq]
            rw [olE_en (k := en T.1 (j + 1)) hml hE (olE_en (k := j + 1) hml hE (by omega) (by omega) (by omega)) (by omega) (by omega), en_app (i := j) (by omega) (by rw [show T.1.getD j 0 = 1000 by omega]; rfl)]
          · rw [lk_ne (by omega) rfl]
            exact hE j (by omega) h2
      · refine A_aload_n (q := 25) X dX4_measureEnds_24 rfl rfl ?_
        refine A_getf (q := 28) X fX4_9 dX4_measureEnds_25 hO.lt hO.cell rfl rfl ?_
        refine A_iload_n (q := 29) X dX4_measureEnds_28 rfl rfl ?_
        refine A_aload_n (q := 30) X dX4_measureEnds_29 rfl rfl ?_
        refine A_iload_n (q := 31) X dX4_measureEnds_30 rfl rfl ?_
        refine A_iconst (q := 32) X dX4_measureEnds_31 rfl ?_
        refine A_iadd (q := 33) X dX4_measureEnds_32 rfl ?_
        refine A_V1i (q := 36) X (c_X4_endAt hG hO (by omega)) mX4_endAt kX4_44 dX4_measureEnds_33 hO.lt hO.cell rfl (by decide) (Nat.le_of_ble_eq_true rfl) rfl (fun vq12 cq11 hq10 => ?_)
        obtain ⟨rfl, hq10⟩ := hq10
        obtain rfl := hq10.symm
        refine A_iast (q := 37) (((((i2 + 1 : Nat) : Int) - 1)).toNat) X dX4_measureEnds_36 (by omega) hO.c1 (by omega) (by omega) (by decide) rfl ?_
        refine A_goto (q := 76) X dX4_measureEnds_37 rfl ?_
        refine A_iinc (q := 79) X dX4_measureEnds_76 rfl (by decide) (okP_s rfl rfl) rfl ?_
        refine A_goto (q := 7) X dX4_measureEnds_79 rfl ?_
        refine AW.loc (sS rfl (sS rfl (sZ rfl (by omega) (sN sE)))) (ih i2 _ _ (by omega) (by omega) (hT.keep (lk_ne (by omega) rfl) (lk_ne (by omega) rfl)) ⟨hN0, hN1, hN2, n01, n02, n12, hm, (lk_ne (by omega) hO.cell), lk_eq, (lk_ne (by omega) hO.c2)⟩ (fun j h1 h2 => ?_) (fun k n0 => (lk_ne n0 (hf0 k n0))))
        by_cases ej : j = i2
        · subst ej
          rw [show (((j + 1 : Nat) : Int) - 1).toNat = j by omega, lk_eq]
          rw [olE_en (k := j + 1) hml hE (by omega) (by omega) (by omega), en_abs (i := j) (by omega) (by rw [show T.1.getD j 0 = 1001 by omega]; rfl)]
        · rw [lk_ne (by omega) rfl]
          exact hE j (by omega) h2
set_option maxRecDepth 100000 in
set_option maxHeartbeats 4000000 in
theorem c_X4_measureEnds {l : Launch} {G : Gm} {c : HP} {h a1 a2 m t ta : Nat} {E D : Nat → Int} {T : List Int × Int} (hG : injG G) (hgd : Gd T.1) (hml : m = T.1.length) (x1 : h ≠ t) (x2 : h ≠ ta) (x3 : a1 ≠ t) (x4 : a1 ≠ ta) (x5 : a2 ≠ t) (x6 : a2 ≠ ta) (hT : Tm G c t ta T) (hO : Ol G c h a1 a2 m E D) : AMet l G yX4_measureEnds cX4_measureEnds 4 (none) (rmR 1 21) [.ref (G.1 h), .ref (G.1 t)] c (Qv (fun c' => ∃ E', Ol G c' h a1 a2 m E' D ∧ (∀ j, j < m → E' j = (en T.1 j : Nat)) ∧ (∀ k, k ≠ a1 → c' k = c k))) := by
  refine AMet.of (vl := [some (.ref (G.1 h)), some (.ref (G.1 t))]) (by decide) hG (Nat.le_of_ble_eq_true rfl) rfl ?_
  intro K X
  have X : Fx l G K cX4_measureEnds 4 RX4 (none) (rmR 1 21) := X
  refine A_aload_n (q := 1) X dX4_measureEnds_0 rfl rfl ?_
  refine A_getf (q := 4) X fX4_18 dX4_measureEnds_1 hO.lt hO.cell rfl rfl ?_
  refine A_iconst (q := 5) X dX4_measureEnds_4 rfl ?_
  refine A_isub (q := 6) X dX4_measureEnds_5 rfl ?_
  refine A_istore_n (q := 7) X dX4_measureEnds_6 (by decide) (okP_s rfl rfl) rfl ?_
  exact AW.loc (sS rfl (sS rfl (sZ rfl (by omega) (sN sE)))) (lp_X4_measureEnds X hG hgd hml x1 x2 x3 x4 x5 x6 _ m E c (Nat.lt_succ_self _) (Nat.le_refl _) hT hO (fun j h1 h2 => absurd h2 (by omega)) (fun _ _ => rfl))
theorem olU_in {m k : Nat} {D : Nat → Int} {p v : Int} (hp : p = (k : Nat)) (h : k < m) : olU m D p v = va_up D k v := by
  subst hp
  unfold olU
  rw [if_pos (by omega), Int.toNat_natCast]
theorem pnd_len {l : List Int} {i : Nat} {ds : List Nat} (hi : i ≤ l.length) (h : pnd l i ds) : i + ds.length ≤ l.length := by
  obtain ⟨cs, h1, h2⟩ := h
  have := wfr_le _ _ h1
  rw [List.length_drop] at this
  omega
theorem pnd_en {l : List Int} {i d e : Nat} {ds : List Nat} (hi : i ≤ l.length) (h : pnd l i (d :: e :: ds)) : en l i < l.length := by
  obtain ⟨cs, h1, h2⟩ := h
  have := (sk_wfk h1 (k := 1) (by rw [h2]; simp)).2
  rw [List.length_drop] at this
  unfold en
  omega
set_option maxRecDepth 100000 in
set_option maxHeartbeats 4000000 in
theorem lp_X4_measureDepths {l : Launch} {G : Gm} {K : Cx} {c0 : HP} {h a1 a2 m t ta : Nat} {E : Nat → Int} {T : List Int × Int} (X : Fx l G K cX4_measureDepths 4 RX4 (none) (rmR 1 22)) (hG : injG G) (hgd : Gd T.1) (hml : m = T.1.length) (hE : ∀ j, j < m → E j = (en T.1 j : Nat)) (x1 : h ≠ t) (x2 : h ≠ ta) (x3 : a1 ≠ t) (x4 : a1 ≠ ta) (x5 : a2 ≠ t) (x6 : a2 ≠ ta) : ∀ (n : Nat) (i : Nat) (D : Nat → Int) (c : HP) (ds : List Nat), m - i < n → i ≤ m → Tm G c t ta T → Ol G c h a1 a2 m E D → pnd T.1 i ds → stk (T.1.take i) [0] = ds → ahd T.1 i ds D → (∀ j, j < i → D j = (dp T.1 j : Nat)) → (∀ k, k ≠ a2 → c k = c0 k) → AW G K (Qv (fun c' => ∃ D', Ol G c' h a1 a2 m E D' ∧ (∀ j, j < m → D' j = (dp T.1 j : Nat)) ∧ (∀ k, k ≠ a2 → c' k = c0 k))) 8 (mkL [some (.ref (G.1 h)), some (.ref (G.1 t)), some (.int (zI ((i : Nat) : Int))), none]) [] c := by
  intro n
  induction n with
  | zero => intro i D c ds hmz; exact absurd hmz (Nat.not_lt_zero _)
  | succ n ih =>
    intro i D c ds hmz hi hT hO hp hst hah hD hf0
    obtain ⟨hN0, hN1, hN2, n01, n02, n12, hm, -, -, -⟩ := id hO
    have hlen := hT.len
    refine A_iload_n (q := 9) X dX4_measureDepths_8 rfl rfl ?_
    refine A_aload_n (q := 10) X dX4_measureDepths_9 rfl rfl ?_
    refine A_getf (q := 13) X fX4_18 dX4_measureDepths_10 hO.lt hO.cell rfl rfl ?_
    refine A_icmp_ge (q := 16) (t := 90) X dX4_measureDepths_13 (by omega) (by omega) rfl rfl (fun hb13 => ?_) (fun hb13 => ?_)
    · exact A_return X dX4_measureDepths_90 ⟨D, hO, fun j hj => hD j (by omega), hf0⟩
    · obtain ⟨d, ds2, rfl, hp2⟩ := pnd_step hgd.2.2 (by omega) hp
      have ed := ahd_0 hah
      have edp := dp_stk (by omega) hst
      have hst2 := stk_take (by omega) hst
      refine A_aload_n (q := 17) X dX4_measureDepths_16 rfl rfl ?_
      refine A_iload_n (q := 18) X dX4_measureDepths_17 rfl rfl ?_
      refine A_V1i (q := 21) X (c_X6_token hG hT (by omega)) mX6_token kX4_40 dX4_measureDepths_18 hT.lt hT.cell rfl (by decide) (Nat.le_of_ble_eq_true rfl) rfl (fun vq3 cq2 hq1 => ?_)
      obtain ⟨rfl, hq1⟩ := hq1
      obtain rfl := hq1.symm
      refine A_istore_n (q := 22) X dX4_measureDepths_21 (by decide) (okP_s rfl rfl) rfl ?_
      have htk := hgd.at (i := i) (by omega)
      rw [tokA_in (by omega)]
      refine A_iload_n (q := 23) X dX4_measureDepths_22 rfl rfl ?_
      refine A_sipush (q := 26) X dX4_measureDepths_23 (by decide) rfl ?_
      refine A_icmp_ne (q := 29) (t := 47) X dX4_measureDepths_26 (by omega) (by decide) rfl rfl (fun hb26 => ?_) (fun hb26 => ?_)
      · refine A_iload_n (q := 48) X dX4_measureDepths_47 rfl rfl ?_
        refine A_sipush (q := 51) X dX4_measureDepths_48 (by decide) rfl ?_
        refine A_icmp_ne (q := 54) (t := 84) X dX4_measureDepths_51 (by omega) (by decide) rfl rfl (fun hb51 => ?_) (fun hb51 => ?_)
        · refine A_iinc (q := 87) X dX4_measureDepths_84 rfl (by decide) (okP_s rfl rfl) rfl ?_
          refine A_goto (q := 8) X dX4_measureDepths_87 rfl ?_
          have en0 : nd (T.1.getD i 0) d = [] := by unfold nd; rw [if_neg (by omega), if_neg (by omega)]
          rw [en0, List.nil_append] at hp2 hst2
          exact AW.loc (sS rfl (sS rfl (sZ rfl (by omega) (sN sE)))) (ih (i + 1) _ _ ds2 (by omega) (by omega) hT hO hp2 hst2 (ahd_var (by omega) (prt_var (by omega) (by omega) (by omega)) hah) (lt_s hD (by rw [edp]; exact ed)) hf0)
        · have etok : T.1.getD i 0 = 1000 := by omega
          have en0 : nd (T.1.getD i 0) d = [d, d] := by rw [etok]; rfl
          rw [en0] at hp2 hst2
          have hpl := pnd_len (by omega) hp2
          simp only [List.length_append, List.length_cons, List.length_nil] at hpl
          have hpe : en T.1 (i + 1) < T.1.length := pnd_en (by omega) hp2
          have hpg := en_gt (l := T.1) (i := i + 1) (by omega)
          refine A_aload_n (q := 55) X dX4_measureDepths_54 rfl rfl ?_
          refine A_iload_n (q := 56) X dX4_measureDepths_55 rfl rfl ?_
          refine A_iconst (q := 57) X dX4_measureDepths_56 rfl ?_
          refine A_iadd (q := 58) X dX4_measureDepths_57 rfl ?_
          refine A_aload_n (q := 59) X dX4_measureDepths_58 rfl rfl ?_
          refine A_getf (q := 62) X fX4_15 dX4_measureDepths_59 hO.lt hO.cell rfl rfl ?_
          refine A_iload_n (q := 63) X dX4_measureDepths_62 rfl rfl ?_
          refine A_iald (q := 64) (i) X dX4_measureDepths_63 hN2 hO.c2 (by omega) (by omega) (by decide) rfl ?_
          refine A_V2v (q := 67) X (c_X4_setDepth hG hO (by omega)) mX4_setDepth kX4_47 dX4_measureDepths_64 hO.lt hO.cell rfl (by decide) (Nat.le_of_ble_eq_true rfl) rfl (fun cq5 hq4 => ?_)
          obtain ⟨hO6, hf7⟩ := hq4
          refine A_aload_n (q := 68) X dX4_measureDepths_67 rfl rfl ?_
          refine A_aload_n (q := 69) X dX4_measureDepths_68 rfl rfl ?_
          refine A_iload_n (q := 70) X dX4_measureDepths_69 rfl rfl ?_
          refine A_iconst (q := 71) X dX4_measureDepths_70 rfl ?_
          refine A_iadd (q := 72) X dX4_measureDepths_71 rfl ?_
          refine A_V1i (q := 75) X (c_X4_endAt hG hO6 (by omega)) mX4_endAt kX4_44 dX4_measureDepths_72 hO.lt hO6.cell rfl (by decide) (Nat.le_of_ble_eq_true rfl) rfl (fun vq10 cq9 hq8 => ?_)
          obtain ⟨rfl, hq8⟩ := hq8
          obtain rfl := hq8.symm
          refine A_aload_n (q := 76) X dX4_measureDepths_75 rfl rfl ?_
          refine A_getf (q := 79) X fX4_15 dX4_measureDepths_76 hO.lt ((hf7 _ (by omega)).trans hO.cell) rfl rfl ?_
          refine A_iload_n (q := 80) X dX4_measureDepths_79 rfl rfl ?_
          refine A_iald (q := 81) (i) X dX4_measureDepths_80 hN2 hO6.c2 (by omega) (by omega) (by decide) rfl ?_
          have eo := olE_en (l := T.1) (E := E) (m := m) (p := ((i : Nat) : Int) + 1) (k := i + 1) (i := 0) hml (fun j _ h => hE j h) (by omega) (by omega) (by omega)
          refine A_V2v (q := 84) X (c_X4_setDepth hG hO6 (by omega)) mX4_setDepth kX4_47 dX4_measureDepths_81 hO.lt hO6.cell rfl (by decide) (Nat.le_of_ble_eq_true rfl) rfl (fun cq12 hq11 => ?_)
          obtain ⟨hO13, hf14⟩ := hq11
          refine A_iinc (q := 87) X dX4_measureDepths_84 rfl (by decide) (okP_s rfl rfl) rfl ?_
          refine A_goto (q := 8) X dX4_measureDepths_87 rfl ?_
          have eD : (olU m (olU m D (((i : Nat) : Int) + 1) (D (i))) (olE m E (((i : Nat) : Int) + 1)) ((olU m D (((i : Nat) : Int) + 1) (D (i))) (i))) = va_up (va_up D (i + 1) ((d : Nat) : Int)) (en T.1 (i + 1)) ((d : Nat) : Int) := by rw [olU_in (k := en T.1 (i + 1)) (olE_en (k := i + 1) (i := 0) hml (fun j _ h => hE j h) (by omega) (by omega) (by omega)) (by omega), olU_in (k := i + 1) (by omega) (by omega), lk_ne (by omega) rfl, ed]
          have hO9 := hO13
          rw [eD] at hO9
          exact AW.loc (sS rfl (sS rfl (sZ rfl (by omega) (sN sE)))) (ih (i + 1) _ _ (d :: d :: ds2) (by omega) (by omega) (hT.keep ((hf14 t (by omega)).trans ((hf7 t (by omega)).trans rfl)) ((hf14 ta (by omega)).trans ((hf7 ta (by omega)).trans rfl))) hO9 hp2 hst2 (ahd_app (by omega) (by rw [etok]; rfl) hp2 hah (lk_ne (by omega) lk_eq) lk_eq (fun j hj hj2 => lk_ne hj2 (lk_ne hj rfl))) (fun j hj => (lk_ne (by omega) (lk_ne (by omega) rfl)).trans (lt_s hD (by rw [edp]; exact ed) j hj)) (fun k n0 => (hf14 k n0).trans ((hf7 k n0).trans (hf0 k n0))))
      · refine A_aload_n (q := 30) X dX4_measureDepths_29 rfl rfl ?_
        refine A_iload_n (q := 31) X dX4_measureDepths_30 rfl rfl ?_
        refine A_iconst (q := 32) X dX4_measureDepths_31 rfl ?_
        refine A_iadd (q := 33) X dX4_measureDepths_32 rfl ?_
        refine A_aload_n (q := 34) X dX4_measureDepths_33 rfl rfl ?_
        refine A_getf (q := 37) X fX4_15 dX4_measureDepths_34 hO.lt hO.cell rfl rfl ?_
        refine A_iload_n (q := 38) X dX4_measureDepths_37 rfl rfl ?_
        refine A_iald (q := 39) (i) X dX4_measureDepths_38 hN2 hO.c2 (by omega) (by omega) (by decide) rfl ?_
        refine A_iconst (q := 40) X dX4_measureDepths_39 rfl ?_
        refine A_iadd (q := 41) X dX4_measureDepths_40 rfl ?_
        refine A_V2v (q := 44) X (c_X4_setDepth hG hO (by omega)) mX4_setDepth kX4_47 dX4_measureDepths_41 hO.lt hO.cell rfl (by decide) (Nat.le_of_ble_eq_true rfl) rfl (fun cq16 hq15 => ?_)
        obtain ⟨hO17, hf18⟩ := hq15
        refine A_goto (q := 84) X dX4_measureDepths_44 rfl ?_
        refine A_iinc (q := 87) X dX4_measureDepths_84 rfl (by decide) (okP_s rfl rfl) rfl ?_
        refine A_goto (q := 8) X dX4_measureDepths_87 rfl ?_
        have etok : T.1.getD i 0 = 1001 := by omega
        have en0 : nd (T.1.getD i 0) d = [d + 1] := by rw [etok]; rfl
        rw [en0] at hp2 hst2
        have hpl := pnd_len (by omega) hp2
        simp only [List.length_append, List.length_singleton] at hpl
        have eD : (olU m D (((i : Nat) : Int) + 1) ((D (i)) + 1)) = va_up D (i + 1) ((d + 1 : Nat) : Int) := by rw [olU_in (k := i + 1) (by omega) (by omega), ed]; rfl
        have hO9 := hO17
        rw [eD] at hO9
        exact AW.loc (sS rfl (sS rfl (sZ rfl (by omega) (sN sE)))) (ih (i + 1) _ _ ((d + 1) :: ds2) (by omega) (by omega) (hT.keep ((hf18 t (by omega)).trans rfl) ((hf18 ta (by omega)).trans rfl)) hO9 hp2 hst2 (ahd_abs (by omega) (by rw [etok]; rfl) hp2 hah lk_eq (fun j hj => lk_ne hj rfl)) (fun j hj => (lk_ne (by omega) rfl).trans (lt_s hD (by rw [edp]; exact ed) j hj)) (fun k n0 => (hf18 k n0).trans (hf0 k n0)))
set_option maxRecDepth 100000 in
set_option maxHeartbeats 4000000 in
theorem c_X4_measureDepths {l : Launch} {G : Gm} {c : HP} {h a1 a2 m t ta : Nat} {E D : Nat → Int} {T : List Int × Int} (hG : injG G) (hgd : Gd T.1) (hml : m = T.1.length) (hE : ∀ j, j < m → E j = (en T.1 j : Nat)) (x1 : h ≠ t) (x2 : h ≠ ta) (x3 : a1 ≠ t) (x4 : a1 ≠ ta) (x5 : a2 ≠ t) (x6 : a2 ≠ ta) (hT : Tm G c t ta T) (hO : Ol G c h a1 a2 m E D) : AMet l G yX4_measureDepths cX4_measureDepths 4 (none) (rmR 1 22) [.ref (G.1 h), .ref (G.1 t)] c (Qv (fun c' => ∃ D', Ol G c' h a1 a2 m E D' ∧ (∀ j, j < m → D' j = (dp T.1 j : Nat)) ∧ (∀ k, k ≠ a2 → c' k = c k))) := by
  refine AMet.of (vl := [some (.ref (G.1 h)), some (.ref (G.1 t))]) (by decide) hG (Nat.le_of_ble_eq_true rfl) rfl ?_
  intro K X
  have X : Fx l G K cX4_measureDepths 4 RX4 (none) (rmR 1 22) := X
  have hlen := hT.len
  have hpos := hgd.pos
  refine A_aload_n (q := 1) X dX4_measureDepths_0 rfl rfl ?_
  refine A_iconst (q := 2) X dX4_measureDepths_1 rfl ?_
  refine A_iconst (q := 3) X dX4_measureDepths_2 rfl ?_
  refine A_V2v (q := 6) X (c_X4_setDepth hG hO (by decide)) mX4_setDepth kX4_47 dX4_measureDepths_3 hO.lt hO.cell rfl (by decide) (Nat.le_of_ble_eq_true rfl) rfl (fun cq2 hq1 => ?_)
  obtain ⟨hO3, hf4⟩ := hq1
  refine A_iconst (q := 7) X dX4_measureDepths_6 rfl ?_
  refine A_istore_n (q := 8) X dX4_measureDepths_7 (by decide) (okP_s rfl rfl) rfl ?_
  have hO9 := hO3
  rw [olU_in (k := 0) (by omega) (by omega)] at hO9
  exact AW.loc (sS rfl (sS rfl (sZ rfl (by omega) (sN sE)))) (lp_X4_measureDepths X hG hgd hml hE x1 x2 x3 x4 x5 x6 _ 0 _ _ [0] (Nat.lt_succ_self _) (Nat.zero_le _) (hT.keep ((hf4 t (by omega)).trans rfl) ((hf4 ta (by omega)).trans rfl)) hO9 (pnd_0 hgd) rfl (fun k hk => by have : k = 0 := Nat.lt_one_iff.mp hk; subst this; rw [sk_0]; exact lk_eq) (fun j hj => absurd hj (Nat.not_lt_zero j)) hf4)
set_option maxRecDepth 100000 in
set_option maxHeartbeats 4000000 in
theorem c_X4_measure {l : Launch} {G : Gm} {c : HP} {h a1 a2 m t ta : Nat} {E D : Nat → Int} {T : List Int × Int} (hG : injG G) (hgd : Gd T.1) (x1 : h ≠ t) (x2 : h ≠ ta) (x3 : a1 ≠ t) (x4 : a1 ≠ ta) (x5 : a2 ≠ t) (x6 : a2 ≠ ta) (hT : Tm G c t ta T) (hO : Ol G c h a1 a2 m E D) : AMet l G yX4_measure cX4_measure 2 (none) (rmR 2 45) [.ref (G.1 h), .ref (G.1 t)] c (Qv (fun c' => ∃ E' D', Ol G c' h a1 a2 T.1.length E' D' ∧ (∀ j, j < T.1.length → E' j = (en T.1 j : Nat)) ∧ (∀ j, j < T.1.length → D' j = (dp T.1 j : Nat)) ∧ (∀ k, k ≠ h → k ≠ a1 → k ≠ a2 → c' k = c k))) := by
  refine AMet.of (vl := [some (.ref (G.1 h)), some (.ref (G.1 t))]) (by decide) hG (Nat.le_of_ble_eq_true rfl) rfl ?_
  intro K X
  have X : Fx l G K cX4_measure 2 RX4 (none) (rmR 2 45) := X
  obtain ⟨hN0, hN1, hN2, n01, n02, n12, hm, hh, h1, h2⟩ := hO
  have hlen := hT.len
  refine A_aload_n (q := 1) X dX4_measure_0 rfl rfl ?_
  refine A_aload_n (q := 2) X dX4_measure_1 rfl rfl ?_
  refine A_V0i (q := 5) X (c_X6_length hG hT) mX6_length kX4_22 dX4_measure_2 hT.lt hT.cell rfl (by decide) (Nat.le_of_ble_eq_true rfl) rfl (fun vq3 cq2 hq1 => ?_)
  obtain ⟨rfl, hq1⟩ := hq1
  obtain rfl := hq1.symm
  refine A_sipush (q := 8) X dX4_measure_5 (by decide) rfl ?_
  refine A_mmin (q := 11) X dX4_measure_8 kX4_27 q_min1 q_math1 q_min2 (by omega) (by decide) (by decide) (Nat.le_of_ble_eq_true rfl) rfl ?_
  rw [show min ((T.1.length : Nat) : Int) 200 = ((T.1.length : Nat) : Int) by omega]
  refine A_putf (q := 14) X pX4_18 dX4_measure_11 hN0 hh (Nat.le_of_ble_eq_true rfl) rfl rfl rfl ?_
  refine A_aload_n (q := 15) X dX4_measure_14 rfl rfl ?_
  refine A_aload_n (q := 16) X dX4_measure_15 rfl rfl ?_
  have hO2 : Ol G (va_up c h (.inr (4, [.ref (G.1 a1), .ref (G.1 a2), .int (zI ((T.1.length : Nat) : Int))]))) h a1 a2 T.1.length E D := ⟨hN0, hN1, hN2, n01, n02, n12, hlen, lk_eq, lk_ne (by omega) h1, lk_ne (by omega) h2⟩
  refine A_V1v (q := 19) X (c_X4_measureEnds hG hgd rfl x1 x2 x3 x4 x5 x6 (hT.keep (lk_ne (by omega) rfl) (lk_ne (by omega) rfl)) hO2) mX4_measureEnds kX4_33 dX4_measure_16 hN0 hO2.cell rfl (by decide) (Nat.le_of_ble_eq_true rfl) rfl (fun cq5 hq4 => ?_)
  obtain ⟨E2, hO3, hE2, hf3⟩ := hq4
  refine A_aload_n (q := 20) X dX4_measure_19 rfl rfl ?_
  refine A_aload_n (q := 21) X dX4_measure_20 rfl rfl ?_
  refine A_V1v (q := 24) X (c_X4_measureDepths hG hgd rfl hE2 x1 x2 x3 x4 x5 x6 (hT.keep ((hf3 t (by omega)).trans (lk_ne (by omega) rfl)) ((hf3 ta (by omega)).trans (lk_ne (by omega) rfl))) hO3) mX4_measureDepths kX4_37 dX4_measure_21 hN0 hO3.cell rfl (by decide) (Nat.le_of_ble_eq_true rfl) rfl (fun cq7 hq6 => ?_)
  obtain ⟨D2, hO4, hD2, hf4⟩ := hq6
  exact A_return X dX4_measure_24 ⟨E2, D2, hO4, hE2, hD2, fun k n0 n1 n2 => (hf4 k n2).trans ((hf3 k n1).trans (lk_ne n0 rfl))⟩
end
