section
-- ===== PART A: goes FIRST, ahead of the names: the tables' words, and 'selects' of the private methods out of them =====
/-- a private method of a class that the tables say can be made, by its rows of tables_1 -/
def lw_okq (q : MethodName × Nat) : Prop := (q.1.cls ≠ "java/lang/invoke/MethodHandle" ∧ q.1.cls ≠ "java/lang/invoke/VarHandle") ∧ Cond.instantiable q.1.cls q.2 ∈ tables_1 ∧ Cond.privateMethod q.1 ∈ tables_1 ∧ Cond.instanceMethod q.1 ∈ tables_1
theorem lw_p0 : lw_okq (⟨"SubstitutionMachine$Outline", "measureEnds", "(LSubstitutionMachine$Term;)V"⟩, 3) := ⟨⟨by decide +kernel, by decide +kernel⟩, List.mem_of_getElem? (i := 39) (by decide +kernel), List.mem_of_getElem? (i := 291) (by decide +kernel), List.mem_of_getElem? (i := 292) (by decide +kernel)⟩
theorem lw_p1 : lw_okq (⟨"SubstitutionMachine$Outline", "measureDepths", "(LSubstitutionMachine$Term;)V"⟩, 3) := ⟨⟨by decide +kernel, by decide +kernel⟩, List.mem_of_getElem? (i := 39) (by decide +kernel), List.mem_of_getElem? (i := 300) (by decide +kernel), List.mem_of_getElem? (i := 301) (by decide +kernel)⟩
theorem lw_p2 : lw_okq (⟨"SubstitutionMachine$Outline", "setDepth", "(II)V"⟩, 3) := ⟨⟨by decide +kernel, by decide +kernel⟩, List.mem_of_getElem? (i := 39) (by decide +kernel), List.mem_of_getElem? (i := 304) (by decide +kernel), List.mem_of_getElem? (i := 305) (by decide +kernel)⟩
theorem lw_p3 : lw_okq (⟨"SubstitutionMachine$Reducer", "addContracted", "(LSubstitutionMachine$Term;III)V"⟩, 3) := ⟨⟨by decide +kernel, by decide +kernel⟩, List.mem_of_getElem? (i := 55) (by decide +kernel), List.mem_of_getElem? (i := 376) (by decide +kernel), List.mem_of_getElem? (i := 377) (by decide +kernel)⟩
theorem lw_p4 : lw_okq (⟨"SubstitutionMachine$Reducer", "addShifted", "(LSubstitutionMachine$Term;LSubstitutionMachine$Outline;III)V"⟩, 3) := ⟨⟨by decide +kernel, by decide +kernel⟩, List.mem_of_getElem? (i := 55) (by decide +kernel), List.mem_of_getElem? (i := 387) (by decide +kernel), List.mem_of_getElem? (i := 388) (by decide +kernel)⟩
theorem lw_p5 : lw_okq (⟨"SubstitutionMachine$Reducer", "takeResult", "(LSubstitutionMachine$Term;)Z"⟩, 3) := ⟨⟨by decide +kernel, by decide +kernel⟩, List.mem_of_getElem? (i := 55) (by decide +kernel), List.mem_of_getElem? (i := 391) (by decide +kernel), List.mem_of_getElem? (i := 392) (by decide +kernel)⟩
theorem lw_p6 : lw_okq (⟨"SubstitutionMachine", "actWithCopy", "()I"⟩, 12) := ⟨⟨by decide +kernel, by decide +kernel⟩, List.mem_of_getElem? (i := 14) (by decide +kernel), List.mem_of_getElem? (i := 396) (by decide +kernel), List.mem_of_getElem? (i := 397) (by decide +kernel)⟩
theorem lw_p7 : lw_okq (⟨"SubstitutionMachine", "slotTerm", "(I)LSubstitutionMachine$Term;"⟩, 12) := ⟨⟨by decide +kernel, by decide +kernel⟩, List.mem_of_getElem? (i := 14) (by decide +kernel), List.mem_of_getElem? (i := 432) (by decide +kernel), List.mem_of_getElem? (i := 433) (by decide +kernel)⟩
theorem lw_p8 : lw_okq (⟨"SubstitutionMachine", "performOnCopy", "(II)I"⟩, 12) := ⟨⟨by decide +kernel, by decide +kernel⟩, List.mem_of_getElem? (i := 14) (by decide +kernel), List.mem_of_getElem? (i := 467) (by decide +kernel), List.mem_of_getElem? (i := 468) (by decide +kernel)⟩
theorem lw_p9 : lw_okq (⟨"SubstitutionMachine", "normaliseInto", "(LSubstitutionMachine$Term;LSubstitutionMachine$Term;)Z"⟩, 12) := ⟨⟨by decide +kernel, by decide +kernel⟩, List.mem_of_getElem? (i := 14) (by decide +kernel), List.mem_of_getElem? (i := 479) (by decide +kernel), List.mem_of_getElem? (i := 480) (by decide +kernel)⟩
theorem lw_p10 : lw_okq (⟨"SubstitutionMachine$Machine", "start", "(LSubstitutionMachine$Term;)V"⟩, 4) := ⟨⟨by decide +kernel, by decide +kernel⟩, List.mem_of_getElem? (i := 75) (by decide +kernel), List.mem_of_getElem? (i := 504) (by decide +kernel), List.mem_of_getElem? (i := 505) (by decide +kernel)⟩
theorem lw_p11 : lw_okq (⟨"SubstitutionMachine$Extended", "put", "(III)V"⟩, 5) := ⟨⟨by decide +kernel, by decide +kernel⟩, List.mem_of_getElem? (i := 81) (by decide +kernel), List.mem_of_getElem? (i := 518) (by decide +kernel), List.mem_of_getElem? (i := 519) (by decide +kernel)⟩
theorem lw_p12 : lw_okq (⟨"SubstitutionMachine$Machine", "firstPlace", "(Z)I"⟩, 4) := ⟨⟨by decide +kernel, by decide +kernel⟩, List.mem_of_getElem? (i := 75) (by decide +kernel), List.mem_of_getElem? (i := 526) (by decide +kernel), List.mem_of_getElem? (i := 527) (by decide +kernel)⟩
theorem lw_p13 : lw_okq (⟨"SubstitutionMachine$Machine", "ruleAt", "(IZ)I"⟩, 4) := ⟨⟨by decide +kernel, by decide +kernel⟩, List.mem_of_getElem? (i := 75) (by decide +kernel), List.mem_of_getElem? (i := 530) (by decide +kernel), List.mem_of_getElem? (i := 531) (by decide +kernel)⟩
theorem lw_p14 : lw_okq (⟨"SubstitutionMachine$Machine", "rewrite", "(II)V"⟩, 4) := ⟨⟨by decide +kernel, by decide +kernel⟩, List.mem_of_getElem? (i := 75) (by decide +kernel), List.mem_of_getElem? (i := 538) (by decide +kernel), List.mem_of_getElem? (i := 539) (by decide +kernel)⟩
theorem lw_p15 : lw_okq (⟨"SubstitutionMachine$Machine", "writeBeta", "(I)V"⟩, 4) := ⟨⟨by decide +kernel, by decide +kernel⟩, List.mem_of_getElem? (i := 75) (by decide +kernel), List.mem_of_getElem? (i := 547) (by decide +kernel), List.mem_of_getElem? (i := 548) (by decide +kernel)⟩
def lw_privs_1 : List (MethodName × Nat) := [(⟨"SubstitutionMachine$Outline", "measureEnds", "(LSubstitutionMachine$Term;)V"⟩, 3), (⟨"SubstitutionMachine$Outline", "measureDepths", "(LSubstitutionMachine$Term;)V"⟩, 3), (⟨"SubstitutionMachine$Outline", "setDepth", "(II)V"⟩, 3), (⟨"SubstitutionMachine$Reducer", "addContracted", "(LSubstitutionMachine$Term;III)V"⟩, 3), (⟨"SubstitutionMachine$Reducer", "addShifted", "(LSubstitutionMachine$Term;LSubstitutionMachine$Outline;III)V"⟩, 3), (⟨"SubstitutionMachine$Reducer", "takeResult", "(LSubstitutionMachine$Term;)Z"⟩, 3), (⟨"SubstitutionMachine", "actWithCopy", "()I"⟩, 12), (⟨"SubstitutionMachine", "slotTerm", "(I)LSubstitutionMachine$Term;"⟩, 12), (⟨"SubstitutionMachine", "performOnCopy", "(II)I"⟩, 12), (⟨"SubstitutionMachine", "normaliseInto", "(LSubstitutionMachine$Term;LSubstitutionMachine$Term;)Z"⟩, 12), (⟨"SubstitutionMachine$Machine", "start", "(LSubstitutionMachine$Term;)V"⟩, 4), (⟨"SubstitutionMachine$Extended", "put", "(III)V"⟩, 5), (⟨"SubstitutionMachine$Machine", "firstPlace", "(Z)I"⟩, 4), (⟨"SubstitutionMachine$Machine", "ruleAt", "(IZ)I"⟩, 4), (⟨"SubstitutionMachine$Machine", "rewrite", "(II)V"⟩, 4), (⟨"SubstitutionMachine$Machine", "writeBeta", "(I)V"⟩, 4)]
theorem lw_r1 : ∀ q ∈ lw_privs_1, lw_okq q := List.forall_mem_cons.mpr ⟨lw_p0, List.forall_mem_cons.mpr ⟨lw_p1, List.forall_mem_cons.mpr ⟨lw_p2, List.forall_mem_cons.mpr ⟨lw_p3, List.forall_mem_cons.mpr ⟨lw_p4, List.forall_mem_cons.mpr ⟨lw_p5, List.forall_mem_cons.mpr ⟨lw_p6, List.forall_mem_cons.mpr ⟨lw_p7, List.forall_mem_cons.mpr ⟨lw_p8, List.forall_mem_cons.mpr ⟨lw_p9, List.forall_mem_cons.mpr ⟨lw_p10, List.forall_mem_cons.mpr ⟨lw_p11, List.forall_mem_cons.mpr ⟨lw_p12, List.forall_mem_cons.mpr ⟨lw_p13, List.forall_mem_cons.mpr ⟨lw_p14, List.forall_mem_cons.mpr ⟨lw_p15, fun _ h => absurd h List.not_mem_nil⟩⟩⟩⟩⟩⟩⟩⟩⟩⟩⟩⟩⟩⟩⟩⟩
theorem lw_p16 : lw_okq (⟨"SubstitutionMachine$Machine", "writeApply", "(I)V"⟩, 4) := ⟨⟨by decide +kernel, by decide +kernel⟩, List.mem_of_getElem? (i := 75) (by decide +kernel), List.mem_of_getElem? (i := 565) (by decide +kernel), List.mem_of_getElem? (i := 566) (by decide +kernel)⟩
theorem lw_p17 : lw_okq (⟨"SubstitutionMachine$Machine", "writeAbstract", "(I)V"⟩, 4) := ⟨⟨by decide +kernel, by decide +kernel⟩, List.mem_of_getElem? (i := 75) (by decide +kernel), List.mem_of_getElem? (i := 574) (by decide +kernel), List.mem_of_getElem? (i := 575) (by decide +kernel)⟩
theorem lw_p18 : lw_okq (⟨"SubstitutionMachine$Machine", "writeLookup", "(I)V"⟩, 4) := ⟨⟨by decide +kernel, by decide +kernel⟩, List.mem_of_getElem? (i := 75) (by decide +kernel), List.mem_of_getElem? (i := 582) (by decide +kernel), List.mem_of_getElem? (i := 583) (by decide +kernel)⟩
theorem lw_p19 : lw_okq (⟨"SubstitutionMachine$Machine", "writeMerge", "(I)V"⟩, 4) := ⟨⟨by decide +kernel, by decide +kernel⟩, List.mem_of_getElem? (i := 75) (by decide +kernel), List.mem_of_getElem? (i := 586) (by decide +kernel), List.mem_of_getElem? (i := 587) (by decide +kernel)⟩
theorem lw_p20 : lw_okq (⟨"SubstitutionMachine", "commandSucceeds", "(I)Z"⟩, 12) := ⟨⟨by decide +kernel, by decide +kernel⟩, List.mem_of_getElem? (i := 14) (by decide +kernel), List.mem_of_getElem? (i := 614) (by decide +kernel), List.mem_of_getElem? (i := 615) (by decide +kernel)⟩
theorem lw_p21 : lw_okq (⟨"SubstitutionMachine$Observations", "dropOldest", "()V"⟩, 3) := ⟨⟨by decide +kernel, by decide +kernel⟩, List.mem_of_getElem? (i := 150) (by decide +kernel), List.mem_of_getElem? (i := 626) (by decide +kernel), List.mem_of_getElem? (i := 627) (by decide +kernel)⟩
theorem lw_p22 : lw_okq (⟨"SubstitutionMachine", "observationsHold", "(I)Z"⟩, 12) := ⟨⟨by decide +kernel, by decide +kernel⟩, List.mem_of_getElem? (i := 14) (by decide +kernel), List.mem_of_getElem? (i := 646) (by decide +kernel), List.mem_of_getElem? (i := 647) (by decide +kernel)⟩
theorem lw_p23 : lw_okq (⟨"SubstitutionMachine", "randomStepOnCopy", "()V"⟩, 12) := ⟨⟨by decide +kernel, by decide +kernel⟩, List.mem_of_getElem? (i := 14) (by decide +kernel), List.mem_of_getElem? (i := 668) (by decide +kernel), List.mem_of_getElem? (i := 669) (by decide +kernel)⟩
theorem lw_p24 : lw_okq (⟨"SubstitutionMachineModel", "layDepths", "([III)V"⟩, 23) := ⟨⟨by decide +kernel, by decide +kernel⟩, List.mem_of_getElem? (i := 685) (by decide +kernel), List.mem_of_getElem? (i := 804) (by decide +kernel), List.mem_of_getElem? (i := 805) (by decide +kernel)⟩
theorem lw_p25 : lw_okq (⟨"SubstitutionMachineModel", "contract", "([II)Z"⟩, 23) := ⟨⟨by decide +kernel, by decide +kernel⟩, List.mem_of_getElem? (i := 685) (by decide +kernel), List.mem_of_getElem? (i := 843) (by decide +kernel), List.mem_of_getElem? (i := 844) (by decide +kernel)⟩
theorem lw_p26 : lw_okq (⟨"SubstitutionMachineModel", "put", "(I)Z"⟩, 23) := ⟨⟨by decide +kernel, by decide +kernel⟩, List.mem_of_getElem? (i := 685) (by decide +kernel), List.mem_of_getElem? (i := 847) (by decide +kernel), List.mem_of_getElem? (i := 848) (by decide +kernel)⟩
theorem lw_p27 : lw_okq (⟨"SubstitutionMachineModel", "putShifted", "([IIII)Z"⟩, 23) := ⟨⟨by decide +kernel, by decide +kernel⟩, List.mem_of_getElem? (i := 685) (by decide +kernel), List.mem_of_getElem? (i := 851) (by decide +kernel), List.mem_of_getElem? (i := 852) (by decide +kernel)⟩
theorem lw_p28 : lw_okq (⟨"SubstitutionMachineModel", "commit", "()I"⟩, 23) := ⟨⟨by decide +kernel, by decide +kernel⟩, List.mem_of_getElem? (i := 685) (by decide +kernel), List.mem_of_getElem? (i := 855) (by decide +kernel), List.mem_of_getElem? (i := 856) (by decide +kernel)⟩
theorem lw_p29 : lw_okq (⟨"SubstitutionMachineModel", "remember", "()V"⟩, 23) := ⟨⟨by decide +kernel, by decide +kernel⟩, List.mem_of_getElem? (i := 685) (by decide +kernel), List.mem_of_getElem? (i := 859) (by decide +kernel), List.mem_of_getElem? (i := 860) (by decide +kernel)⟩
theorem lw_p30 : lw_okq (⟨"SubstitutionMachineModel", "runOn", "([III)I"⟩, 23) := ⟨⟨by decide +kernel, by decide +kernel⟩, List.mem_of_getElem? (i := 685) (by decide +kernel), List.mem_of_getElem? (i := 871) (by decide +kernel), List.mem_of_getElem? (i := 872) (by decide +kernel)⟩
theorem lw_p31 : lw_okq (⟨"SubstitutionMachineModel", "putBehind", "(I[I)Z"⟩, 23) := ⟨⟨by decide +kernel, by decide +kernel⟩, List.mem_of_getElem? (i := 685) (by decide +kernel), List.mem_of_getElem? (i := 879) (by decide +kernel), List.mem_of_getElem? (i := 880) (by decide +kernel)⟩
def lw_privs_2 : List (MethodName × Nat) := [(⟨"SubstitutionMachine$Machine", "writeApply", "(I)V"⟩, 4), (⟨"SubstitutionMachine$Machine", "writeAbstract", "(I)V"⟩, 4), (⟨"SubstitutionMachine$Machine", "writeLookup", "(I)V"⟩, 4), (⟨"SubstitutionMachine$Machine", "writeMerge", "(I)V"⟩, 4), (⟨"SubstitutionMachine", "commandSucceeds", "(I)Z"⟩, 12), (⟨"SubstitutionMachine$Observations", "dropOldest", "()V"⟩, 3), (⟨"SubstitutionMachine", "observationsHold", "(I)Z"⟩, 12), (⟨"SubstitutionMachine", "randomStepOnCopy", "()V"⟩, 12), (⟨"SubstitutionMachineModel", "layDepths", "([III)V"⟩, 23), (⟨"SubstitutionMachineModel", "contract", "([II)Z"⟩, 23), (⟨"SubstitutionMachineModel", "put", "(I)Z"⟩, 23), (⟨"SubstitutionMachineModel", "putShifted", "([IIII)Z"⟩, 23), (⟨"SubstitutionMachineModel", "commit", "()I"⟩, 23), (⟨"SubstitutionMachineModel", "remember", "()V"⟩, 23), (⟨"SubstitutionMachineModel", "runOn", "([III)I"⟩, 23), (⟨"SubstitutionMachineModel", "putBehind", "(I[I)Z"⟩, 23)]
theorem lw_r2 : ∀ q ∈ lw_privs_2, lw_okq q := List.forall_mem_cons.mpr ⟨lw_p16, List.forall_mem_cons.mpr ⟨lw_p17, List.forall_mem_cons.mpr ⟨lw_p18, List.forall_mem_cons.mpr ⟨lw_p19, List.forall_mem_cons.mpr ⟨lw_p20, List.forall_mem_cons.mpr ⟨lw_p21, List.forall_mem_cons.mpr ⟨lw_p22, List.forall_mem_cons.mpr ⟨lw_p23, List.forall_mem_cons.mpr ⟨lw_p24, List.forall_mem_cons.mpr ⟨lw_p25, List.forall_mem_cons.mpr ⟨lw_p26, List.forall_mem_cons.mpr ⟨lw_p27, List.forall_mem_cons.mpr ⟨lw_p28, List.forall_mem_cons.mpr ⟨lw_p29, List.forall_mem_cons.mpr ⟨lw_p30, List.forall_mem_cons.mpr ⟨lw_p31, fun _ h => absurd h List.not_mem_nil⟩⟩⟩⟩⟩⟩⟩⟩⟩⟩⟩⟩⟩⟩⟩⟩
theorem lw_p32 : lw_okq (⟨"SubstitutionMachineModel", "takeSlot", "(I[I)V"⟩, 23) := ⟨⟨by decide +kernel, by decide +kernel⟩, List.mem_of_getElem? (i := 685) (by decide +kernel), List.mem_of_getElem? (i := 887) (by decide +kernel), List.mem_of_getElem? (i := 888) (by decide +kernel)⟩
theorem lw_p33 : lw_okq (⟨"SubstitutionMachineModel", "normalize", "([I)Z"⟩, 23) := ⟨⟨by decide +kernel, by decide +kernel⟩, List.mem_of_getElem? (i := 685) (by decide +kernel), List.mem_of_getElem? (i := 913) (by decide +kernel), List.mem_of_getElem? (i := 914) (by decide +kernel)⟩
theorem lw_p34 : lw_okq (⟨"SubstitutionMachineModel", "machine", "(Z)Z"⟩, 23) := ⟨⟨by decide +kernel, by decide +kernel⟩, List.mem_of_getElem? (i := 685) (by decide +kernel), List.mem_of_getElem? (i := 930) (by decide +kernel), List.mem_of_getElem? (i := 931) (by decide +kernel)⟩
theorem lw_p35 : lw_okq (⟨"SubstitutionMachineModel", "ruleAt", "(IZ)I"⟩, 23) := ⟨⟨by decide +kernel, by decide +kernel⟩, List.mem_of_getElem? (i := 685) (by decide +kernel), List.mem_of_getElem? (i := 934) (by decide +kernel), List.mem_of_getElem? (i := 935) (by decide +kernel)⟩
theorem lw_p36 : lw_okq (⟨"SubstitutionMachineModel", "apply", "(II)V"⟩, 23) := ⟨⟨by decide +kernel, by decide +kernel⟩, List.mem_of_getElem? (i := 685) (by decide +kernel), List.mem_of_getElem? (i := 938) (by decide +kernel), List.mem_of_getElem? (i := 939) (by decide +kernel)⟩
theorem lw_p37 : lw_okq (⟨"SubstitutionMachineModel", "addPart", "(II)V"⟩, 23) := ⟨⟨by decide +kernel, by decide +kernel⟩, List.mem_of_getElem? (i := 685) (by decide +kernel), List.mem_of_getElem? (i := 942) (by decide +kernel), List.mem_of_getElem? (i := 943) (by decide +kernel)⟩
theorem lw_p38 : lw_okq (⟨"SubstitutionMachineModel", "add", "(I)V"⟩, 23) := ⟨⟨by decide +kernel, by decide +kernel⟩, List.mem_of_getElem? (i := 685) (by decide +kernel), List.mem_of_getElem? (i := 946) (by decide +kernel), List.mem_of_getElem? (i := 947) (by decide +kernel)⟩
theorem lw_p39 : lw_okq (⟨"SubstitutionMachineModel", "merge", "(IIII)V"⟩, 23) := ⟨⟨by decide +kernel, by decide +kernel⟩, List.mem_of_getElem? (i := 685) (by decide +kernel), List.mem_of_getElem? (i := 952) (by decide +kernel), List.mem_of_getElem? (i := 953) (by decide +kernel)⟩
theorem lw_p40 : lw_okq (⟨"SubstitutionMachineModel", "command", "(III)Z"⟩, 23) := ⟨⟨by decide +kernel, by decide +kernel⟩, List.mem_of_getElem? (i := 685) (by decide +kernel), List.mem_of_getElem? (i := 968) (by decide +kernel), List.mem_of_getElem? (i := 969) (by decide +kernel)⟩
def lw_privs_3 : List (MethodName × Nat) := [(⟨"SubstitutionMachineModel", "takeSlot", "(I[I)V"⟩, 23), (⟨"SubstitutionMachineModel", "normalize", "([I)Z"⟩, 23), (⟨"SubstitutionMachineModel", "machine", "(Z)Z"⟩, 23), (⟨"SubstitutionMachineModel", "ruleAt", "(IZ)I"⟩, 23), (⟨"SubstitutionMachineModel", "apply", "(II)V"⟩, 23), (⟨"SubstitutionMachineModel", "addPart", "(II)V"⟩, 23), (⟨"SubstitutionMachineModel", "add", "(I)V"⟩, 23), (⟨"SubstitutionMachineModel", "merge", "(IIII)V"⟩, 23), (⟨"SubstitutionMachineModel", "command", "(III)Z"⟩, 23)]
theorem lw_r3 : ∀ q ∈ lw_privs_3, lw_okq q := List.forall_mem_cons.mpr ⟨lw_p32, List.forall_mem_cons.mpr ⟨lw_p33, List.forall_mem_cons.mpr ⟨lw_p34, List.forall_mem_cons.mpr ⟨lw_p35, List.forall_mem_cons.mpr ⟨lw_p36, List.forall_mem_cons.mpr ⟨lw_p37, List.forall_mem_cons.mpr ⟨lw_p38, List.forall_mem_cons.mpr ⟨lw_p39, List.forall_mem_cons.mpr ⟨lw_p40, fun _ h => absurd h List.not_mem_nil⟩⟩⟩⟩⟩⟩⟩⟩⟩
def lw_privs : List (MethodName × Nat) := lw_privs_1 ++ (lw_privs_2 ++ (lw_privs_3))
def lw_tbl : List Cond := k2_sels lw_privs ++ tables_1
theorem lw_privs_ok : ∀ q ∈ lw_privs, lw_okq q := by
  show ∀ q ∈ lw_privs_1 ++ (lw_privs_2 ++ (lw_privs_3)), lw_okq q
  exact List.forall_mem_append.mpr ⟨lw_r1, List.forall_mem_append.mpr ⟨lw_r2, lw_r3⟩⟩
-- ===== end of PART A; then your names; then what follows =====
end
section
/-! ===== BEGIN words of one list among another's, by their places ===== -/
theorem goodIn_r {big : List Cond} (ws : List Cond) (ps : List Nat) (hp : ws = ps.filterMap (fun i => big[i]?)) (h : ws.all goodWord = true) : GoodIn big ws := by
  intro w hw
  have h1 := List.all_eq_true.mp h w hw
  rw [hp] at hw
  obtain ⟨i, -, hi⟩ := List.mem_filterMap.mp hw
  have hm : w ∈ big := by first | exact List.mem_of_getElem? hi | exact List.getElem?_mem hi
  exact ⟨hm, good_of_word h1⟩
theorem goodIn_app {big a b : List Cond} (ha : GoodIn big a) (hb : GoodIn big b) : GoodIn big (a ++ b) := fun w h => (List.mem_append.mp h).elim (ha w) (hb w)
theorem goodIn_ca {big a b : List Cond} {c : Cond} (ha : GoodIn big (c :: a)) (hb : GoodIn big b) : GoodIn big (c :: (a ++ b)) := fun w h => (List.mem_cons.mp h).elim (fun e => ha w (List.mem_cons.mpr (Or.inl e))) (fun h => (List.mem_append.mp h).elim (fun h => ha w (List.mem_cons.mpr (Or.inr h))) (hb w))
theorem goodIn_sub {big ws : List Cond} (hm : ∀ w ∈ ws, w ∈ big) (h : ws.all goodWord = true) : GoodIn big ws := fun w hw => ⟨hm w hw, good_of_word (List.all_eq_true.mp h w hw)⟩
/-! ===== END ===== -/

/-! ===== BEGIN new T[n][m]: the outer array a place, the inner ones among the pooled ===== -/
/-- f, but v at every address of l -/
def vr_up {α : Type} (f : Nat → α) (l : List Nat) (v : α) : Nat → α := fun a => if a ∈ l then v else f a
theorem vr_up_in {α : Type} {f : Nat → α} {l : List Nat} {v : α} {a : Nat} (h : a ∈ l) : vr_up f l v a = v := if_pos h
theorem vr_up_ne {α : Type} {f : Nat → α} {l : List Nat} {v : α} {a : Nat} (h : a ∉ l) : vr_up f l v a = f a := if_neg h
theorem vr_rows {L l : List Nat} {f : Nat → va_E} {e : va_E} (h : ∀ a, a ∈ l → a ∉ L) : va_pl L f ++ l.map (fun a => (a, e)) = va_pl (L ++ l) (vr_up f l e) := by
  unfold va_pl
  rw [List.map_append]
  congr 1
  · apply List.map_congr_left
    intro a ha
    rw [vr_up_ne (fun q => h a q ha)]
  · apply List.map_congr_left
    intro a ha
    rw [vr_up_in ha]
theorem vr_lay {X rows : va_W} {x : Nat × va_E} {pl : va_W} {D : va_G} {cl : List vw_C} {H : Heap} (hP : va_P D cl (((X ++ pl) ++ [x]) ++ rows) H) : va_P D cl ((X ++ [x]) ++ (pl ++ rows)) H := by
  rw [List.append_assoc (X ++ pl)] at hP
  have h := va_P.swap hP
  rw [← List.append_assoc X] at h
  have h2 := va_P.swap h
  rw [List.append_assoc (X ++ [x])] at h2
  exact h2
theorem vr_layD {X rows : va_W} {x : Nat × va_E} {pl : va_W} {A : Nat → Prop} (hD : va_D A (((X ++ pl) ++ [x]) ++ rows)) : va_D A ((X ++ [x]) ++ (pl ++ rows)) := by
  rw [List.append_assoc (X ++ pl)] at hD
  have h := va_D.swap hD
  rw [← List.append_assoc X] at h
  have h2 := va_D.swap h
  rw [List.append_assoc (X ++ [x])] at h2
  exact h2
theorem vr_outer (c : ClassId) (N h0 : Nat) : ∀ i : Nat, Jvm.Free.Multi.outerC c N h0 i = arrV c N (fun j => va_rf (if j < i then some (h0 + 1 + j) else none))
  | 0 => by
    show ({ cls := c, slots := Array.replicate N .null, vm := .none } : Cell) = _
    rw [arrV_new]
    refine congrArg (arrV c N) (funext fun j => ?_)
    simp [va_rf]
  | i + 1 => by
    show (Jvm.Free.Multi.outerC c N h0 i).setSlot i (.ref (h0 + 1 + i)) = _
    rw [vr_outer c N h0 i, arrV_store]
    refine congrArg (arrV c N) (funext fun j => ?_)
    by_cases e : j = i
    · subst e
      simp [updV, va_rf]
    · by_cases h : j < i
      · simp [updV, e, h, Nat.lt_succ_of_lt h]
      · simp [updV, e, h, show ¬ j < i + 1 by omega]
def va_AOA (ty : FieldType) (U : State) : Prop := (Cond.arrayOver (.array ty)).before #[] U = true
theorem va_AOA.use {ty : FieldType} {A : Array Value} {U : State} (h : va_AOA ty U) : (Cond.arrayOver (.array ty)).before A U = true := h
section VGM
variable {p : Program} {l : Launch} {e : Env} {R : Room} {s : State} {m : MethodId} {args : Array Value} {below : List Frame} {meth : Method} {c : Code} {H : Heap} {locs : List Loc} {cells slots : Nat} {Q : State → Prop}
variable {cc : ByteArray} {pc : Nat} {ls : Array Slot} {rest : List Value} {D : va_G} {cl : List vw_C} {A : Nat → Prop} {a : Nat} {tys : List (ClassId × FieldType)} {ws : va_W} {H0 : Heap}
theorem va_mna {X : va_W} {L : List Nat} {f : Nat → va_E} {cc : ByteArray} (hexec : p.tables.exec = Jvm.exec) (hb : c.code = cc) {own : String} {index : Nat} {ty : FieldType} {cy : ClassId} (hown : s.vm.findClass own = some m.cls) (hclink : (Cond.classLink own index ("[" ++ (FieldType.array ty).toString)).before args s = true) (hover : va_AOA ty s) (harr : (Cond.arrayClass ty).before args s = true) (hcy : s.vm.findClass (FieldType.array ty).toString = some cy)
    (hK : va_K D cl tys s) (hP : va_P D cl (X ++ va_pl L f) H) (hD : va_D A (X ++ va_pl L f)) (hS : va_S A H0 H locs) (hA : ∀ q, H0.size ≤ q → A q) {n k : Int32} {N' K' : Nat} {z : vp_A} (hn : ¬ n < 0) (hk : ¬ k < 0) (hN : n.toNatClampNeg = N') (hM : k.toNatClampNeg = K')
    (hb1 : N' * 4 ≤ 536870912) (hb2 : K' * componentBytes ty ≤ 536870912) (hb3 : K' ≤ 536870912) (hdf : fits ty (defaultValue ty) = true) (hdd : (defaultValue ty).isDefault = true) (hcells : cells + (1 + N') ≤ R.cells) (hslots : slots + (N' + N' * K') ≤ R.slots) (hz : ∀ c : ClassId, Jvm.Free.Multi.innerC c K' (defaultValue ty) = vp_cell c z) (hdg : decode cc pc = .ok (.multianewarray index 2, 4))
    (kk : ∀ (q : Nat) (r : Nat → Nat) (cA : ClassId) (H1 : Heap), (∀ i j : Nat, i < N' → j < N' → r i = r j → i = j) → (∀ i : Nat, i < N' → r i ∉ L) → va_K D cl (tys ++ [(cA, .array ty)]) s →
      va_P D cl ((X ++ [(q, .inl (cA, N', .inr (.inr (.inr (.inr (fun i => if i < N' then some (r i) else none))))))]) ++ va_pl (L ++ (List.range N').map r) (vr_up f ((List.range N').map r) (.inl (cy, z)))) H1 → va_D A ((X ++ [(q, .inl (cA, N', .inr (.inr (.inr (.inr (fun i => if i < N' then some (r i) else none))))))]) ++ va_pl (L ++ (List.range N').map r) (vr_up f ((List.range N').map r) (.inl (cy, z)))) → va_S A H0 H1 locs →
      W p l e R s m args below meth c H1 locs (cells + 1 + N') (slots + N' + N' * K') Q (F0 m (pc + 4) ls (.ref q :: rest))) : W p l e R s m args below meth c H locs cells slots Q (F0 m pc ls (.int k :: .int n :: rest)) := by
  subst hN
  subst hM
  intro T hT Xs
  obtain ⟨vm₁, cA, comp, -, fA, fC, hO, -, X', step⟩ := Xs.multianewarray2F hexec hown hclink (va_AOA.use hover) harr (g := F0 m pc ls (.int k :: .int n :: rest)) rfl (by rw [hb]; exact hdg) rfl hn hk hb1 hb2 hb3 hdf hdd hcells hslots
  have ec : some cy = some comp := hcy.symm.trans fC
  cases ec
  generalize hF : Jvm.Free.Multi.fill (T.setVm vm₁) cA cy n.toNatClampNeg k.toNatClampNeg (defaultValue ty) n.toNatClampNeg = F at X' step
  have hTh : (T.setVm vm₁).heap = H := hT
  obtain ⟨f1, f2, -, -⟩ := Jvm.Free.Multi.fill_facts (T.setVm vm₁) cA cy n.toNatClampNeg k.toNatClampNeg (defaultValue ty) n.toNatClampNeg
  rw [hF, hTh] at f1 f2
  have hold : ∀ x : Nat, x < H.size → F.heap[x]? = H[x]? := fun x hx => by
    have := Jvm.Free.Multi.fill_old (T.setVm vm₁) cA cy n.toNatClampNeg k.toNatClampNeg (defaultValue ty) (a := x) (by rw [hTh]; exact hx) n.toNatClampNeg
    rw [hF, hTh] at this
    exact this
  have hrow : ∀ j : Nat, j < n.toNatClampNeg → F.heap[H.size + 1 + j]? = some (vp_cell cy z) := fun j hj => by
    have := Jvm.Free.Multi.fill_inner (T.setVm vm₁) cA cy n.toNatClampNeg k.toNatClampNeg (defaultValue ty) n.toNatClampNeg j hj
    rw [hF, hTh, hz] at this
    exact this
  have hout : Jvm.Free.Multi.outerC cA n.toNatClampNeg H.size n.toNatClampNeg = vp_cell cA (n.toNatClampNeg, .inr (.inr (.inr (.inr (fun i => if i < n.toNatClampNeg then some (H.size + 1 + i) else none))))) := by
    rw [vp_cell_q]
    exact vr_outer cA n.toNatClampNeg H.size n.toNatClampNeg
  rw [hout] at f2
  have hlt : ∀ a, a ∈ L → a < H.size := fun a ha => by
    obtain ⟨k9, hk9⟩ := va_pl_get (X := X) (f := f) ha
    exact (hP k9 _ hk9).lt
  have hnl : ∀ i : Nat, i < n.toNatClampNeg → H.size + 1 + i ∉ L := fun i _ h => by
    have := hlt _ h
    omega
  have hnm : ∀ a, a ∈ (List.range n.toNatClampNeg).map (fun i => H.size + 1 + i) → a ∉ L := fun a ha h => by
    obtain ⟨i, -, rfl⟩ := List.mem_map.mp ha
    have := hlt _ h
    omega
  have hP0 : va_P D cl (X ++ va_pl L f) F.heap := hP.kept (fun k9 x hx => hold x.1 ((hP k9 x hx).lt))
  have hP1 : va_P D cl ((X ++ va_pl L f) ++ [(H.size, .inl (cA, n.toNatClampNeg, .inr (.inr (.inr (.inr (fun i => if i < n.toNatClampNeg then some (H.size + 1 + i) else none))))))]) F.heap := hP0.app (fun k9 x hx => by
    have h0 : k9 < 1 := (List.getElem?_eq_some_iff.mp hx).1
    rw [show k9 = 0 by omega] at hx
    cases hx
    exact f2)
  have hP2 : va_P D cl (((X ++ va_pl L f) ++ [(H.size, .inl (cA, n.toNatClampNeg, .inr (.inr (.inr (.inr (fun i => if i < n.toNatClampNeg then some (H.size + 1 + i) else none))))))]) ++ ((List.range n.toNatClampNeg).map (fun i => H.size + 1 + i)).map (fun a => (a, .inl (cy, z)))) F.heap := hP1.app (fun k9 x hx => by
    obtain ⟨a, ha, rfl⟩ := List.mem_map.mp (List.mem_of_getElem? hx)
    obtain ⟨i, hi, rfl⟩ := List.mem_map.mp ha
    exact hrow i (List.mem_range.mp hi))
  have hD2 : va_D A (((X ++ va_pl L f) ++ [(H.size, .inl (cA, n.toNatClampNeg, .inr (.inr (.inr (.inr (fun i => if i < n.toNatClampNeg then some (H.size + 1 + i) else none))))))]) ++ ((List.range n.toNatClampNeg).map (fun i => H.size + 1 + i)).map (fun a => (a, .inl (cy, z)))) := by
    have hD1 := hD.push (e := .inl (cA, n.toNatClampNeg, .inr (.inr (.inr (.inr (fun i => if i < n.toNatClampNeg then some (H.size + 1 + i) else none)))))) hP rfl (hA _ hS.1)
    generalize hW1 : (X ++ va_pl L f) ++ [(H.size, .inl (cA, n.toNatClampNeg, .inr (.inr (.inr (.inr (fun i => if i < n.toNatClampNeg then some (H.size + 1 + i) else none))))))] = W1 at hD1 hP1 ⊢
    have hle : ∀ (k9 : Nat) (x : Nat × va_E), W1[k9]? = some x → x.1 ≤ H.size := fun k9 x hx => by
      rw [← hW1] at hx
      by_cases hl : k9 < (X ++ va_pl L f).length
      · rw [List.getElem?_append_left hl] at hx
        exact Nat.le_of_lt ((hP k9 x hx).lt)
      · rw [List.getElem?_append_right (by omega)] at hx
        have h0 : k9 - (X ++ va_pl L f).length < 1 := (List.getElem?_eq_some_iff.mp hx).1
        rw [show k9 - (X ++ va_pl L f).length = 0 by omega] at hx
        cases hx
        exact Nat.le_refl _
    have hr : ∀ (k9 : Nat) (x : Nat × va_E), (((List.range n.toNatClampNeg).map (fun i => H.size + 1 + i)).map (fun a => ((a, .inl (cy, z)) : Nat × va_E)))[k9]? = some x → x.1 = H.size + 1 + k9 := fun k9 x hx => by
      rw [List.getElem?_map, List.getElem?_map] at hx
      by_cases h9 : k9 < n.toNatClampNeg
      · rw [List.getElem?_range h9] at hx
        cases hx
        rfl
      · have hn0 : (List.range n.toNatClampNeg)[k9]? = none := List.getElem?_eq_none (by rw [List.length_range]; omega)
        rw [hn0] at hx
        cases hx
    refine ⟨fun i j x y hi hj hxy => ?_, fun k9 x hx => ?_⟩
    · by_cases h1 : i < W1.length <;> by_cases h2 : j < W1.length
      · rw [List.getElem?_append_left h1] at hi
        rw [List.getElem?_append_left h2] at hj
        exact hD1.1 i j x y hi hj hxy
      · rw [List.getElem?_append_left h1] at hi
        rw [List.getElem?_append_right (by omega)] at hj
        have := hle _ _ hi
        have := hr _ _ hj
        omega
      · rw [List.getElem?_append_right (by omega)] at hi
        rw [List.getElem?_append_left h2] at hj
        have := hle _ _ hj
        have := hr _ _ hi
        omega
      · rw [List.getElem?_append_right (by omega)] at hi hj
        have := hr _ _ hi
        have := hr _ _ hj
        omega
    · by_cases h1 : k9 < W1.length
      · rw [List.getElem?_append_left h1] at hx
        exact hD1.2 k9 x hx
      · rw [List.getElem?_append_right (by omega)] at hx
        have := hr _ _ hx
        exact hA _ (by have := hS.1; omega)
  have hAr : ArrOfT s cA (.array ty) := fun N9 z9 => by
    obtain ⟨-, k9, hk9, cm9, hkk9⟩ := (hO 0 0 0).1
    exact ⟨(fun q hq => by cases hq), k9, hk9, cm9, hkk9⟩
  have hK2 : va_K D cl (tys ++ [(cA, .array ty)]) s := ⟨hK.1, fun k9 x hx => by
    by_cases hl : k9 < tys.length
    · rw [List.getElem?_append_left hl] at hx
      exact hK.2 k9 x hx
    · rw [List.getElem?_append_right (by omega)] at hx
      have h0 : k9 - tys.length < 1 := (List.getElem?_eq_some_iff.mp hx).1
      rw [show k9 - tys.length = 0 by omega] at hx
      cases hx
      exact ⟨hAr, fA⟩⟩
  obtain ⟨t, a1, b1⟩ := kk H.size (fun i => H.size + 1 + i) cA F.heap (fun i j _ _ h => by have h9 : H.size + 1 + i = H.size + 1 + j := h; omega) hnl hK2 (by rw [← vr_rows hnm]; exact vr_lay hP2) (by rw [← vr_rows hnm]; exact vr_layD hD2) ⟨by rw [f1]; have := hS.1; omega, fun x h1 h2 => (hold x (Nat.lt_of_lt_of_le h1 hS.1)).trans (hS.2.1 x h1 h2), hS.2.2⟩ F rfl X'
  refine ⟨t, step t ?_, b1⟩
  have e : T.heap.size = H.size := by rw [hT]
  rw [e]
  exact a1
end VGM
/-! ===== END ===== -/

/-! ===== BEGIN printed: names, fields, word lists, decode rows ===== -/
def RX0 : String := "SubstitutionMachine$Extended"
def TX0 : u_T := fun k => match k with
  | 0 => ("SubstitutionMachine$Extended", "tokens", "[I", true)
  | 1 => ("SubstitutionMachine$Extended", "entries", "[I", true)
  | 2 => ("SubstitutionMachine$Extended", "shifts", "[I", true)
  | 3 => ("SubstitutionMachine$Extended", "length", "I", false)
  | _ => ("SubstitutionMachine$Extended", "tooLarge", "Z", false)
def tyX0 : Nat → FieldType := fun k => match k with
  | 0 => .array .int
  | 1 => .array .int
  | 2 => .array .int
  | 3 => .int
  | _ => .boolean
abbrev wsX00 : List Cond := u_ws RX0 TX0 5
theorem nmX0 : ∀ a, a < 5 → ∀ b, b < 5 → a ≠ b → (TX0 a).2.1 ≠ (TX0 b).2.1 := by decide +kernel
theorem tyX0_ok : ∀ k, k < 5 → parseFieldDescriptor (TX0 k).2.2.1 = some (tyX0 k) := by decide +kernel
abbrev cX0_init : ByteArray := prog_2_method_1_code
def yX0_init : MethodName := ⟨RX0, "<init>", "()V"⟩
abbrev cX0_length : ByteArray := prog_2_method_2_code
def yX0_length : MethodName := ⟨RX0, "length", "()I"⟩
abbrev cX0_isTooLarge : ByteArray := prog_2_method_3_code
def yX0_isTooLarge : MethodName := ⟨RX0, "isTooLarge", "()Z"⟩
abbrev cX0_token : ByteArray := prog_2_method_4_code
def yX0_token : MethodName := ⟨RX0, "token", "(I)I"⟩
abbrev cX0_entriesAt : ByteArray := prog_2_method_5_code
def yX0_entriesAt : MethodName := ⟨RX0, "entriesAt", "(I)I"⟩
abbrev cX0_shiftAt : ByteArray := prog_2_method_6_code
def yX0_shiftAt : MethodName := ⟨RX0, "shiftAt", "(I)I"⟩
abbrev cX0_clear : ByteArray := prog_2_method_7_code
def yX0_clear : MethodName := ⟨RX0, "clear", "()V"⟩
abbrev cX0_add : ByteArray := prog_2_method_8_code
def yX0_add : MethodName := ⟨RX0, "add", "(I)V"⟩
abbrev cX0_addClosure : ByteArray := prog_2_method_9_code
def yX0_addClosure : MethodName := ⟨RX0, "addClosure", "(II)V"⟩
abbrev cX0_put : ByteArray := prog_2_method_10_code
def yX0_put : MethodName := ⟨RX0, "put", "(III)V"⟩
abbrev cX0_addRange : ByteArray := prog_2_method_11_code
def yX0_addRange : MethodName := ⟨RX0, "addRange", "(LSubstitutionMachine$Extended;II)V"⟩
abbrev cX0_behind : ByteArray := prog_2_method_12_code
def yX0_behind : MethodName := ⟨RX0, "behind", "(II)I"⟩
def RX1 : String := "SubstitutionMachine$History"
def TX1 : u_T := fun k => match k with
  | 0 => ("SubstitutionMachine$History", "rows", "[[I", true)
  | 1 => ("SubstitutionMachine$History", "lengths", "[I", true)
  | 2 => ("SubstitutionMachine$History", "count", "I", false)
  | _ => ("SubstitutionMachine$History", "place", "I", false)
def tyX1 : Nat → FieldType := fun k => match k with
  | 0 => .array (.array .int)
  | 1 => .array .int
  | 2 => .int
  | _ => .int
abbrev wsX10 : List Cond := u_ws RX1 TX1 4
theorem nmX1 : ∀ a, a < 4 → ∀ b, b < 4 → a ≠ b → (TX1 a).2.1 ≠ (TX1 b).2.1 := by decide +kernel
theorem tyX1_ok : ∀ k, k < 4 → parseFieldDescriptor (TX1 k).2.2.1 = some (tyX1 k) := by decide +kernel
abbrev cX1_init : ByteArray := prog_3_method_1_code
def yX1_init : MethodName := ⟨RX1, "<init>", "()V"⟩
abbrev cX1_count : ByteArray := prog_3_method_2_code
def yX1_count : MethodName := ⟨RX1, "count", "()I"⟩
abbrev cX1_forgetAll : ByteArray := prog_3_method_3_code
def yX1_forgetAll : MethodName := ⟨RX1, "forgetAll", "()V"⟩
abbrev cX1_remember : ByteArray := prog_3_method_4_code
def yX1_remember : MethodName := ⟨RX1, "remember", "(LSubstitutionMachine$Term;)V"⟩
abbrev cX1_takeBack : ByteArray := prog_3_method_5_code
def yX1_takeBack : MethodName := ⟨RX1, "takeBack", "(LSubstitutionMachine$Term;)Z"⟩
def RX2 : String := "SubstitutionMachine$Machine"
def TX2 : u_T := fun k => match k with
  | 0 => ("SubstitutionMachine$Machine", "present", "LSubstitutionMachine$Extended;", false)
  | 1 => ("SubstitutionMachine$Machine", "next", "LSubstitutionMachine$Extended;", false)
  | 2 => ("SubstitutionMachine$Machine", "applied", "[I", true)
  | _ => ("SubstitutionMachine$Machine", "peak", "I", false)
def tyX2 : Nat → FieldType := fun k => match k with
  | 0 => .object "SubstitutionMachine$Extended"
  | 1 => .object "SubstitutionMachine$Extended"
  | 2 => .array .int
  | _ => .int
abbrev wsX20 : List Cond := u_ws RX2 TX2 4
theorem nmX2 : ∀ a, a < 4 → ∀ b, b < 4 → a ≠ b → (TX2 a).2.1 ≠ (TX2 b).2.1 := by decide +kernel
theorem tyX2_ok : ∀ k, k < 4 → parseFieldDescriptor (TX2 k).2.2.1 = some (tyX2 k) := by decide +kernel
abbrev cX2_init : ByteArray := prog_4_method_1_code
def yX2_init : MethodName := ⟨RX2, "<init>", "()V"⟩
abbrev cX2_peak : ByteArray := prog_4_method_2_code
def yX2_peak : MethodName := ⟨RX2, "peak", "()I"⟩
abbrev cX2_applications : ByteArray := prog_4_method_3_code
def yX2_applications : MethodName := ⟨RX2, "applications", "(I)I"⟩
abbrev cX2_work : ByteArray := prog_4_method_4_code
def yX2_work : MethodName := ⟨RX2, "work", "(LSubstitutionMachine$Term;Z)Z"⟩
abbrev cX2_start : ByteArray := prog_4_method_5_code
def yX2_start : MethodName := ⟨RX2, "start", "(LSubstitutionMachine$Term;)V"⟩
abbrev cX2_firstPlace : ByteArray := prog_4_method_6_code
def yX2_firstPlace : MethodName := ⟨RX2, "firstPlace", "(Z)I"⟩
abbrev cX2_ruleAt : ByteArray := prog_4_method_7_code
def yX2_ruleAt : MethodName := ⟨RX2, "ruleAt", "(IZ)I"⟩
abbrev cX2_rewrite : ByteArray := prog_4_method_8_code
def yX2_rewrite : MethodName := ⟨RX2, "rewrite", "(II)V"⟩
abbrev cX2_writeBeta : ByteArray := prog_4_method_9_code
def yX2_writeBeta : MethodName := ⟨RX2, "writeBeta", "(I)V"⟩
abbrev cX2_writeApply : ByteArray := prog_4_method_10_code
def yX2_writeApply : MethodName := ⟨RX2, "writeApply", "(I)V"⟩
abbrev cX2_writeAbstract : ByteArray := prog_4_method_11_code
def yX2_writeAbstract : MethodName := ⟨RX2, "writeAbstract", "(I)V"⟩
abbrev cX2_writeLookup : ByteArray := prog_4_method_12_code
def yX2_writeLookup : MethodName := ⟨RX2, "writeLookup", "(I)V"⟩
abbrev cX2_writeMerge : ByteArray := prog_4_method_13_code
def yX2_writeMerge : MethodName := ⟨RX2, "writeMerge", "(I)V"⟩
def RX3 : String := "SubstitutionMachine$Observations"
def TX3 : u_T := fun k => match k with
  | 0 => ("SubstitutionMachine$Observations", "limits", "[I", true)
  | 1 => ("SubstitutionMachine$Observations", "values", "[I", true)
  | _ => ("SubstitutionMachine$Observations", "count", "I", false)
def tyX3 : Nat → FieldType := fun k => match k with
  | 0 => .array .int
  | 1 => .array .int
  | _ => .int
abbrev wsX30 : List Cond := u_ws RX3 TX3 3
theorem nmX3 : ∀ a, a < 3 → ∀ b, b < 3 → a ≠ b → (TX3 a).2.1 ≠ (TX3 b).2.1 := by decide +kernel
theorem tyX3_ok : ∀ k, k < 3 → parseFieldDescriptor (TX3 k).2.2.1 = some (tyX3 k) := by decide +kernel
abbrev cX3_init : ByteArray := prog_5_method_1_code
def yX3_init : MethodName := ⟨RX3, "<init>", "()V"⟩
abbrev cX3_count : ByteArray := prog_5_method_2_code
def yX3_count : MethodName := ⟨RX3, "count", "()I"⟩
abbrev cX3_add : ByteArray := prog_5_method_3_code
def yX3_add : MethodName := ⟨RX3, "add", "(II)V"⟩
abbrev cX3_dropOldest : ByteArray := prog_5_method_4_code
def yX3_dropOldest : MethodName := ⟨RX3, "dropOldest", "()V"⟩
abbrev cX3_keepUpTo : ByteArray := prog_5_method_5_code
def yX3_keepUpTo : MethodName := ⟨RX3, "keepUpTo", "(I)V"⟩
abbrev cX3_greatestLimit : ByteArray := prog_5_method_6_code
def yX3_greatestLimit : MethodName := ⟨RX3, "greatestLimit", "()I"⟩
abbrev cX3_allow : ByteArray := prog_5_method_7_code
def yX3_allow : MethodName := ⟨RX3, "allow", "(II)Z"⟩
def RX4 : String := "SubstitutionMachine$Outline"
def TX4 : u_T := fun k => match k with
  | 0 => ("SubstitutionMachine$Outline", "ends", "[I", true)
  | 1 => ("SubstitutionMachine$Outline", "depths", "[I", true)
  | _ => ("SubstitutionMachine$Outline", "length", "I", false)
def tyX4 : Nat → FieldType := fun k => match k with
  | 0 => .array .int
  | 1 => .array .int
  | _ => .int
abbrev wsX40 : List Cond := u_ws RX4 TX4 3
theorem nmX4 : ∀ a, a < 3 → ∀ b, b < 3 → a ≠ b → (TX4 a).2.1 ≠ (TX4 b).2.1 := by decide +kernel
theorem tyX4_ok : ∀ k, k < 3 → parseFieldDescriptor (TX4 k).2.2.1 = some (tyX4 k) := by decide +kernel
abbrev cX4_init : ByteArray := prog_6_method_1_code
def yX4_init : MethodName := ⟨RX4, "<init>", "()V"⟩
abbrev cX4_measure : ByteArray := prog_6_method_2_code
def yX4_measure : MethodName := ⟨RX4, "measure", "(LSubstitutionMachine$Term;)V"⟩
abbrev cX4_endAt : ByteArray := prog_6_method_3_code
def yX4_endAt : MethodName := ⟨RX4, "endAt", "(I)I"⟩
abbrev cX4_depthAt : ByteArray := prog_6_method_4_code
def yX4_depthAt : MethodName := ⟨RX4, "depthAt", "(I)I"⟩
abbrev cX4_measureEnds : ByteArray := prog_6_method_5_code
def yX4_measureEnds : MethodName := ⟨RX4, "measureEnds", "(LSubstitutionMachine$Term;)V"⟩
abbrev cX4_measureDepths : ByteArray := prog_6_method_6_code
def yX4_measureDepths : MethodName := ⟨RX4, "measureDepths", "(LSubstitutionMachine$Term;)V"⟩
abbrev cX4_setDepth : ByteArray := prog_6_method_7_code
def yX4_setDepth : MethodName := ⟨RX4, "setDepth", "(II)V"⟩
def RX5 : String := "SubstitutionMachine$Reducer"
def TX5 : u_T := fun k => match k with
  | 0 => ("SubstitutionMachine$Reducer", "outline", "LSubstitutionMachine$Outline;", true)
  | 1 => ("SubstitutionMachine$Reducer", "insertedOutline", "LSubstitutionMachine$Outline;", true)
  | _ => ("SubstitutionMachine$Reducer", "result", "LSubstitutionMachine$Term;", true)
def tyX5 : Nat → FieldType := fun k => match k with
  | 0 => .object "SubstitutionMachine$Outline"
  | 1 => .object "SubstitutionMachine$Outline"
  | _ => .object "SubstitutionMachine$Term"
abbrev wsX50 : List Cond := u_ws RX5 TX5 3
theorem nmX5 : ∀ a, a < 3 → ∀ b, b < 3 → a ≠ b → (TX5 a).2.1 ≠ (TX5 b).2.1 := by decide +kernel
theorem tyX5_ok : ∀ k, k < 3 → parseFieldDescriptor (TX5 k).2.2.1 = some (tyX5 k) := by decide +kernel
abbrev cX5_init : ByteArray := prog_7_method_1_code
def yX5_init : MethodName := ⟨RX5, "<init>", "()V"⟩
abbrev cX5_isRedex : ByteArray := prog_7_method_2_code
def yX5_isRedex : MethodName := ⟨RX5, "isRedex", "(LSubstitutionMachine$Term;I)Z"⟩
abbrev cX5_countRedexes : ByteArray := prog_7_method_3_code
def yX5_countRedexes : MethodName := ⟨RX5, "countRedexes", "(LSubstitutionMachine$Term;)I"⟩
abbrev cX5_nextRedex : ByteArray := prog_7_method_4_code
def yX5_nextRedex : MethodName := ⟨RX5, "nextRedex", "(LSubstitutionMachine$Term;I)I"⟩
abbrev cX5_numberedRedex : ByteArray := prog_7_method_5_code
def yX5_numberedRedex : MethodName := ⟨RX5, "numberedRedex", "(LSubstitutionMachine$Term;I)I"⟩
abbrev cX5_choose : ByteArray := prog_7_method_6_code
def yX5_choose : MethodName := ⟨RX5, "choose", "(LSubstitutionMachine$Term;I)I"⟩
abbrev cX5_leftmostInnermost : ByteArray := prog_7_method_7_code
def yX5_leftmostInnermost : MethodName := ⟨RX5, "leftmostInnermost", "(LSubstitutionMachine$Term;)I"⟩
abbrev cX5_lastRedex : ByteArray := prog_7_method_8_code
def yX5_lastRedex : MethodName := ⟨RX5, "lastRedex", "(LSubstitutionMachine$Term;)I"⟩
abbrev cX5_weakHead : ByteArray := prog_7_method_9_code
def yX5_weakHead : MethodName := ⟨RX5, "weakHead", "(LSubstitutionMachine$Term;)I"⟩
abbrev cX5_perform : ByteArray := prog_7_method_10_code
def yX5_perform : MethodName := ⟨RX5, "perform", "(LSubstitutionMachine$Term;II)I"⟩
abbrev cX5_contract : ByteArray := prog_7_method_11_code
def yX5_contract : MethodName := ⟨RX5, "contract", "(LSubstitutionMachine$Term;I)Z"⟩
abbrev cX5_addContracted : ByteArray := prog_7_method_12_code
def yX5_addContracted : MethodName := ⟨RX5, "addContracted", "(LSubstitutionMachine$Term;III)V"⟩
abbrev cX5_replaceFree : ByteArray := prog_7_method_13_code
def yX5_replaceFree : MethodName := ⟨RX5, "replaceFree", "(LSubstitutionMachine$Term;ILSubstitutionMachine$Term;)Z"⟩
abbrev cX5_addShifted : ByteArray := prog_7_method_14_code
def yX5_addShifted : MethodName := ⟨RX5, "addShifted", "(LSubstitutionMachine$Term;LSubstitutionMachine$Outline;III)V"⟩
abbrev cX5_takeResult : ByteArray := prog_7_method_15_code
def yX5_takeResult : MethodName := ⟨RX5, "takeResult", "(LSubstitutionMachine$Term;)Z"⟩
def RX6 : String := "SubstitutionMachine$Term"
def TX6 : u_T := fun k => match k with
  | 0 => ("SubstitutionMachine$Term", "tokens", "[I", true)
  | 1 => ("SubstitutionMachine$Term", "length", "I", false)
  | _ => ("SubstitutionMachine$Term", "tooLarge", "Z", false)
def tyX6 : Nat → FieldType := fun k => match k with
  | 0 => .array .int
  | 1 => .int
  | _ => .boolean
abbrev wsX60 : List Cond := u_ws RX6 TX6 3
theorem nmX6 : ∀ a, a < 3 → ∀ b, b < 3 → a ≠ b → (TX6 a).2.1 ≠ (TX6 b).2.1 := by decide +kernel
theorem tyX6_ok : ∀ k, k < 3 → parseFieldDescriptor (TX6 k).2.2.1 = some (tyX6 k) := by decide +kernel
abbrev cX6_init : ByteArray := prog_8_method_1_code
def yX6_init : MethodName := ⟨RX6, "<init>", "()V"⟩
abbrev cX6_length : ByteArray := prog_8_method_2_code
def yX6_length : MethodName := ⟨RX6, "length", "()I"⟩
abbrev cX6_isTooLarge : ByteArray := prog_8_method_3_code
def yX6_isTooLarge : MethodName := ⟨RX6, "isTooLarge", "()Z"⟩
abbrev cX6_has : ByteArray := prog_8_method_4_code
def yX6_has : MethodName := ⟨RX6, "has", "(I)Z"⟩
abbrev cX6_token : ByteArray := prog_8_method_5_code
def yX6_token : MethodName := ⟨RX6, "token", "(I)I"⟩
abbrev cX6_clear : ByteArray := prog_8_method_6_code
def yX6_clear : MethodName := ⟨RX6, "clear", "()V"⟩
abbrev cX6_add : ByteArray := prog_8_method_7_code
def yX6_add : MethodName := ⟨RX6, "add", "(I)V"⟩
abbrev cX6_addRange : ByteArray := prog_8_method_8_code
def yX6_addRange : MethodName := ⟨RX6, "addRange", "(LSubstitutionMachine$Term;II)V"⟩
abbrev cX6_copyFrom : ByteArray := prog_8_method_9_code
def yX6_copyFrom : MethodName := ⟨RX6, "copyFrom", "(LSubstitutionMachine$Term;)V"⟩
abbrev cX6_wrapInAbstraction : ByteArray := prog_8_method_10_code
def yX6_wrapInAbstraction : MethodName := ⟨RX6, "wrapInAbstraction", "()Z"⟩
abbrev cX6_hasSameTokens : ByteArray := prog_8_method_11_code
def yX6_hasSameTokens : MethodName := ⟨RX6, "hasSameTokens", "(LSubstitutionMachine$Term;)Z"⟩
def RX7 : String := "SubstitutionMachine$TermText"
def TX7 : u_T := fun k => match k with
  | 0 => ("SubstitutionMachine$TermText", "codes", "[I", true)
  | _ => ("SubstitutionMachine$TermText", "length", "I", false)
def tyX7 : Nat → FieldType := fun k => match k with
  | 0 => .array .int
  | _ => .int
abbrev wsX70 : List Cond := u_ws RX7 TX7 2
theorem nmX7 : ∀ a, a < 2 → ∀ b, b < 2 → a ≠ b → (TX7 a).2.1 ≠ (TX7 b).2.1 := by decide +kernel
theorem tyX7_ok : ∀ k, k < 2 → parseFieldDescriptor (TX7 k).2.2.1 = some (tyX7 k) := by decide +kernel
abbrev cX7_init : ByteArray := prog_9_method_1_code
def yX7_init : MethodName := ⟨RX7, "<init>", "()V"⟩
abbrev cX7_length : ByteArray := prog_9_method_2_code
def yX7_length : MethodName := ⟨RX7, "length", "()I"⟩
abbrev cX7_put : ByteArray := prog_9_method_3_code
def yX7_put : MethodName := ⟨RX7, "put", "(I)Z"⟩
abbrev cX7_clear : ByteArray := prog_9_method_4_code
def yX7_clear : MethodName := ⟨RX7, "clear", "()V"⟩
abbrev cX7_firstError : ByteArray := prog_9_method_5_code
def yX7_firstError : MethodName := ⟨RX7, "firstError", "()I"⟩
abbrev cX7_writeTo : ByteArray := prog_9_method_6_code
def yX7_writeTo : MethodName := ⟨RX7, "writeTo", "(LSubstitutionMachine$Term;)V"⟩
abbrev cX7_tokenOf : ByteArray := prog_9_method_7_code
def yX7_tokenOf : MethodName := ⟨RX7, "tokenOf", "(I)I"⟩
def RX8 : String := "SubstitutionMachine"
def TX8 : u_T := fun k => match k with
  | 0 => ("SubstitutionMachine", "term", "LSubstitutionMachine$Term;", true)
  | 1 => ("SubstitutionMachine", "copy", "LSubstitutionMachine$Term;", true)
  | 2 => ("SubstitutionMachine", "trial", "LSubstitutionMachine$Term;", true)
  | 3 => ("SubstitutionMachine", "firstSlot", "LSubstitutionMachine$Term;", true)
  | 4 => ("SubstitutionMachine", "secondSlot", "LSubstitutionMachine$Term;", true)
  | 5 => ("SubstitutionMachine", "outline", "LSubstitutionMachine$Outline;", true)
  | 6 => ("SubstitutionMachine", "reducer", "LSubstitutionMachine$Reducer;", true)
  | 7 => ("SubstitutionMachine", "machine", "LSubstitutionMachine$Machine;", true)
  | 8 => ("SubstitutionMachine", "history", "LSubstitutionMachine$History;", true)
  | 9 => ("SubstitutionMachine", "text", "LSubstitutionMachine$TermText;", true)
  | 10 => ("SubstitutionMachine", "observations", "LSubstitutionMachine$Observations;", true)
  | _ => ("SubstitutionMachine", "randomSeed", "J", false)
def tyX8 : Nat → FieldType := fun k => match k with
  | 0 => .object "SubstitutionMachine$Term"
  | 1 => .object "SubstitutionMachine$Term"
  | 2 => .object "SubstitutionMachine$Term"
  | 3 => .object "SubstitutionMachine$Term"
  | 4 => .object "SubstitutionMachine$Term"
  | 5 => .object "SubstitutionMachine$Outline"
  | 6 => .object "SubstitutionMachine$Reducer"
  | 7 => .object "SubstitutionMachine$Machine"
  | 8 => .object "SubstitutionMachine$History"
  | 9 => .object "SubstitutionMachine$TermText"
  | 10 => .object "SubstitutionMachine$Observations"
  | _ => .long
abbrev wsX80 : List Cond := u_ws RX8 TX8 12
theorem nmX8 : ∀ a, a < 12 → ∀ b, b < 12 → a ≠ b → (TX8 a).2.1 ≠ (TX8 b).2.1 := by decide +kernel
theorem tyX8_ok : ∀ k, k < 12 → parseFieldDescriptor (TX8 k).2.2.1 = some (tyX8 k) := by decide +kernel
abbrev cX8_init : ByteArray := prog_1_method_1_code
def yX8_init : MethodName := ⟨RX8, "<init>", "()V"⟩
abbrev cX8_append : ByteArray := prog_1_method_2_code
def yX8_append : MethodName := ⟨RX8, "append", "(I)I"⟩
abbrev cX8_clearText : ByteArray := prog_1_method_3_code
def yX8_clearText : MethodName := ⟨RX8, "clearText", "()I"⟩
abbrev cX8_errorPosition : ByteArray := prog_1_method_4_code
def yX8_errorPosition : MethodName := ⟨RX8, "errorPosition", "()I"⟩
abbrev cX8_load : ByteArray := prog_1_method_5_code
def yX8_load : MethodName := ⟨RX8, "load", "()I"⟩
abbrev cX8_size : ByteArray := prog_1_method_6_code
def yX8_size : MethodName := ⟨RX8, "size", "()I"⟩
abbrev cX8_tokenAt : ByteArray := prog_1_method_7_code
def yX8_tokenAt : MethodName := ⟨RX8, "tokenAt", "(I)I"⟩
abbrev cX8_nameAt : ByteArray := prog_1_method_8_code
def yX8_nameAt : MethodName := ⟨RX8, "nameAt", "(I)I"⟩
abbrev cX8_redexCount : ByteArray := prog_1_method_9_code
def yX8_redexCount : MethodName := ⟨RX8, "redexCount", "()I"⟩
abbrev cX8_chosenRedex : ByteArray := prog_1_method_10_code
def yX8_chosenRedex : MethodName := ⟨RX8, "chosenRedex", "(I)I"⟩
abbrev cX8_freeVariables : ByteArray := prog_1_method_11_code
def yX8_freeVariables : MethodName := ⟨RX8, "freeVariables", "()I"⟩
abbrev cX8_step : ByteArray := prog_1_method_12_code
def yX8_step : MethodName := ⟨RX8, "step", "(I)I"⟩
abbrev cX8_run : ByteArray := prog_1_method_13_code
def yX8_run : MethodName := ⟨RX8, "run", "(II)I"⟩
abbrev cX8_abstractTerm : ByteArray := prog_1_method_14_code
def yX8_abstractTerm : MethodName := ⟨RX8, "abstractTerm", "()I"⟩
abbrev cX8_applyTo : ByteArray := prog_1_method_15_code
def yX8_applyTo : MethodName := ⟨RX8, "applyTo", "(I)I"⟩
abbrev cX8_substitute : ByteArray := prog_1_method_16_code
def yX8_substitute : MethodName := ⟨RX8, "substitute", "(II)I"⟩
abbrev cX8_undo : ByteArray := prog_1_method_17_code
def yX8_undo : MethodName := ⟨RX8, "undo", "()I"⟩
abbrev cX8_stepsOfRun : ByteArray := prog_1_method_18_code
def yX8_stepsOfRun : MethodName := ⟨RX8, "stepsOfRun", "(II)I"⟩
abbrev cX8_sizeAfterRun : ByteArray := prog_1_method_19_code
def yX8_sizeAfterRun : MethodName := ⟨RX8, "sizeAfterRun", "(II)I"⟩
abbrev cX8_normalSize : ByteArray := prog_1_method_20_code
def yX8_normalSize : MethodName := ⟨RX8, "normalSize", "()I"⟩
abbrev cX8_normalTokenAt : ByteArray := prog_1_method_21_code
def yX8_normalTokenAt : MethodName := ⟨RX8, "normalTokenAt", "(I)I"⟩
abbrev cX8_isEquivalent : ByteArray := prog_1_method_22_code
def yX8_isEquivalent : MethodName := ⟨RX8, "isEquivalent", "(I)I"⟩
abbrev cX8_machineSteps : ByteArray := prog_1_method_23_code
def yX8_machineSteps : MethodName := ⟨RX8, "machineSteps", "(II)I"⟩
abbrev cX8_machinePeak : ByteArray := prog_1_method_24_code
def yX8_machinePeak : MethodName := ⟨RX8, "machinePeak", "(I)I"⟩
abbrev cX8_runScript : ByteArray := prog_1_method_25_code
def yX8_runScript : MethodName := ⟨RX8, "runScript", "(IJ)I"⟩
abbrev cX8_observe : ByteArray := prog_1_method_26_code
def yX8_observe : MethodName := ⟨RX8, "observe", "(II)I"⟩
abbrev cX8_forgetAfter : ByteArray := prog_1_method_27_code
def yX8_forgetAfter : MethodName := ⟨RX8, "forgetAfter", "(I)I"⟩
abbrev cX8_possibleStrategies : ByteArray := prog_1_method_28_code
def yX8_possibleStrategies : MethodName := ⟨RX8, "possibleStrategies", "()I"⟩
abbrev cX8_setSeed : ByteArray := prog_1_method_29_code
def yX8_setSeed : MethodName := ⟨RX8, "setSeed", "(J)J"⟩
abbrev cX8_randomReduction : ByteArray := prog_1_method_30_code
def yX8_randomReduction : MethodName := ⟨RX8, "randomReduction", "(I)I"⟩
abbrev cX8_save : ByteArray := prog_1_method_31_code
def yX8_save : MethodName := ⟨RX8, "save", "(I)I"⟩
abbrev cX8_restore : ByteArray := prog_1_method_32_code
def yX8_restore : MethodName := ⟨RX8, "restore", "(I)I"⟩
abbrev cX8_isVariable : ByteArray := prog_1_method_33_code
def yX8_isVariable : MethodName := ⟨RX8, "isVariable", "(I)Z"⟩
abbrev cX8_parts : ByteArray := prog_1_method_34_code
def yX8_parts : MethodName := ⟨RX8, "parts", "(I)I"⟩
abbrev cX8_isStrategy : ByteArray := prog_1_method_35_code
def yX8_isStrategy : MethodName := ⟨RX8, "isStrategy", "(I)Z"⟩
abbrev cX8_isSlot : ByteArray := prog_1_method_36_code
def yX8_isSlot : MethodName := ⟨RX8, "isSlot", "(I)Z"⟩
abbrev cX8_isPrediction : ByteArray := prog_1_method_37_code
def yX8_isPrediction : MethodName := ⟨RX8, "isPrediction", "(II)Z"⟩
abbrev cX8_slotTerm : ByteArray := prog_1_method_38_code
def yX8_slotTerm : MethodName := ⟨RX8, "slotTerm", "(I)LSubstitutionMachine$Term;"⟩
abbrev cX8_actWithCopy : ByteArray := prog_1_method_39_code
def yX8_actWithCopy : MethodName := ⟨RX8, "actWithCopy", "()I"⟩
abbrev cX8_performOnCopy : ByteArray := prog_1_method_40_code
def yX8_performOnCopy : MethodName := ⟨RX8, "performOnCopy", "(II)I"⟩
abbrev cX8_normaliseInto : ByteArray := prog_1_method_41_code
def yX8_normaliseInto : MethodName := ⟨RX8, "normaliseInto", "(LSubstitutionMachine$Term;LSubstitutionMachine$Term;)Z"⟩
abbrev cX8_withoutLowGroups : ByteArray := prog_1_method_42_code
def yX8_withoutLowGroups : MethodName := ⟨RX8, "withoutLowGroups", "(JI)J"⟩
abbrev cX8_commandSucceeds : ByteArray := prog_1_method_43_code
def yX8_commandSucceeds : MethodName := ⟨RX8, "commandSucceeds", "(I)Z"⟩
abbrev cX8_observationsHold : ByteArray := prog_1_method_44_code
def yX8_observationsHold : MethodName := ⟨RX8, "observationsHold", "(I)Z"⟩
abbrev cX8_randomStepOnCopy : ByteArray := prog_1_method_45_code
def yX8_randomStepOnCopy : MethodName := ⟨RX8, "randomStepOnCopy", "()V"⟩
def RX9 : String := "SubstitutionMachineModel"
def TX9 : u_T := fun k => match k with
  | 0 => ("SubstitutionMachineModel", "thrown", "I", false)
  | 1 => ("SubstitutionMachineModel", "text", "[I", true)
  | 2 => ("SubstitutionMachineModel", "textSize", "I", false)
  | 3 => ("SubstitutionMachineModel", "term", "[I", true)
  | 4 => ("SubstitutionMachineModel", "work", "[I", true)
  | 5 => ("SubstitutionMachineModel", "other", "[I", true)
  | 6 => ("SubstitutionMachineModel", "out", "[I", true)
  | 7 => ("SubstitutionMachineModel", "history", "[I", true)
  | 8 => ("SubstitutionMachineModel", "remembered", "I", false)
  | 9 => ("SubstitutionMachineModel", "slots", "[I", true)
  | 10 => ("SubstitutionMachineModel", "slotUsed", "[Z", true)
  | 11 => ("SubstitutionMachineModel", "observed", "I", false)
  | 12 => ("SubstitutionMachineModel", "observedLimit", "[I", true)
  | 13 => ("SubstitutionMachineModel", "observedSize", "[I", true)
  | 14 => ("SubstitutionMachineModel", "seed", "J", false)
  | 15 => ("SubstitutionMachineModel", "depths", "[I", true)
  | 16 => ("SubstitutionMachineModel", "open", "[I", true)
  | 17 => ("SubstitutionMachineModel", "binds", "[Z", true)
  | 18 => ("SubstitutionMachineModel", "wide", "[I", true)
  | 19 => ("SubstitutionMachineModel", "next", "[I", true)
  | 20 => ("SubstitutionMachineModel", "tooWide", "Z", false)
  | 21 => ("SubstitutionMachineModel", "applied", "[I", true)
  | _ => ("SubstitutionMachineModel", "peak", "I", false)
def tyX9 : Nat → FieldType := fun k => match k with
  | 0 => .int
  | 1 => .array .int
  | 2 => .int
  | 3 => .array .int
  | 4 => .array .int
  | 5 => .array .int
  | 6 => .array .int
  | 7 => .array .int
  | 8 => .int
  | 9 => .array .int
  | 10 => .array .boolean
  | 11 => .int
  | 12 => .array .int
  | 13 => .array .int
  | 14 => .long
  | 15 => .array .int
  | 16 => .array .int
  | 17 => .array .boolean
  | 18 => .array .int
  | 19 => .array .int
  | 20 => .boolean
  | 21 => .array .int
  | _ => .int
abbrev wsX90 : List Cond := u_ws RX9 TX9 23
theorem nmX9 : ∀ a, a < 23 → ∀ b, b < 23 → a ≠ b → (TX9 a).2.1 ≠ (TX9 b).2.1 := by decide +kernel
theorem tyX9_ok : ∀ k, k < 23 → parseFieldDescriptor (TX9 k).2.2.1 = some (tyX9 k) := by decide +kernel
abbrev cX9_init : ByteArray := prog_11_method_1_code
def yX9_init : MethodName := ⟨RX9, "<init>", "()V"⟩
abbrev cX9_in : ByteArray := prog_11_method_3_code
def yX9_in : MethodName := ⟨RX9, "in", "(JJJ)Z"⟩
abbrev cX9_assign : ByteArray := prog_11_method_4_code
def yX9_assign : MethodName := ⟨RX9, "assign", "([I[I)V"⟩
abbrev cX9_isVariable : ByteArray := prog_11_method_5_code
def yX9_isVariable : MethodName := ⟨RX9, "isVariable", "(I)Z"⟩
abbrev cX9_parts : ByteArray := prog_11_method_6_code
def yX9_parts : MethodName := ⟨RX9, "parts", "(I)I"⟩
abbrev cX9_end : ByteArray := prog_11_method_7_code
def yX9_end : MethodName := ⟨RX9, "end", "([II)I"⟩
abbrev cX9_layDepths : ByteArray := prog_11_method_8_code
def yX9_layDepths : MethodName := ⟨RX9, "layDepths", "([III)V"⟩
abbrev cX9_isRedex : ByteArray := prog_11_method_9_code
def yX9_isRedex : MethodName := ⟨RX9, "isRedex", "([II)Z"⟩
abbrev cX9_redexes : ByteArray := prog_11_method_10_code
def yX9_redexes : MethodName := ⟨RX9, "redexes", "([I)I"⟩
abbrev cX9_isInnermost : ByteArray := prog_11_method_11_code
def yX9_isInnermost : MethodName := ⟨RX9, "isInnermost", "([II)Z"⟩
abbrev cX9_choose : ByteArray := prog_11_method_12_code
def yX9_choose : MethodName := ⟨RX9, "choose", "([II)I"⟩
abbrev cX9_put : ByteArray := prog_11_method_13_code
def yX9_put : MethodName := ⟨RX9, "put", "(I)Z"⟩
abbrev cX9_putShifted : ByteArray := prog_11_method_14_code
def yX9_putShifted : MethodName := ⟨RX9, "putShifted", "([IIII)Z"⟩
abbrev cX9_contract : ByteArray := prog_11_method_15_code
def yX9_contract : MethodName := ⟨RX9, "contract", "([II)Z"⟩
abbrev cX9_runOn : ByteArray := prog_11_method_16_code
def yX9_runOn : MethodName := ⟨RX9, "runOn", "([III)I"⟩
abbrev cX9_normalize : ByteArray := prog_11_method_17_code
def yX9_normalize : MethodName := ⟨RX9, "normalize", "([I)Z"⟩
abbrev cX9_append : ByteArray := prog_11_method_18_code
def yX9_append : MethodName := ⟨RX9, "append", "(I)I"⟩
abbrev cX9_clearText : ByteArray := prog_11_method_19_code
def yX9_clearText : MethodName := ⟨RX9, "clearText", "()I"⟩
abbrev cX9_tokenOf : ByteArray := prog_11_method_20_code
def yX9_tokenOf : MethodName := ⟨RX9, "tokenOf", "(I)I"⟩
abbrev cX9_errorPosition : ByteArray := prog_11_method_21_code
def yX9_errorPosition : MethodName := ⟨RX9, "errorPosition", "()I"⟩
abbrev cX9_load : ByteArray := prog_11_method_22_code
def yX9_load : MethodName := ⟨RX9, "load", "()I"⟩
abbrev cX9_size : ByteArray := prog_11_method_23_code
def yX9_size : MethodName := ⟨RX9, "size", "()I"⟩
abbrev cX9_tokenAt : ByteArray := prog_11_method_24_code
def yX9_tokenAt : MethodName := ⟨RX9, "tokenAt", "(I)I"⟩
abbrev cX9_nameAt : ByteArray := prog_11_method_25_code
def yX9_nameAt : MethodName := ⟨RX9, "nameAt", "(I)I"⟩
abbrev cX9_redexCount : ByteArray := prog_11_method_26_code
def yX9_redexCount : MethodName := ⟨RX9, "redexCount", "()I"⟩
abbrev cX9_chosenRedex : ByteArray := prog_11_method_27_code
def yX9_chosenRedex : MethodName := ⟨RX9, "chosenRedex", "(I)I"⟩
abbrev cX9_freeVariables : ByteArray := prog_11_method_28_code
def yX9_freeVariables : MethodName := ⟨RX9, "freeVariables", "()I"⟩
abbrev cX9_remember : ByteArray := prog_11_method_29_code
def yX9_remember : MethodName := ⟨RX9, "remember", "()V"⟩
abbrev cX9_commit : ByteArray := prog_11_method_30_code
def yX9_commit : MethodName := ⟨RX9, "commit", "()I"⟩
abbrev cX9_step : ByteArray := prog_11_method_31_code
def yX9_step : MethodName := ⟨RX9, "step", "(I)I"⟩
abbrev cX9_run : ByteArray := prog_11_method_32_code
def yX9_run : MethodName := ⟨RX9, "run", "(II)I"⟩
abbrev cX9_putBehind : ByteArray := prog_11_method_33_code
def yX9_putBehind : MethodName := ⟨RX9, "putBehind", "(I[I)Z"⟩
abbrev cX9_abstractTerm : ByteArray := prog_11_method_34_code
def yX9_abstractTerm : MethodName := ⟨RX9, "abstractTerm", "()I"⟩
abbrev cX9_takeSlot : ByteArray := prog_11_method_35_code
def yX9_takeSlot : MethodName := ⟨RX9, "takeSlot", "(I[I)V"⟩
abbrev cX9_applyTo : ByteArray := prog_11_method_36_code
def yX9_applyTo : MethodName := ⟨RX9, "applyTo", "(I)I"⟩
abbrev cX9_substitute : ByteArray := prog_11_method_37_code
def yX9_substitute : MethodName := ⟨RX9, "substitute", "(II)I"⟩
abbrev cX9_undo : ByteArray := prog_11_method_38_code
def yX9_undo : MethodName := ⟨RX9, "undo", "()I"⟩
abbrev cX9_stepsOfRun : ByteArray := prog_11_method_39_code
def yX9_stepsOfRun : MethodName := ⟨RX9, "stepsOfRun", "(II)I"⟩
abbrev cX9_sizeAfterRun : ByteArray := prog_11_method_40_code
def yX9_sizeAfterRun : MethodName := ⟨RX9, "sizeAfterRun", "(II)I"⟩
abbrev cX9_normalSize : ByteArray := prog_11_method_41_code
def yX9_normalSize : MethodName := ⟨RX9, "normalSize", "()I"⟩
abbrev cX9_normalTokenAt : ByteArray := prog_11_method_42_code
def yX9_normalTokenAt : MethodName := ⟨RX9, "normalTokenAt", "(I)I"⟩
abbrev cX9_isEquivalent : ByteArray := prog_11_method_43_code
def yX9_isEquivalent : MethodName := ⟨RX9, "isEquivalent", "(I)I"⟩
abbrev cX9_add : ByteArray := prog_11_method_44_code
def yX9_add : MethodName := ⟨RX9, "add", "(I)V"⟩
abbrev cX9_addPart : ByteArray := prog_11_method_45_code
def yX9_addPart : MethodName := ⟨RX9, "addPart", "(II)V"⟩
abbrev cX9_ruleAt : ByteArray := prog_11_method_46_code
def yX9_ruleAt : MethodName := ⟨RX9, "ruleAt", "(IZ)I"⟩
abbrev cX9_apply : ByteArray := prog_11_method_47_code
def yX9_apply : MethodName := ⟨RX9, "apply", "(II)V"⟩
abbrev cX9_merge : ByteArray := prog_11_method_48_code
def yX9_merge : MethodName := ⟨RX9, "merge", "(IIII)V"⟩
abbrev cX9_machine : ByteArray := prog_11_method_49_code
def yX9_machine : MethodName := ⟨RX9, "machine", "(Z)Z"⟩
abbrev cX9_machineSteps : ByteArray := prog_11_method_50_code
def yX9_machineSteps : MethodName := ⟨RX9, "machineSteps", "(II)I"⟩
abbrev cX9_machinePeak : ByteArray := prog_11_method_51_code
def yX9_machinePeak : MethodName := ⟨RX9, "machinePeak", "(I)I"⟩
abbrev cX9_command : ByteArray := prog_11_method_52_code
def yX9_command : MethodName := ⟨RX9, "command", "(III)Z"⟩
abbrev cX9_thousands : ByteArray := prog_11_method_53_code
def yX9_thousands : MethodName := ⟨RX9, "thousands", "(I)J"⟩
abbrev cX9_runScript : ByteArray := prog_11_method_54_code
def yX9_runScript : MethodName := ⟨RX9, "runScript", "(IJ)I"⟩
abbrev cX9_observe : ByteArray := prog_11_method_55_code
def yX9_observe : MethodName := ⟨RX9, "observe", "(II)I"⟩
abbrev cX9_forgetAfter : ByteArray := prog_11_method_56_code
def yX9_forgetAfter : MethodName := ⟨RX9, "forgetAfter", "(I)I"⟩
abbrev cX9_possibleStrategies : ByteArray := prog_11_method_57_code
def yX9_possibleStrategies : MethodName := ⟨RX9, "possibleStrategies", "()I"⟩
abbrev cX9_setSeed : ByteArray := prog_11_method_58_code
def yX9_setSeed : MethodName := ⟨RX9, "setSeed", "(J)J"⟩
abbrev cX9_redexNumber : ByteArray := prog_11_method_59_code
def yX9_redexNumber : MethodName := ⟨RX9, "redexNumber", "([II)I"⟩
abbrev cX9_randomReduction : ByteArray := prog_11_method_60_code
def yX9_randomReduction : MethodName := ⟨RX9, "randomReduction", "(I)I"⟩
abbrev cX9_save : ByteArray := prog_11_method_61_code
def yX9_save : MethodName := ⟨RX9, "save", "(I)I"⟩
abbrev cX9_restore : ByteArray := prog_11_method_62_code
def yX9_restore : MethodName := ⟨RX9, "restore", "(I)I"⟩
def RJ9 : String := "java/lang/Math"
def TJ9 : u_T := fun k => match k with
  | _ => ("", "", "", false)
def tyJ9 : Nat → FieldType := fun k => match k with
  | _ => .int
abbrev wsJ90 : List Cond := u_ws RJ9 TJ9 0
theorem nmJ9 : ∀ a, a < 0 → ∀ b, b < 0 → a ≠ b → (TJ9 a).2.1 ≠ (TJ9 b).2.1 := by decide +kernel
theorem tyJ9_ok : ∀ k, k < 0 → parseFieldDescriptor (TJ9 k).2.2.1 = some (tyJ9 k) := by decide +kernel
abbrev cJ9_max_7cf53 : ByteArray := prog_12_method_65_code
def yJ9_max_7cf53 : MethodName := ⟨RJ9, "max", "(II)I"⟩
abbrev cJ9_min_7cf53 : ByteArray := prog_12_method_69_code
def yJ9_min_7cf53 : MethodName := ⟨RJ9, "min", "(II)I"⟩
def RJ10 : String := "java/lang/System"
def TJ10 : u_T := fun k => match k with
  | _ => ("", "", "", false)
def tyJ10 : Nat → FieldType := fun k => match k with
  | _ => .int
abbrev wsJ100 : List Cond := u_ws RJ10 TJ10 0
theorem nmJ10 : ∀ a, a < 0 → ∀ b, b < 0 → a ≠ b → (TJ10 a).2.1 ≠ (TJ10 b).2.1 := by decide +kernel
theorem tyJ10_ok : ∀ k, k < 0 → parseFieldDescriptor (TJ10 k).2.2.1 = some (tyJ10 k) := by decide +kernel
def RL : String := "SubstitutionMachineLaw"
abbrev cL_law : ByteArray := code
def yL_law : MethodName := ⟨RL, "law", "([I)Z"⟩
def wsL_law_r1 : List Cond := [Cond.classLink RL 7 RX8, Cond.instantiable RX8 12, Cond.initialized RX8, Cond.classLink RL 10 RX9, Cond.instantiable RX9 23, Cond.initialized RX9, Cond.constantLong RL 108 (4294967295), Cond.methodLink RL 9 yX8_init, Cond.instanceMethod yX8_init, Cond.code yX8_init cX8_init 1 none, Cond.methodLink RX8 1 objectInit, Cond.instanceMethod objectInit, Cond.code objectInit ⟨#[0xb1]⟩ 1 none, Cond.classLink RX8 7 RX6, Cond.instantiable RX6 3, Cond.initialized RX6, Cond.fieldLink RX8 10 "SubstitutionMachine" "term" "LSubstitutionMachine$Term;", Cond.fieldLink RX8 16 "SubstitutionMachine" "copy" "LSubstitutionMachine$Term;", Cond.fieldLink RX8 19 "SubstitutionMachine" "trial" "LSubstitutionMachine$Term;", Cond.fieldLink RX8 22 "SubstitutionMachine" "firstSlot" "LSubstitutionMachine$Term;", Cond.fieldLink RX8 25 "SubstitutionMachine" "secondSlot" "LSubstitutionMachine$Term;", Cond.classLink RX8 28 RX4, Cond.instantiable RX4 3, Cond.initialized RX4]
def wsL_law_r2 : List Cond := [Cond.fieldLink RX8 31 "SubstitutionMachine" "outline" "LSubstitutionMachine$Outline;", Cond.classLink RX8 35 RX5, Cond.instantiable RX5 3, Cond.initialized RX5, Cond.fieldLink RX8 38 "SubstitutionMachine" "reducer" "LSubstitutionMachine$Reducer;", Cond.classLink RX8 42 RX2, Cond.instantiable RX2 4, Cond.initialized RX2, Cond.fieldLink RX8 45 "SubstitutionMachine" "machine" "LSubstitutionMachine$Machine;", Cond.classLink RX8 49 RX1, Cond.instantiable RX1 4, Cond.initialized RX1, Cond.fieldLink RX8 52 "SubstitutionMachine" "history" "LSubstitutionMachine$History;", Cond.classLink RX8 56 RX7, Cond.instantiable RX7 2, Cond.initialized RX7, Cond.fieldLink RX8 59 "SubstitutionMachine" "text" "LSubstitutionMachine$TermText;", Cond.classLink RX8 63 RX3, Cond.instantiable RX3 3, Cond.initialized RX3, Cond.fieldLink RX8 66 "SubstitutionMachine" "observations" "LSubstitutionMachine$Observations;", Cond.fieldLink RX8 70 "SubstitutionMachine" "randomSeed" "J", Cond.instanceMethod yX6_init, Cond.code yX6_init cX6_init 1 none]
def wsL_law_r3 : List Cond := [Cond.methodLink RX6 3 objectInit, Cond.arrayClass .int, Cond.fieldLink RX6 9 "SubstitutionMachine$Term" "tokens" "[I", Cond.fieldLink RX6 15 "SubstitutionMachine$Term" "length" "I", Cond.fieldLink RX6 19 "SubstitutionMachine$Term" "tooLarge" "Z", Cond.instanceMethod yX4_init, Cond.code yX4_init cX4_init 1 none, Cond.methodLink RX4 3 objectInit, Cond.fieldLink RX4 9 "SubstitutionMachine$Outline" "ends" "[I", Cond.fieldLink RX4 15 "SubstitutionMachine$Outline" "depths" "[I", Cond.fieldLink RX4 18 "SubstitutionMachine$Outline" "length" "I", Cond.instanceMethod yX5_init, Cond.code yX5_init cX5_init 1 none, Cond.methodLink RX5 3 objectInit, Cond.classLink RX5 9 RX4, Cond.fieldLink RX5 12 "SubstitutionMachine$Reducer" "outline" "LSubstitutionMachine$Outline;", Cond.fieldLink RX5 18 "SubstitutionMachine$Reducer" "insertedOutline" "LSubstitutionMachine$Outline;", Cond.classLink RX5 21 RX6, Cond.fieldLink RX5 24 "SubstitutionMachine$Reducer" "result" "LSubstitutionMachine$Term;", Cond.instanceMethod yX2_init, Cond.code yX2_init cX2_init 1 none, Cond.methodLink RX2 3 objectInit, Cond.classLink RX2 9 RX0, Cond.instantiable RX0 5]
def wsL_law_r4 : List Cond := [Cond.initialized RX0, Cond.fieldLink RX2 12 "SubstitutionMachine$Machine" "present" "LSubstitutionMachine$Extended;", Cond.fieldLink RX2 18 "SubstitutionMachine$Machine" "next" "LSubstitutionMachine$Extended;", Cond.fieldLink RX2 21 "SubstitutionMachine$Machine" "applied" "[I", Cond.fieldLink RX2 25 "SubstitutionMachine$Machine" "peak" "I", Cond.instanceMethod yX0_init, Cond.code yX0_init cX0_init 1 none, Cond.methodLink RX0 3 objectInit, Cond.fieldLink RX0 9 "SubstitutionMachine$Extended" "tokens" "[I", Cond.fieldLink RX0 15 "SubstitutionMachine$Extended" "entries" "[I", Cond.fieldLink RX0 18 "SubstitutionMachine$Extended" "shifts" "[I", Cond.fieldLink RX0 21 "SubstitutionMachine$Extended" "length" "I", Cond.fieldLink RX0 25 "SubstitutionMachine$Extended" "tooLarge" "Z", Cond.instanceMethod yX1_init, Cond.code yX1_init cX1_init 1 none, Cond.methodLink RX1 3 objectInit, Cond.classLink RX1 9 "[[I", Cond.fieldLink RX1 11 "SubstitutionMachine$History" "rows" "[[I", Cond.fieldLink RX1 16 "SubstitutionMachine$History" "lengths" "[I", Cond.fieldLink RX1 20 "SubstitutionMachine$History" "count" "I", Cond.fieldLink RX1 24 "SubstitutionMachine$History" "place" "I", Cond.instanceMethod yX7_init, Cond.code yX7_init cX7_init 1 none, Cond.methodLink RX7 3 objectInit]
def wsL_law_r5 : List Cond := [Cond.fieldLink RX7 9 "SubstitutionMachine$TermText" "codes" "[I", Cond.fieldLink RX7 15 "SubstitutionMachine$TermText" "length" "I", Cond.instanceMethod yX3_init, Cond.code yX3_init cX3_init 1 none, Cond.methodLink RX3 3 objectInit, Cond.fieldLink RX3 9 "SubstitutionMachine$Observations" "limits" "[I", Cond.fieldLink RX3 15 "SubstitutionMachine$Observations" "values" "[I", Cond.fieldLink RX3 18 "SubstitutionMachine$Observations" "count" "I", Cond.methodLink RX8 74 yX6_add, Cond.instanceMethod yX6_add, Cond.selects RX6 yX6_add yX6_add, Cond.code yX6_add cX6_add 2 none, Cond.methodLink RL 12 yX9_init, Cond.instanceMethod yX9_init, Cond.code yX9_init cX9_init 1 none, Cond.methodLink RX9 1 objectInit, Cond.fieldLink RX9 7 "SubstitutionMachineModel" "text" "[I", Cond.fieldLink RX9 13 "SubstitutionMachineModel" "term" "[I", Cond.fieldLink RX9 16 "SubstitutionMachineModel" "work" "[I", Cond.fieldLink RX9 19 "SubstitutionMachineModel" "other" "[I", Cond.fieldLink RX9 22 "SubstitutionMachineModel" "out" "[I", Cond.fieldLink RX9 25 "SubstitutionMachineModel" "history" "[I", Cond.fieldLink RX9 28 "SubstitutionMachineModel" "slots" "[I", Cond.arrayClass .boolean]
def wsL_law_r6 : List Cond := [Cond.fieldLink RX9 31 "SubstitutionMachineModel" "slotUsed" "[Z", Cond.fieldLink RX9 35 "SubstitutionMachineModel" "observedLimit" "[I", Cond.fieldLink RX9 38 "SubstitutionMachineModel" "observedSize" "[I", Cond.fieldLink RX9 41 "SubstitutionMachineModel" "depths" "[I", Cond.fieldLink RX9 44 "SubstitutionMachineModel" "open" "[I", Cond.fieldLink RX9 47 "SubstitutionMachineModel" "binds" "[Z", Cond.fieldLink RX9 50 "SubstitutionMachineModel" "wide" "[I", Cond.fieldLink RX9 53 "SubstitutionMachineModel" "next" "[I", Cond.fieldLink RX9 56 "SubstitutionMachineModel" "applied" "[I", Cond.methodLink RL 13 yX8_append, Cond.instanceMethod yX8_append, Cond.selects RX8 yX8_append yX8_append, Cond.code yX8_append cX8_append 2 (some .int), Cond.methodLink RX8 78 yX7_put, Cond.instanceMethod yX7_put, Cond.selects RX7 yX7_put yX7_put, Cond.code yX7_put cX7_put 2 (some .boolean), Cond.methodLink RX8 82 yX7_length, Cond.instanceMethod yX7_length, Cond.selects RX7 yX7_length yX7_length, Cond.code yX7_length cX7_length 1 (some .int), Cond.methodLink RL 17 yX9_append, Cond.instanceMethod yX9_append, Cond.selects RX9 yX9_append yX9_append]
def wsL_law_r7 : List Cond := [Cond.code yX9_append cX9_append 2 (some .int), Cond.fieldLink RX9 59 "SubstitutionMachineModel" "thrown" "I", Cond.constantLong RX9 112 (255), Cond.fieldLink RX9 118 "SubstitutionMachineModel" "textSize" "I", Cond.methodLink RX9 114 yX9_in, Cond.static yX9_in, Cond.code yX9_in cX9_in 6 (some .boolean), Cond.methodLink RL 18 yX8_clearText, Cond.instanceMethod yX8_clearText, Cond.selects RX8 yX8_clearText yX8_clearText, Cond.code yX8_clearText cX8_clearText 2 (some .int), Cond.methodLink RX8 86 yX7_clear, Cond.instanceMethod yX7_clear, Cond.selects RX7 yX7_clear yX7_clear, Cond.code yX7_clear cX7_clear 1 none, Cond.methodLink RL 22 yX9_clearText, Cond.instanceMethod yX9_clearText, Cond.selects RX9 yX9_clearText yX9_clearText, Cond.code yX9_clearText cX9_clearText 2 (some .int), Cond.methodLink RL 23 yX8_errorPosition, Cond.instanceMethod yX8_errorPosition, Cond.selects RX8 yX8_errorPosition yX8_errorPosition, Cond.code yX8_errorPosition cX8_errorPosition 1 (some .int), Cond.methodLink RX8 89 yX7_firstError]
def wsL_law_r8 : List Cond := [Cond.instanceMethod yX7_firstError, Cond.selects RX7 yX7_firstError yX7_firstError, Cond.code yX7_firstError cX7_firstError 4 (some .int), Cond.methodLink RX7 19 yX7_tokenOf, Cond.static yX7_tokenOf, Cond.code yX7_tokenOf cX7_tokenOf 1 (some .int), Cond.static yX8_parts, Cond.code yX8_parts cX8_parts 1 (some .int), Cond.methodLink RL 26 yX9_errorPosition, Cond.instanceMethod yX9_errorPosition, Cond.selects RX9 yX9_errorPosition yX9_errorPosition, Cond.code yX9_errorPosition cX9_errorPosition 4 (some .int), Cond.methodLink RX9 125 yX9_tokenOf, Cond.static yX9_tokenOf, Cond.code yX9_tokenOf cX9_tokenOf 1 (some .int), Cond.constantLong RX9 121 (48), Cond.constantLong RX9 123 (57), Cond.methodLink RX9 64 yX9_parts, Cond.static yX9_parts, Cond.code yX9_parts cX9_parts 1 (some .int), Cond.constant RX9 63 (1000000), Cond.methodLink RL 27 yX8_load, Cond.instanceMethod yX8_load, Cond.selects RX8 yX8_load yX8_load]
def wsL_law_r9 : List Cond := [Cond.code yX8_load cX8_load 1 (some .int), Cond.methodLink RX8 92 yX7_writeTo, Cond.instanceMethod yX7_writeTo, Cond.selects RX7 yX7_writeTo yX7_writeTo, Cond.code yX7_writeTo cX7_writeTo 3 none, Cond.methodLink RX7 26 yX6_clear, Cond.instanceMethod yX6_clear, Cond.selects RX6 yX6_clear yX6_clear, Cond.code yX6_clear cX6_clear 1 none, Cond.methodLink RX7 31 yX6_add, Cond.methodLink RX8 96 yX1_forgetAll, Cond.instanceMethod yX1_forgetAll, Cond.selects RX1 yX1_forgetAll yX1_forgetAll, Cond.code yX1_forgetAll cX1_forgetAll 1 none, Cond.methodLink RX8 99 yX6_clear, Cond.methodLink RX8 100 yX6_length, Cond.instanceMethod yX6_length, Cond.selects RX6 yX6_length yX6_length, Cond.code yX6_length cX6_length 1 (some .int), Cond.methodLink RL 30 yX9_load, Cond.instanceMethod yX9_load, Cond.selects RX9 yX9_load yX9_load, Cond.code yX9_load cX9_load 2 (some .int), Cond.fieldLink RX9 132 "SubstitutionMachineModel" "remembered" "I"]
def wsL_law_r10 : List Cond := [Cond.methodLink RX9 128 yX9_errorPosition, Cond.methodLink RL 31 yX8_size, Cond.instanceMethod yX8_size, Cond.selects RX8 yX8_size yX8_size, Cond.code yX8_size cX8_size 1 (some .int), Cond.methodLink RL 34 yX9_size, Cond.instanceMethod yX9_size, Cond.selects RX9 yX9_size yX9_size, Cond.code yX9_size cX9_size 1 (some .int), Cond.methodLink RL 35 yX8_tokenAt, Cond.instanceMethod yX8_tokenAt, Cond.selects RX8 yX8_tokenAt yX8_tokenAt, Cond.code yX8_tokenAt cX8_tokenAt 2 (some .int), Cond.methodLink RX8 101 yX6_has, Cond.instanceMethod yX6_has, Cond.selects RX6 yX6_has yX6_has, Cond.code yX6_has cX6_has 2 (some .boolean), Cond.methodLink RX8 104 yX6_token, Cond.instanceMethod yX6_token, Cond.selects RX6 yX6_token yX6_token, Cond.code yX6_token cX6_token 2 (some .int), Cond.methodLink RL 38 yX9_tokenAt, Cond.instanceMethod yX9_tokenAt, Cond.selects RX9 yX9_tokenAt yX9_tokenAt]
def wsL_law_r11 : List Cond := [Cond.code yX9_tokenAt cX9_tokenAt 2 (some .int), Cond.methodLink RL 39 yX8_nameAt, Cond.instanceMethod yX8_nameAt, Cond.selects RX8 yX8_nameAt yX8_nameAt, Cond.code yX8_nameAt cX8_nameAt 4 (some .int), Cond.methodLink RX8 108 yX4_measure, Cond.instanceMethod yX4_measure, Cond.selects RX4 yX4_measure yX4_measure, Cond.code yX4_measure cX4_measure 2 none, Cond.methodLink RX4 27 Lib.Math.min.name, Cond.static Lib.Math.min.name, Cond.initialized "java/lang/Math", Cond.code Lib.Math.min.name Lib.Math.min.code 2 (some .int), Cond.methodLink RX4 22 yX6_length, Cond.methodLink RX4 33 yX4_measureEnds, Cond.instanceMethod yX4_measureEnds, Cond.selects RX4 yX4_measureEnds yX4_measureEnds, Cond.code yX4_measureEnds cX4_measureEnds 4 none, Cond.methodLink RX4 40 yX6_token, Cond.methodLink RX4 44 yX4_endAt, Cond.instanceMethod yX4_endAt, Cond.selects RX4 yX4_endAt yX4_endAt, Cond.code yX4_endAt cX4_endAt 2 (some .int), Cond.methodLink RX4 37 yX4_measureDepths]
def wsL_law_r12 : List Cond := [Cond.instanceMethod yX4_measureDepths, Cond.selects RX4 yX4_measureDepths yX4_measureDepths, Cond.code yX4_measureDepths cX4_measureDepths 4 none, Cond.methodLink RX4 47 yX4_setDepth, Cond.instanceMethod yX4_setDepth, Cond.selects RX4 yX4_setDepth yX4_setDepth, Cond.code yX4_setDepth cX4_setDepth 3 none, Cond.methodLink RX8 111 yX4_depthAt, Cond.instanceMethod yX4_depthAt, Cond.selects RX4 yX4_depthAt yX4_depthAt, Cond.code yX4_depthAt cX4_depthAt 2 (some .int), Cond.methodLink RL 42 yX9_nameAt, Cond.instanceMethod yX9_nameAt, Cond.selects RX9 yX9_nameAt yX9_nameAt, Cond.code yX9_nameAt cX9_nameAt 4 (some .int), Cond.methodLink RX9 86 yX9_layDepths, Cond.instanceMethod yX9_layDepths, Cond.selects RX9 yX9_layDepths yX9_layDepths, Cond.code yX9_layDepths cX9_layDepths 8 none, Cond.methodLink RX9 68 yX9_isVariable, Cond.static yX9_isVariable, Cond.code yX9_isVariable cX9_isVariable 1 (some .boolean), Cond.methodLink RL 43 yX8_redexCount, Cond.instanceMethod yX8_redexCount]
def wsL_law_r13 : List Cond := [Cond.selects RX8 yX8_redexCount yX8_redexCount, Cond.code yX8_redexCount cX8_redexCount 1 (some .int), Cond.methodLink RX8 114 yX5_countRedexes, Cond.static yX5_countRedexes, Cond.code yX5_countRedexes cX5_countRedexes 3 (some .int), Cond.methodLink RX5 32 yX6_length, Cond.methodLink RX5 36 yX5_isRedex, Cond.static yX5_isRedex, Cond.code yX5_isRedex cX5_isRedex 2 (some .boolean), Cond.methodLink RX5 28 yX6_token, Cond.methodLink RL 46 yX9_redexCount, Cond.instanceMethod yX9_redexCount, Cond.selects RX9 yX9_redexCount yX9_redexCount, Cond.code yX9_redexCount cX9_redexCount 1 (some .int), Cond.methodLink RX9 108 yX9_redexes, Cond.static yX9_redexes, Cond.code yX9_redexes cX9_redexes 3 (some .int), Cond.methodLink RX9 72 yX9_isRedex, Cond.static yX9_isRedex, Cond.code yX9_isRedex cX9_isRedex 2 (some .boolean), Cond.methodLink RL 47 yX8_chosenRedex, Cond.instanceMethod yX8_chosenRedex, Cond.selects RX8 yX8_chosenRedex yX8_chosenRedex, Cond.code yX8_chosenRedex cX8_chosenRedex 2 (some .int)]
def wsL_law_r14 : List Cond := [Cond.methodLink RX8 118 yX8_isStrategy, Cond.static yX8_isStrategy, Cond.code yX8_isStrategy cX8_isStrategy 1 (some .boolean), Cond.methodLink RX8 121 yX5_choose, Cond.static yX5_choose, Cond.code yX5_choose cX5_choose 2 (some .int), Cond.methodLink RX5 40 yX5_nextRedex, Cond.static yX5_nextRedex, Cond.code yX5_nextRedex cX5_nextRedex 3 (some .int), Cond.methodLink RX5 44 yX5_leftmostInnermost, Cond.static yX5_leftmostInnermost, Cond.code yX5_leftmostInnermost cX5_leftmostInnermost 4 (some .int), Cond.methodLink RX5 48 yX5_lastRedex, Cond.static yX5_lastRedex, Cond.code yX5_lastRedex cX5_lastRedex 2 (some .int), Cond.methodLink RX5 51 yX5_weakHead, Cond.static yX5_weakHead, Cond.code yX5_weakHead cX5_weakHead 2 (some .int), Cond.methodLink RL 50 yX9_chosenRedex, Cond.instanceMethod yX9_chosenRedex, Cond.selects RX9 yX9_chosenRedex yX9_chosenRedex, Cond.code yX9_chosenRedex cX9_chosenRedex 2 (some .int), Cond.constantLong RX9 135 (3), Cond.methodLink RX9 94 yX9_choose]
def wsL_law_r15 : List Cond := [Cond.static yX9_choose, Cond.code yX9_choose cX9_choose 7 (some .int), Cond.methodLink RX9 80 yX9_isInnermost, Cond.static yX9_isInnermost, Cond.code yX9_isInnermost cX9_isInnermost 4 (some .boolean), Cond.methodLink RX9 76 yX9_end, Cond.static yX9_end, Cond.code yX9_end cX9_end 4 (some .int), Cond.methodLink RL 51 yX8_freeVariables, Cond.instanceMethod yX8_freeVariables, Cond.selects RX8 yX8_freeVariables yX8_freeVariables, Cond.code yX8_freeVariables cX8_freeVariables 4 (some .int), Cond.methodLink RX8 125 yX8_isVariable, Cond.static yX8_isVariable, Cond.code yX8_isVariable cX8_isVariable 1 (some .boolean), Cond.methodLink RL 54 yX9_freeVariables, Cond.instanceMethod yX9_freeVariables, Cond.selects RX9 yX9_freeVariables yX9_freeVariables, Cond.code yX9_freeVariables cX9_freeVariables 3 (some .int), Cond.methodLink RL 55 yX8_step, Cond.instanceMethod yX8_step, Cond.selects RX8 yX8_step yX8_step, Cond.code yX8_step cX8_step 3 (some .int), Cond.methodLink RX8 128 yX6_copyFrom]
def wsL_law_r16 : List Cond := [Cond.instanceMethod yX6_copyFrom, Cond.selects RX6 yX6_copyFrom yX6_copyFrom, Cond.code yX6_copyFrom cX6_copyFrom 2 none, Cond.methodLink RX6 23 arraycopyName, Cond.native arraycopyName, Cond.static arraycopyName, Cond.initialized "java/lang/System", Cond.methodLink RX8 131 yX5_contract, Cond.instanceMethod yX5_contract, Cond.selects RX5 yX5_contract yX5_contract, Cond.code yX5_contract cX5_contract 5 (some .boolean), Cond.methodLink RX5 63 yX4_measure, Cond.methodLink RX5 67 yX4_endAt, Cond.methodLink RX5 70 yX6_clear, Cond.methodLink RX5 73 yX6_addRange, Cond.instanceMethod yX6_addRange, Cond.selects RX6 yX6_addRange yX6_addRange, Cond.code yX6_addRange cX6_addRange 5 none, Cond.methodLink RX5 77 yX5_addContracted, Cond.instanceMethod yX5_addContracted, Cond.selects RX5 yX5_addContracted yX5_addContracted, Cond.code yX5_addContracted cX5_addContracted 9 none, Cond.methodLink RX5 85 yX4_depthAt, Cond.methodLink RX5 88 yX6_isTooLarge]
def wsL_law_r17 : List Cond := [Cond.instanceMethod yX6_isTooLarge, Cond.selects RX6 yX6_isTooLarge yX6_isTooLarge, Cond.code yX6_isTooLarge cX6_isTooLarge 1 (some .boolean), Cond.methodLink RX5 96 yX6_add, Cond.methodLink RX5 100 yX5_addShifted, Cond.instanceMethod yX5_addShifted, Cond.selects RX5 yX5_addShifted yX5_addShifted, Cond.code yX5_addShifted cX5_addShifted 10 none, Cond.methodLink RX5 81 yX5_takeResult, Cond.instanceMethod yX5_takeResult, Cond.selects RX5 yX5_takeResult yX5_takeResult, Cond.code yX5_takeResult cX5_takeResult 2 (some .boolean), Cond.methodLink RX5 104 yX6_copyFrom, Cond.methodLink RX8 135 yX8_actWithCopy, Cond.instanceMethod yX8_actWithCopy, Cond.selects RX8 yX8_actWithCopy yX8_actWithCopy, Cond.code yX8_actWithCopy cX8_actWithCopy 1 (some .int), Cond.methodLink RX8 218 yX1_remember, Cond.instanceMethod yX1_remember, Cond.selects RX1 yX1_remember yX1_remember, Cond.code yX1_remember cX1_remember 4 none, Cond.methodLink RX1 33 Lib.Math.min.name, Cond.methodLink RX1 27 yX6_length, Cond.methodLink RX1 39 yX6_token]
def wsL_law_r18 : List Cond := [Cond.methodLink RL 58 yX9_step, Cond.instanceMethod yX9_step, Cond.selects RX9 yX9_step yX9_step, Cond.code yX9_step cX9_step 3 (some .int), Cond.methodLink RX9 97 yX9_contract, Cond.instanceMethod yX9_contract, Cond.selects RX9 yX9_contract yX9_contract, Cond.code yX9_contract cX9_contract 8 (some .boolean), Cond.methodLink RX9 83 yX9_put, Cond.instanceMethod yX9_put, Cond.selects RX9 yX9_put yX9_put, Cond.code yX9_put cX9_put 2 (some .boolean), Cond.methodLink RX9 90 yX9_putShifted, Cond.instanceMethod yX9_putShifted, Cond.selects RX9 yX9_putShifted yX9_putShifted, Cond.code yX9_putShifted cX9_putShifted 8 (some .boolean), Cond.methodLink RX9 140 yX9_commit, Cond.instanceMethod yX9_commit, Cond.selects RX9 yX9_commit yX9_commit, Cond.code yX9_commit cX9_commit 1 (some .int), Cond.methodLink RX9 137 yX9_remember, Cond.instanceMethod yX9_remember, Cond.selects RX9 yX9_remember yX9_remember, Cond.code yX9_remember cX9_remember 2 none]
def wsL_law_r19 : List Cond := [Cond.methodLink RX9 100 yX9_assign, Cond.static yX9_assign, Cond.code yX9_assign cX9_assign 3 none, Cond.methodLink RL 59 yX8_run, Cond.instanceMethod yX8_run, Cond.selects RX8 yX8_run yX8_run, Cond.code yX8_run cX8_run 4 (some .int), Cond.methodLink RX8 138 yX5_perform, Cond.instanceMethod yX5_perform, Cond.selects RX5 yX5_perform yX5_perform, Cond.code yX5_perform cX5_perform 5 (some .int), Cond.methodLink RX5 57 yX5_choose, Cond.methodLink RX5 60 yX5_contract, Cond.methodLink RL 63 yX9_run, Cond.instanceMethod yX9_run, Cond.selects RX9 yX9_run yX9_run, Cond.code yX9_run cX9_run 3 (some .int), Cond.constantLong RX9 143 (50), Cond.methodLink RX9 104 yX9_runOn, Cond.instanceMethod yX9_runOn, Cond.selects RX9 yX9_runOn yX9_runOn, Cond.code yX9_runOn cX9_runOn 6 (some .int), Cond.methodLink RL 64 yX8_abstractTerm, Cond.instanceMethod yX8_abstractTerm]
def wsL_law_r20 : List Cond := [Cond.selects RX8 yX8_abstractTerm yX8_abstractTerm, Cond.code yX8_abstractTerm cX8_abstractTerm 1 (some .int), Cond.methodLink RX8 142 yX6_wrapInAbstraction, Cond.instanceMethod yX6_wrapInAbstraction, Cond.selects RX6 yX6_wrapInAbstraction yX6_wrapInAbstraction, Cond.code yX6_wrapInAbstraction cX6_wrapInAbstraction 1 (some .boolean), Cond.methodLink RL 67 yX9_abstractTerm, Cond.instanceMethod yX9_abstractTerm, Cond.selects RX9 yX9_abstractTerm yX9_abstractTerm, Cond.code yX9_abstractTerm cX9_abstractTerm 1 (some .int), Cond.methodLink RX9 145 yX9_putBehind, Cond.instanceMethod yX9_putBehind, Cond.selects RX9 yX9_putBehind yX9_putBehind, Cond.code yX9_putBehind cX9_putBehind 5 (some .boolean), Cond.methodLink RL 68 yX8_applyTo, Cond.instanceMethod yX8_applyTo, Cond.selects RX8 yX8_applyTo yX8_applyTo, Cond.code yX8_applyTo cX8_applyTo 3 (some .int), Cond.methodLink RX8 146 yX8_isSlot, Cond.static yX8_isSlot, Cond.code yX8_isSlot cX8_isSlot 1 (some .boolean), Cond.methodLink RX8 149 yX8_slotTerm, Cond.instanceMethod yX8_slotTerm, Cond.selects RX8 yX8_slotTerm yX8_slotTerm]
def wsL_law_r21 : List Cond := [Cond.code yX8_slotTerm cX8_slotTerm 2 (some (.object "SubstitutionMachine$Term")), Cond.methodLink RX8 153 yX6_addRange, Cond.methodLink RX8 157 yX6_isTooLarge, Cond.methodLink RL 71 yX9_applyTo, Cond.instanceMethod yX9_applyTo, Cond.selects RX9 yX9_applyTo yX9_applyTo, Cond.code yX9_applyTo cX9_applyTo 4 (some .int), Cond.methodLink RX9 149 yX9_takeSlot, Cond.instanceMethod yX9_takeSlot, Cond.selects RX9 yX9_takeSlot yX9_takeSlot, Cond.code yX9_takeSlot cX9_takeSlot 4 none, Cond.methodLink RL 72 yX8_substitute, Cond.instanceMethod yX8_substitute, Cond.selects RX8 yX8_substitute yX8_substitute, Cond.code yX8_substitute cX8_substitute 4 (some .int), Cond.methodLink RX8 160 yX5_replaceFree, Cond.instanceMethod yX5_replaceFree, Cond.selects RX5 yX5_replaceFree yX5_replaceFree, Cond.code yX5_replaceFree cX5_replaceFree 7 (some .boolean), Cond.methodLink RL 75 yX9_substitute, Cond.instanceMethod yX9_substitute, Cond.selects RX9 yX9_substitute yX9_substitute, Cond.code yX9_substitute cX9_substitute 6 (some .int), Cond.constantLong RX9 153 (9)]
def wsL_law_r22 : List Cond := [Cond.methodLink RL 76 yX8_undo, Cond.instanceMethod yX8_undo, Cond.selects RX8 yX8_undo yX8_undo, Cond.code yX8_undo cX8_undo 1 (some .int), Cond.methodLink RX8 164 yX1_takeBack, Cond.instanceMethod yX1_takeBack, Cond.selects RX1 yX1_takeBack yX1_takeBack, Cond.code yX1_takeBack cX1_takeBack 4 (some .boolean), Cond.methodLink RX1 43 yX6_clear, Cond.methodLink RX1 46 yX6_add, Cond.methodLink RX8 168 yX1_count, Cond.instanceMethod yX1_count, Cond.selects RX1 yX1_count yX1_count, Cond.code yX1_count cX1_count 1 (some .int), Cond.methodLink RL 79 yX9_undo, Cond.instanceMethod yX9_undo, Cond.selects RX9 yX9_undo yX9_undo, Cond.code yX9_undo cX9_undo 2 (some .int), Cond.methodLink RL 80 yX8_stepsOfRun, Cond.instanceMethod yX8_stepsOfRun, Cond.selects RX8 yX8_stepsOfRun yX8_stepsOfRun, Cond.code yX8_stepsOfRun cX8_stepsOfRun 3 (some .int), Cond.methodLink RX8 171 yX8_isPrediction, Cond.static yX8_isPrediction]
def wsL_law_r23 : List Cond := [Cond.code yX8_isPrediction cX8_isPrediction 2 (some .boolean), Cond.methodLink RX8 175 yX8_performOnCopy, Cond.instanceMethod yX8_performOnCopy, Cond.selects RX8 yX8_performOnCopy yX8_performOnCopy, Cond.code yX8_performOnCopy cX8_performOnCopy 3 (some .int), Cond.methodLink RL 83 yX9_stepsOfRun, Cond.instanceMethod yX9_stepsOfRun, Cond.selects RX9 yX9_stepsOfRun yX9_stepsOfRun, Cond.code yX9_stepsOfRun cX9_stepsOfRun 3 (some .int), Cond.constantLong RX9 155 (200), Cond.methodLink RL 84 yX8_sizeAfterRun, Cond.instanceMethod yX8_sizeAfterRun, Cond.selects RX8 yX8_sizeAfterRun yX8_sizeAfterRun, Cond.code yX8_sizeAfterRun cX8_sizeAfterRun 3 (some .int), Cond.methodLink RL 87 yX9_sizeAfterRun, Cond.instanceMethod yX9_sizeAfterRun, Cond.selects RX9 yX9_sizeAfterRun yX9_sizeAfterRun, Cond.code yX9_sizeAfterRun cX9_sizeAfterRun 3 (some .int), Cond.methodLink RL 88 yX8_normalSize, Cond.instanceMethod yX8_normalSize, Cond.selects RX8 yX8_normalSize yX8_normalSize, Cond.code yX8_normalSize cX8_normalSize 1 (some .int), Cond.methodLink RX8 179 yX8_normaliseInto, Cond.instanceMethod yX8_normaliseInto]
def wsL_law_r24 : List Cond := [Cond.selects RX8 yX8_normaliseInto yX8_normaliseInto, Cond.code yX8_normaliseInto cX8_normaliseInto 3 (some .boolean), Cond.methodLink RX8 221 yX5_nextRedex, Cond.methodLink RL 91 yX9_normalSize, Cond.instanceMethod yX9_normalSize, Cond.selects RX9 yX9_normalSize yX9_normalSize, Cond.code yX9_normalSize cX9_normalSize 1 (some .int), Cond.methodLink RX9 157 yX9_normalize, Cond.instanceMethod yX9_normalize, Cond.selects RX9 yX9_normalize yX9_normalize, Cond.code yX9_normalize cX9_normalize 2 (some .boolean), Cond.methodLink RL 92 yX8_normalTokenAt, Cond.instanceMethod yX8_normalTokenAt, Cond.selects RX8 yX8_normalTokenAt yX8_normalTokenAt, Cond.code yX8_normalTokenAt cX8_normalTokenAt 2 (some .int), Cond.methodLink RL 95 yX9_normalTokenAt, Cond.instanceMethod yX9_normalTokenAt, Cond.selects RX9 yX9_normalTokenAt yX9_normalTokenAt, Cond.code yX9_normalTokenAt cX9_normalTokenAt 2 (some .int), Cond.methodLink RL 96 yX8_isEquivalent, Cond.instanceMethod yX8_isEquivalent, Cond.selects RX8 yX8_isEquivalent yX8_isEquivalent, Cond.code yX8_isEquivalent cX8_isEquivalent 3 (some .int), Cond.methodLink RX8 183 yX6_hasSameTokens]
def wsL_law_r25 : List Cond := [Cond.instanceMethod yX6_hasSameTokens, Cond.selects RX6 yX6_hasSameTokens yX6_hasSameTokens, Cond.code yX6_hasSameTokens cX6_hasSameTokens 3 (some .boolean), Cond.methodLink RL 99 yX9_isEquivalent, Cond.instanceMethod yX9_isEquivalent, Cond.selects RX9 yX9_isEquivalent yX9_isEquivalent, Cond.code yX9_isEquivalent cX9_isEquivalent 4 (some .int), Cond.methodLink RL 100 yX8_machineSteps, Cond.instanceMethod yX8_machineSteps, Cond.selects RX8 yX8_machineSteps yX8_machineSteps, Cond.code yX8_machineSteps cX8_machineSteps 3 (some .int), Cond.methodLink RX8 186 yX2_work, Cond.instanceMethod yX2_work, Cond.selects RX2 yX2_work yX2_work, Cond.code yX2_work cX2_work 5 (some .boolean), Cond.methodLink RX2 53 Lib.Math.max.name, Cond.static Lib.Math.max.name, Cond.code Lib.Math.max.name Lib.Math.max.code 2 (some .int), Cond.methodLink RX2 29 yX2_start, Cond.instanceMethod yX2_start, Cond.selects RX2 yX2_start yX2_start, Cond.code yX2_start cX2_start 3 none, Cond.methodLink RX2 59 yX0_clear, Cond.instanceMethod yX0_clear]
def wsL_law_r26 : List Cond := [Cond.selects RX0 yX0_clear yX0_clear, Cond.code yX0_clear cX0_clear 1 none, Cond.methodLink RX2 62 yX6_length, Cond.methodLink RX2 65 yX6_token, Cond.methodLink RX2 69 yX0_add, Cond.instanceMethod yX0_add, Cond.selects RX0 yX0_add yX0_add, Cond.code yX0_add cX0_add 2 none, Cond.methodLink RX0 29 yX0_put, Cond.instanceMethod yX0_put, Cond.selects RX0 yX0_put yX0_put, Cond.code yX0_put cX0_put 4 none, Cond.methodLink RX2 49 yX0_length, Cond.instanceMethod yX0_length, Cond.selects RX0 yX0_length yX0_length, Cond.code yX0_length cX0_length 1 (some .int), Cond.methodLink RX2 33 yX2_firstPlace, Cond.instanceMethod yX2_firstPlace, Cond.selects RX2 yX2_firstPlace yX2_firstPlace, Cond.code yX2_firstPlace cX2_firstPlace 3 (some .int), Cond.methodLink RX2 37 yX2_ruleAt, Cond.instanceMethod yX2_ruleAt, Cond.selects RX2 yX2_ruleAt yX2_ruleAt, Cond.code yX2_ruleAt cX2_ruleAt 5 (some .int)]
def wsL_law_r27 : List Cond := [Cond.methodLink RX2 73 yX0_token, Cond.instanceMethod yX0_token, Cond.selects RX0 yX0_token yX0_token, Cond.code yX0_token cX0_token 2 (some .int), Cond.methodLink RX2 41 yX2_rewrite, Cond.instanceMethod yX2_rewrite, Cond.selects RX2 yX2_rewrite yX2_rewrite, Cond.code yX2_rewrite cX2_rewrite 4 none, Cond.methodLink RX2 74 yX0_addRange, Cond.instanceMethod yX0_addRange, Cond.selects RX0 yX0_addRange yX0_addRange, Cond.code yX0_addRange cX0_addRange 5 none, Cond.methodLink RX0 33 arraycopyName, Cond.methodLink RX2 78 yX2_writeBeta, Cond.instanceMethod yX2_writeBeta, Cond.selects RX2 yX2_writeBeta yX2_writeBeta, Cond.code yX2_writeBeta cX2_writeBeta 2 none, Cond.methodLink RX2 96 yX0_addClosure, Cond.instanceMethod yX0_addClosure, Cond.selects RX0 yX0_addClosure yX0_addClosure, Cond.code yX0_addClosure cX0_addClosure 3 none, Cond.methodLink RX2 93 yX0_behind, Cond.instanceMethod yX0_behind, Cond.selects RX0 yX0_behind yX0_behind]
def wsL_law_r28 : List Cond := [Cond.code yX0_behind cX0_behind 5 (some .int), Cond.methodLink RX0 39 yX0_token, Cond.methodLink RX0 46 yX0_entriesAt, Cond.instanceMethod yX0_entriesAt, Cond.selects RX0 yX0_entriesAt yX0_entriesAt, Cond.code yX0_entriesAt cX0_entriesAt 2 (some .int), Cond.methodLink RX2 81 yX2_writeApply, Cond.instanceMethod yX2_writeApply, Cond.selects RX2 yX2_writeApply yX2_writeApply, Cond.code yX2_writeApply cX2_writeApply 7 none, Cond.methodLink RX2 99 yX0_entriesAt, Cond.methodLink RX2 102 yX0_shiftAt, Cond.instanceMethod yX0_shiftAt, Cond.selects RX0 yX0_shiftAt yX0_shiftAt, Cond.code yX0_shiftAt cX0_shiftAt 2 (some .int), Cond.methodLink RX2 84 yX2_writeAbstract, Cond.instanceMethod yX2_writeAbstract, Cond.selects RX2 yX2_writeAbstract yX2_writeAbstract, Cond.code yX2_writeAbstract cX2_writeAbstract 6 none, Cond.methodLink RX2 45 yX0_isTooLarge, Cond.instanceMethod yX0_isTooLarge, Cond.selects RX0 yX0_isTooLarge yX0_isTooLarge, Cond.code yX0_isTooLarge cX0_isTooLarge 1 (some .boolean), Cond.methodLink RX2 87 yX2_writeLookup]
def wsL_law_r29 : List Cond := [Cond.instanceMethod yX2_writeLookup, Cond.selects RX2 yX2_writeLookup yX2_writeLookup, Cond.code yX2_writeLookup cX2_writeLookup 5 none, Cond.methodLink RX2 90 yX2_writeMerge, Cond.instanceMethod yX2_writeMerge, Cond.selects RX2 yX2_writeMerge yX2_writeMerge, Cond.code yX2_writeMerge cX2_writeMerge 12 none, Cond.methodLink RX2 105 Lib.Math.min.name, Cond.methodLink RX8 190 yX2_applications, Cond.instanceMethod yX2_applications, Cond.selects RX2 yX2_applications yX2_applications, Cond.code yX2_applications cX2_applications 2 (some .int), Cond.methodLink RL 103 yX9_machineSteps, Cond.instanceMethod yX9_machineSteps, Cond.selects RX9 yX9_machineSteps yX9_machineSteps, Cond.code yX9_machineSteps cX9_machineSteps 3 (some .int), Cond.constantLong RX9 189 (4), Cond.methodLink RX9 191 yX9_machine, Cond.instanceMethod yX9_machine, Cond.selects RX9 yX9_machine yX9_machine, Cond.code yX9_machine cX9_machine 6 (some .boolean), Cond.fieldLink RX9 179 "SubstitutionMachineModel" "peak" "I", Cond.fieldLink RX9 161 "SubstitutionMachineModel" "tooWide" "Z", Cond.methodLink RX9 182 yX9_ruleAt]
def wsL_law_r30 : List Cond := [Cond.instanceMethod yX9_ruleAt, Cond.selects RX9 yX9_ruleAt yX9_ruleAt, Cond.code yX9_ruleAt cX9_ruleAt 4 (some .int), Cond.methodLink RX9 186 yX9_apply, Cond.instanceMethod yX9_apply, Cond.selects RX9 yX9_apply yX9_apply, Cond.code yX9_apply cX9_apply 12 none, Cond.constant RX9 173 (1001000), Cond.constant RX9 174 (1000001), Cond.methodLink RX9 169 yX9_addPart, Cond.instanceMethod yX9_addPart, Cond.selects RX9 yX9_addPart yX9_addPart, Cond.code yX9_addPart cX9_addPart 4 none, Cond.methodLink RX9 165 yX9_add, Cond.instanceMethod yX9_add, Cond.selects RX9 yX9_add yX9_add, Cond.code yX9_add cX9_add 2 none, Cond.methodLink RX9 175 yX9_merge, Cond.instanceMethod yX9_merge, Cond.selects RX9 yX9_merge yX9_merge, Cond.code yX9_merge cX9_merge 13 none, Cond.methodLink RL 104 yX8_machinePeak, Cond.instanceMethod yX8_machinePeak, Cond.selects RX8 yX8_machinePeak yX8_machinePeak]
def wsL_law_r31 : List Cond := [Cond.code yX8_machinePeak cX8_machinePeak 2 (some .int), Cond.methodLink RX8 193 yX2_peak, Cond.instanceMethod yX2_peak, Cond.selects RX2 yX2_peak yX2_peak, Cond.code yX2_peak cX2_peak 1 (some .int), Cond.methodLink RL 107 yX9_machinePeak, Cond.instanceMethod yX9_machinePeak, Cond.selects RX9 yX9_machinePeak yX9_machinePeak, Cond.code yX9_machinePeak cX9_machinePeak 2 (some .int), Cond.methodLink RL 110 yX8_runScript, Cond.instanceMethod yX8_runScript, Cond.selects RX8 yX8_runScript yX8_runScript, Cond.code yX8_runScript cX8_runScript 6 (some .int), Cond.constantLong RX8 200 (1000), Cond.methodLink RX8 196 yX8_withoutLowGroups, Cond.static yX8_withoutLowGroups, Cond.code yX8_withoutLowGroups cX8_withoutLowGroups 6 (some .long), Cond.methodLink RX8 202 yX8_commandSucceeds, Cond.instanceMethod yX8_commandSucceeds, Cond.selects RX8 yX8_commandSucceeds yX8_commandSucceeds, Cond.code yX8_commandSucceeds cX8_commandSucceeds 4 (some .boolean), Cond.methodLink RL 114 yX9_runScript, Cond.instanceMethod yX9_runScript, Cond.selects RX9 yX9_runScript yX9_runScript]
def wsL_law_r32 : List Cond := [Cond.code yX9_runScript cX9_runScript 6 (some .int), Cond.constantLong RX9 195 (1000), Cond.methodLink RX9 197 yX9_thousands, Cond.static yX9_thousands, Cond.code yX9_thousands cX9_thousands 4 (some .long), Cond.methodLink RX9 201 yX9_command, Cond.instanceMethod yX9_command, Cond.selects RX9 yX9_command yX9_command, Cond.code yX9_command cX9_command 8 (some .boolean), Cond.methodLink RL 115 yX8_observe, Cond.instanceMethod yX8_observe, Cond.selects RX8 yX8_observe yX8_observe, Cond.code yX8_observe cX8_observe 3 (some .int), Cond.methodLink RX8 205 yX3_add, Cond.instanceMethod yX3_add, Cond.selects RX3 yX3_add yX3_add, Cond.code yX3_add cX3_add 3 none, Cond.methodLink RX3 22 yX3_dropOldest, Cond.instanceMethod yX3_dropOldest, Cond.selects RX3 yX3_dropOldest yX3_dropOldest, Cond.code yX3_dropOldest cX3_dropOldest 2 none, Cond.methodLink RX8 208 yX3_count, Cond.instanceMethod yX3_count, Cond.selects RX3 yX3_count yX3_count]
def wsL_law_r33 : List Cond := [Cond.code yX3_count cX3_count 1 (some .int), Cond.methodLink RL 118 yX9_observe, Cond.instanceMethod yX9_observe, Cond.selects RX9 yX9_observe yX9_observe, Cond.code yX9_observe cX9_observe 4 (some .int), Cond.fieldLink RX9 205 "SubstitutionMachineModel" "observed" "I", Cond.methodLink RL 119 yX8_forgetAfter, Cond.instanceMethod yX8_forgetAfter, Cond.selects RX8 yX8_forgetAfter yX8_forgetAfter, Cond.code yX8_forgetAfter cX8_forgetAfter 2 (some .int), Cond.methodLink RX8 209 yX3_keepUpTo, Cond.instanceMethod yX3_keepUpTo, Cond.selects RX3 yX3_keepUpTo yX3_keepUpTo, Cond.code yX3_keepUpTo cX3_keepUpTo 4 none, Cond.methodLink RL 122 yX9_forgetAfter, Cond.instanceMethod yX9_forgetAfter, Cond.selects RX9 yX9_forgetAfter yX9_forgetAfter, Cond.code yX9_forgetAfter cX9_forgetAfter 4 (some .int), Cond.methodLink RL 123 yX8_possibleStrategies, Cond.instanceMethod yX8_possibleStrategies, Cond.selects RX8 yX8_possibleStrategies yX8_possibleStrategies, Cond.code yX8_possibleStrategies cX8_possibleStrategies 3 (some .int), Cond.methodLink RX8 212 yX8_observationsHold, Cond.instanceMethod yX8_observationsHold]
def wsL_law_r34 : List Cond := [Cond.selects RX8 yX8_observationsHold yX8_observationsHold, Cond.code yX8_observationsHold cX8_observationsHold 4 (some .boolean), Cond.methodLink RX8 227 Lib.Math.min.name, Cond.methodLink RX8 224 yX3_greatestLimit, Cond.instanceMethod yX3_greatestLimit, Cond.selects RX3 yX3_greatestLimit yX3_greatestLimit, Cond.code yX3_greatestLimit cX3_greatestLimit 3 (some .int), Cond.methodLink RX3 25 Lib.Math.max.name, Cond.methodLink RX8 232 yX3_allow, Cond.instanceMethod yX3_allow, Cond.selects RX3 yX3_allow yX3_allow, Cond.code yX3_allow cX3_allow 4 (some .boolean), Cond.methodLink RL 126 yX9_possibleStrategies, Cond.instanceMethod yX9_possibleStrategies, Cond.selects RX9 yX9_possibleStrategies yX9_possibleStrategies, Cond.code yX9_possibleStrategies cX9_possibleStrategies 5 (some .int), Cond.methodLink RL 127 yX8_setSeed, Cond.instanceMethod yX8_setSeed, Cond.selects RX8 yX8_setSeed yX8_setSeed, Cond.code yX8_setSeed cX8_setSeed 5 (some .long), Cond.methodLink RL 131 yX9_setSeed, Cond.instanceMethod yX9_setSeed, Cond.selects RX9 yX9_setSeed yX9_setSeed, Cond.code yX9_setSeed cX9_setSeed 5 (some .long)]
def wsL_law_r35 : List Cond := [Cond.fieldLink RX9 208 "SubstitutionMachineModel" "seed" "J", Cond.methodLink RL 132 yX8_randomReduction, Cond.instanceMethod yX8_randomReduction, Cond.selects RX8 yX8_randomReduction yX8_randomReduction, Cond.code yX8_randomReduction cX8_randomReduction 4 (some .int), Cond.methodLink RX8 215 yX8_randomStepOnCopy, Cond.instanceMethod yX8_randomStepOnCopy, Cond.selects RX8 yX8_randomStepOnCopy yX8_randomStepOnCopy, Cond.code yX8_randomStepOnCopy cX8_randomStepOnCopy 3 none, Cond.constantLong RX8 235 (6364136223846793005), Cond.constantLong RX8 237 (1442695040888963407), Cond.methodLink RX8 239 yX5_numberedRedex, Cond.static yX5_numberedRedex, Cond.code yX5_numberedRedex cX5_numberedRedex 4 (some .int), Cond.methodLink RL 135 yX9_randomReduction, Cond.instanceMethod yX9_randomReduction, Cond.selects RX9 yX9_randomReduction yX9_randomReduction, Cond.code yX9_randomReduction cX9_randomReduction 6 (some .int), Cond.constantLong RX9 212 (30), Cond.constantLong RX9 214 (6364136223846793005), Cond.constantLong RX9 216 (1442695040888963407), Cond.methodLink RX9 218 yX9_redexNumber, Cond.static yX9_redexNumber, Cond.code yX9_redexNumber cX9_redexNumber 4 (some .int)]
def wsL_law_r36 : List Cond := [Cond.methodLink RL 136 yX8_save, Cond.instanceMethod yX8_save, Cond.selects RX8 yX8_save yX8_save, Cond.code yX8_save cX8_save 2 (some .int), Cond.methodLink RL 139 yX9_save, Cond.instanceMethod yX9_save, Cond.selects RX9 yX9_save yX9_save, Cond.code yX9_save cX9_save 3 (some .int), Cond.methodLink RL 140 yX8_restore, Cond.instanceMethod yX8_restore, Cond.selects RX8 yX8_restore yX8_restore, Cond.code yX8_restore cX8_restore 3 (some .int), Cond.methodLink RL 143 yX9_restore, Cond.instanceMethod yX9_restore, Cond.selects RX9 yX9_restore yX9_restore, Cond.code yX9_restore cX9_restore 2 (some .int)]
def wsL_law : List Cond := (wsL_law_r1 ++ (wsL_law_r2 ++ (wsL_law_r3 ++ (wsL_law_r4 ++ (wsL_law_r5 ++ (wsL_law_r6 ++ (wsL_law_r7 ++ (wsL_law_r8 ++ (wsL_law_r9 ++ (wsL_law_r10 ++ (wsL_law_r11 ++ (wsL_law_r12 ++ (wsL_law_r13 ++ (wsL_law_r14 ++ (wsL_law_r15 ++ (wsL_law_r16 ++ (wsL_law_r17 ++ (wsL_law_r18 ++ (wsL_law_r19 ++ (wsL_law_r20 ++ (wsL_law_r21 ++ (wsL_law_r22 ++ (wsL_law_r23 ++ (wsL_law_r24 ++ (wsL_law_r25 ++ (wsL_law_r26 ++ (wsL_law_r27 ++ (wsL_law_r28 ++ (wsL_law_r29 ++ (wsL_law_r30 ++ (wsL_law_r31 ++ (wsL_law_r32 ++ (wsL_law_r33 ++ (wsL_law_r34 ++ (wsL_law_r35 ++ wsL_law_r36))))))))))))))))))))))))))))))))))) ++ wsX80 ++ wsX90 ++ wsX60 ++ wsX40 ++ wsX50 ++ wsX20 ++ wsX10 ++ wsX70 ++ wsX30 ++ wsX00 ++ ([] : List Cond)
theorem inlX0 : ∀ w ∈ wsX00, w ∈ wsL_law := fun _ h => List.mem_append_left _ (List.mem_append_right _ h)
theorem inlX1 : ∀ w ∈ wsX10, w ∈ wsL_law := fun _ h => List.mem_append_left _ (List.mem_append_left _ (List.mem_append_left _ (List.mem_append_left _ (List.mem_append_right _ h))))
theorem inlX2 : ∀ w ∈ wsX20, w ∈ wsL_law := fun _ h => List.mem_append_left _ (List.mem_append_left _ (List.mem_append_left _ (List.mem_append_left _ (List.mem_append_left _ (List.mem_append_right _ h)))))
theorem inlX3 : ∀ w ∈ wsX30, w ∈ wsL_law := fun _ h => List.mem_append_left _ (List.mem_append_left _ (List.mem_append_right _ h))
theorem inlX4 : ∀ w ∈ wsX40, w ∈ wsL_law := fun _ h => List.mem_append_left _ (List.mem_append_left _ (List.mem_append_left _ (List.mem_append_left _ (List.mem_append_left _ (List.mem_append_left _ (List.mem_append_left _ (List.mem_append_right _ h)))))))
theorem inlX5 : ∀ w ∈ wsX50, w ∈ wsL_law := fun _ h => List.mem_append_left _ (List.mem_append_left _ (List.mem_append_left _ (List.mem_append_left _ (List.mem_append_left _ (List.mem_append_left _ (List.mem_append_right _ h))))))
theorem inlX6 : ∀ w ∈ wsX60, w ∈ wsL_law := fun _ h => List.mem_append_left _ (List.mem_append_left _ (List.mem_append_left _ (List.mem_append_left _ (List.mem_append_left _ (List.mem_append_left _ (List.mem_append_left _ (List.mem_append_left _ (List.mem_append_right _ h))))))))
theorem inlX7 : ∀ w ∈ wsX70, w ∈ wsL_law := fun _ h => List.mem_append_left _ (List.mem_append_left _ (List.mem_append_left _ (List.mem_append_right _ h)))
theorem inlX8 : ∀ w ∈ wsX80, w ∈ wsL_law := fun _ h => List.mem_append_left _ (List.mem_append_left _ (List.mem_append_left _ (List.mem_append_left _ (List.mem_append_left _ (List.mem_append_left _ (List.mem_append_left _ (List.mem_append_left _ (List.mem_append_left _ (List.mem_append_left _ (List.mem_append_right _ h))))))))))
theorem inlX9 : ∀ w ∈ wsX90, w ∈ wsL_law := fun _ h => List.mem_append_left _ (List.mem_append_left _ (List.mem_append_left _ (List.mem_append_left _ (List.mem_append_left _ (List.mem_append_left _ (List.mem_append_left _ (List.mem_append_left _ (List.mem_append_left _ (List.mem_append_right _ h)))))))))
abbrev vwCl : List vw_C := [(RX0, TX0, 5), (RX1, TX1, 4), (RX2, TX2, 4), (RX3, TX3, 3), (RX4, TX4, 3), (RX5, TX5, 3), (RX6, TX6, 3), (RX7, TX7, 2), (RX8, TX8, 12), (RX9, TX9, 23)]
end
section
/-! THE LAYER OF PICTURES. A heap is a function from places to cells (the place k lies at the address G.1 k); ints are images of whole numbers. -/
def zI (z : Int) : Int32 := Int32.ofInt z
def zJ (z : Int) : Int64 := Int64.ofInt z
abbrev rg (z : Int) : Prop := -2147483648 ≤ z ∧ z < 2147483648
theorem zI_toInt {z : Int} (h : rg z) : (zI z).toInt = z := by
  unfold zI
  rw [Int32.toInt_ofInt]
  have e : (Int32.size : Nat) = 4294967296 := rfl
  rw [e]
  exact Int.bmod_eq_of_le (by have := h.1; omega) (by have := h.2; omega)
theorem zI_of (x : Int32) : zI x.toInt = x := Int32.ofInt_toInt x
theorem zI_rg (x : Int32) : rg x.toInt := ⟨by have := Int32.le_toInt x; omega, by have := Int32.toInt_lt x; omega⟩
theorem zI_add (a b : Int) : zI a + zI b = zI (a + b) := (Int32.ofInt_add a b).symm
theorem zI_sub (a b : Int) : zI a - zI b = zI (a - b) := (Int32.ofInt_sub a b).symm
theorem zI_mul (a b : Int) : zI a * zI b = zI (a * b) := (Int32.ofInt_mul a b).symm
theorem zI_eq {a b : Int} (ha : rg a) (hb : rg b) : zI a = zI b ↔ a = b := ⟨fun h => by rw [← zI_toInt ha, ← zI_toInt hb, h], fun h => by rw [h]⟩
theorem zI_lt {a b : Int} (ha : rg a) (hb : rg b) : zI a < zI b ↔ a < b := by rw [Int32.lt_iff_toInt_lt, zI_toInt ha, zI_toInt hb]
theorem zI_le {a b : Int} (ha : rg a) (hb : rg b) : zI a ≤ zI b ↔ a ≤ b := by rw [Int32.le_iff_toInt_le, zI_toInt ha, zI_toInt hb]
theorem zI_0 : (0 : Int32) = zI 0 := rfl
theorem rg_0 : rg 0 := by decide
theorem zI_nI (n : Nat) : nI n = zI n := by
  unfold nI zI
  exact (Int32.ofInt_eq_ofNat).symm
theorem zI_cl {n : Nat} (h : n < 2147483648) : (zI n).toNatClampNeg = n := by rw [← zI_nI]; exact nI_clamp h
theorem zI_in {i : Int} {k n : Nat} (hi : i = k) (hk : k < n) (hn : n < 2147483648) : vp_in (zI i) n := by
  subst hi
  rw [← zI_nI]
  exact vp_in_nI hk hn
abbrev HP : Type := Nat → va_E
abbrev Gm : Type := (Nat → Nat) × Nat × va_G × ClassId × ClassId × ClassId
abbrev tyG (G : Gm) : List (ClassId × FieldType) := [(G.2.2.2.1, .int), (G.2.2.2.2.1, .boolean), (G.2.2.2.2.2, .array .int)]
def layG (G : Gm) (c : HP) : va_W := (List.range G.2.1).map (fun k => (G.1 k, c k))
def injG (G : Gm) : Prop := ∀ i j : Nat, i < G.2.1 → j < G.2.1 → G.1 i = G.1 j → i = j
def FA (G : Gm) : Nat → Prop := fun q => ∃ k, k < G.2.1 ∧ q = G.1 k
abbrev aI (G : Gm) (n : Nat) (F : Nat → Int) : va_E := .inl (G.2.2.2.1, n, .inl (fun k => zI (F k)))
abbrev aZ (G : Gm) (n : Nat) (F : Nat → Int) : va_E := .inl (G.2.2.2.2.1, n, .inl (fun k => zI (F k)))
abbrev aQ (G : Gm) (n : Nat) (f : Nat → Nat) : va_E := .inl (G.2.2.2.2.2, n, .inr (.inr (.inr (.inr (fun k => some (G.1 (f k)))))))
theorem layG_get {G : Gm} {c : HP} {k : Nat} (h : k < G.2.1) : (layG G c)[k]? = some (G.1 k, c k) := by
  unfold layG
  rw [List.getElem?_map, List.getElem?_range h]
  rfl
theorem layG_at {G : Gm} {c : HP} {k : Nat} {q : Nat × va_E} (h : (layG G c)[k]? = some q) : k < G.2.1 ∧ q = (G.1 k, c k) := by
  unfold layG at h
  rw [List.getElem?_map] at h
  rcases Nat.lt_or_ge k G.2.1 with g | g
  · rw [List.getElem?_range g] at h
    exact ⟨g, (Option.some.inj h).symm⟩
  · rw [List.getElem?_eq_none (by rw [List.length_range]; exact g)] at h
    cases h
theorem layG_set {G : Gm} {c : HP} {k : Nat} {e : va_E} (h : k < G.2.1) : (layG G c).set k (G.1 k, e) = layG G (va_up c k e) := by
  apply List.ext_getElem?
  intro i
  rw [List.getElem?_set]
  rcases Nat.lt_or_ge i G.2.1 with g | g
  · rw [layG_get g, layG_get g]
    by_cases hk : k = i
    · subst hk
      have hl : k < (layG G c).length := by unfold layG; rw [List.length_map, List.length_range]; exact h
      simp [va_up, hl]
    · have hk2 : ¬ i = k := fun z => hk z.symm
      simp [va_up, hk, hk2]
  · have e1 : ∀ c' : HP, (layG G c')[i]? = none := fun c' => by
      unfold layG
      rw [List.getElem?_map, List.getElem?_eq_none (by rw [List.length_range]; exact g)]
      rfl
    rw [e1, e1]
    by_cases hk : k = i
    · subst hk; omega
    · simp [hk]
theorem layG_D {G : Gm} (h : injG G) (c : HP) : va_D (FA G) (layG G c) := by
  refine ⟨fun i j p q hp hq e => ?_, fun k q hq => ?_⟩
  · obtain ⟨h1, rfl⟩ := layG_at hp
    obtain ⟨h2, rfl⟩ := layG_at hq
    exact h i j h1 h2 e
  · obtain ⟨h1, rfl⟩ := layG_at hq
    exact ⟨k, h1, rfl⟩
theorem upd_zI (F : Nat → Int) (j : Nat) (v : Int) : upd (fun k => zI (F k)) j (zI v) = fun k => zI (va_up F j v k) := by
  funext k
  unfold upd va_up
  split <;> rfl
theorem lk_eq {α : Type} {c : Nat → α} {h : Nat} {v : α} : va_up c h v h = v := if_pos rfl
theorem lk_ne {α : Type} {c : Nat → α} {h k : Nat} {v e : α} (n : k ≠ h) (q : c k = e) : va_up c h v k = e := (if_neg n).trans q
/-! locals -/
def lvf (ls : Array Slot) (nL : Nat) (L : Nat → Option Value) : Prop := ∃ l : List (Nat × Value), lv_has ls nL l ∧ ∀ i v, L i = some v → (i, v) ∈ l
abbrev stL (L : Nat → Option Value) (i : Nat) (v : Value) : Nat → Option Value := fun j => if j = i then some v else L j
abbrev stL2 (L : Nat → Option Value) (i : Nat) (v : Value) : Nat → Option Value := fun j => if j = i then some v else if j = i + 1 then none else L j
def okP (L : Nat → Option Value) (i : Nat) : Prop := ∀ k v, k + 1 = i → L k = some v → v.category = 1
theorem okP_0 {L : Nat → Option Value} : okP L 0 := fun k v h => by omega
theorem okP_n {L : Nat → Option Value} {k : Nat} (h : L k = none) : okP L (k + 1) := fun k' v e h' => by
  have : k' = k := by omega
  subst this
  rw [h] at h'
  cases h'
theorem okP_s {L : Nat → Option Value} {k : Nat} {w : Value} (h : L k = some w) (hw : w.category = 1) : okP L (k + 1) := fun k' v e h' => by
  have : k' = k := by omega
  subst this
  rw [h] at h'
  cases h'
  exact hw
abbrev mkL (l : List (Option Value)) : Nat → Option Value := fun i => (l[i]?).join
def subL (L : Nat → Option Value) : Nat → List (Option Value) → Prop
  | _, [] => True
  | k, none :: r => subL L (k + 1) r
  | k, some v :: r => L k = some v ∧ subL L (k + 1) r
theorem sE {L : Nat → Option Value} {k : Nat} : subL L k [] := trivial
theorem sN {L : Nat → Option Value} {k : Nat} {r : List (Option Value)} (h : subL L (k + 1) r) : subL L k (none :: r) := h
theorem sS {L : Nat → Option Value} {k : Nat} {v : Value} {r : List (Option Value)} (h : L k = some v) (h2 : subL L (k + 1) r) : subL L k (some v :: r) := ⟨h, h2⟩
theorem subL_get {L : Nat → Option Value} : ∀ (l : List (Option Value)) (k : Nat), subL L k l → ∀ i v, mkL l i = some v → L (k + i) = some v
  | [], k, _, i, v, h => by simp [mkL] at h
  | none :: r, k, h, 0, v, h2 => by simp [mkL] at h2
  | some w :: r, k, h, 0, v, h2 => by
    have : w = v := by simpa [mkL] using h2
    subst this
    exact h.1
  | none :: r, k, h, i + 1, v, h2 => by
    have := subL_get r (k + 1) h i v (by simpa [mkL] using h2)
    rw [show k + (i + 1) = k + 1 + i by omega]
    exact this
  | some w :: r, k, h, i + 1, v, h2 => by
    have := subL_get r (k + 1) h.2 i v (by simpa [mkL] using h2)
    rw [show k + (i + 1) = k + 1 + i by omega]
    exact this
theorem lvf_at {ls : Array Slot} {nL : Nat} {L : Nat → Option Value} (h : lvf ls nL L) {i : Nat} {v : Value} (hv : L i = some v) : ls[i]? = some (.val v) := by
  obtain ⟨l, h1, h2⟩ := h
  exact h1.2.2 (i, v) (h2 i v hv)
theorem lvf_st {l : List (Nat × Value)} {L : Nat → Option Value} {i : Nat} {w : Value} (h2 : ∀ i v, L i = some v → (i, v) ∈ l) (hp : okP L i) :
    ∀ j v, stL L i w j = some v → (j, v) ∈ ((i, w) :: l.filter (fun q => !(q.1 == i) && !(q.1 + 1 == i && q.2.category == 2))) := by
  intro j v h
  by_cases e : j = i
  · subst e
    have : w = v := by simpa [stL] using h
    subst this
    exact List.mem_cons_self
  · have h3 : L j = some v := by simpa [stL, e] using h
    refine List.mem_cons_of_mem _ (List.mem_filter.mpr ⟨h2 j v h3, ?_⟩)
    by_cases e2 : j + 1 = i
    · have := hp j v e2 h3
      simp [e, e2, this]
    · simp [e, e2]
theorem lvf_st2 {l : List (Nat × Value)} {L : Nat → Option Value} {i : Nat} {w : Value} (h2 : ∀ i v, L i = some v → (i, v) ∈ l) (hp : okP L i) :
    ∀ j v, stL2 L i w j = some v → (j, v) ∈ ((i, w) :: l.filter (fun q => !(q.1 == i) && (!(q.1 == i + 1) && !(q.1 + 1 == i && q.2.category == 2)))) := by
  intro j v h
  by_cases e : j = i
  · subst e
    have : w = v := by simpa [stL2] using h
    subst this
    exact List.mem_cons_self
  · by_cases e3 : j = i + 1
    · simp [stL2, e, e3] at h
    · have h3 : L j = some v := by simpa [stL2, e, e3] using h
      refine List.mem_cons_of_mem _ (List.mem_filter.mpr ⟨h2 j v h3, ?_⟩)
      by_cases e2 : j + 1 = i
      · have := hp j v e2 h3
        simp [e, e2, e3, this]
      · simp [e, e2, e3]
/-! the judgement -/
abbrev Cx : Type := Program × Launch × Env × Room × State × MethodId × Array Value × List Frame × Method × Code
def PQ (G : Gm) (Q : Option Value → HP → Prop) : Array Value → State → Outcome → State → Prop := fun _ st o t => ∃ (r : Option Value) (c : HP), o = .returned r ∧ Q r c ∧ va_P G.2.2.1 vwCl (layG G c) t.heap ∧ va_F (FA G) st t
def AW (G : Gm) (K : Cx) (Q : Option Value → HP → Prop) (pc : Nat) (L : Nat → Option Value) (st : List Value) (c : HP) : Prop :=
  match K with
  | (p, l, e, R, s, m, args, below, meth, cd) => ∀ (H : Heap) (locs : List Loc) (ls : Array Slot), va_P G.2.2.1 vwCl (layG G c) H → va_S (FA G) s.heap H locs → lvf ls cd.maxLocals L →
      W p l e R s m args below meth cd H locs 0 0 (MQ below (PQ G Q) args s 0 0 (FA G)) (F0 m pc ls st)
def nsts : List (String × Nat × MethodName) := [(RX0, 43, yX8_parts), (RX5, 54, yX8_parts), (RX5, 92, yX8_isVariable), (RX7, 23, yX8_parts), (RX8, 9, yX6_init), (RX8, 30, yX4_init), (RX8, 37, yX5_init), (RX8, 44, yX2_init), (RX8, 51, yX1_init), (RX8, 58, yX7_init), (RX8, 65, yX3_init), (RX2, 11, yX0_init), (RX5, 11, yX4_init), (RX5, 23, yX6_init)]
def nsK (U : State) : Prop := ∀ q ∈ nsts, va_Nw (.methodLinkNest q.1 q.2.1 q.2.2 RX8) U
theorem nsK.warm {s U : State} (hW : s.WarmedH U.vm) (h : nsK s) : nsK U := fun q hq => va_Nw.warmM hW (h q hq)
theorem nsK.same {s U : State} (hv : s.vm = U.vm) (h : nsK s) : nsK U := fun q hq => va_Nw.same rfl hv (h q hq)
def Fx (l : Launch) (G : Gm) (K : Cx) (cc : ByteArray) (nL : Nat) (own : String) (ret : Option FieldType) (rm : Room) : Prop :=
  match K with
  | (p, l', _, R, s, m, args, _, meth, cd) => p.tables.exec = Jvm.exec ∧ cd.code = cc ∧ cd.maxLocals = nL ∧ s.vm.findClass own = some m.cls ∧ (∀ w ∈ wsL_law, w.before args s = true) ∧ va_K G.2.2.1 vwCl (tyG G) s ∧ injG G ∧ meth.sig.returnType = ret ∧ meth.locks = false ∧ R = rm ∧ l' = l ∧ nsK s
def Qi (Q : Int32 → HP → Prop) : Option Value → HP → Prop := fun r c => ∃ v : Int32, r = some (.int v) ∧ Q v c
def Ql (Q : Int64 → HP → Prop) : Option Value → HP → Prop := fun r c => ∃ v : Int64, r = some (.long v) ∧ Q v c
def Qr (G : Gm) (Q : Nat → HP → Prop) : Option Value → HP → Prop := fun r c => ∃ k : Nat, r = some (.ref (G.1 k)) ∧ Q k c
def Qv (Q : HP → Prop) : Option Value → HP → Prop := fun r c => r = none ∧ Q c
abbrev rmR (f lo : Nat) : Room := { frames := f, cells := 0, slots := 0, locals := lo }
def AMet (l : Launch) (G : Gm) (y : MethodName) (cc : ByteArray) (nL : Nat) (ret : Option FieldType) (rm : Room) (args : List Value) (c : HP) (Q : Option Value → HP → Prop) : Prop :=
  Met l y (.code y cc nL ret :: wsL_law) rm (va_Pc args (fun U => va_P G.2.2.1 vwCl (layG G c) U.heap ∧ va_K G.2.2.1 vwCl (tyG G) U ∧ nsK U)) (PQ G Q) 0 0 (FA G)
section AL
variable {l : Launch} {G : Gm} {K : Cx} {cc : ByteArray} {nL : Nat} {own : String} {ret : Option FieldType} {rm : Room} {Q : Option Value → HP → Prop} {pc q : Nat} {L : Nat → Option Value} {st : List Value} {c : HP}
/-- fewer locals -/
theorem AW.loc {l : List (Option Value)} (h : subL L 0 l) (k : AW G K Q pc (mkL l) st c) : AW G K Q pc L st c := by
  obtain ⟨p, l', e, R, s, m, args, below, meth, cd⟩ := K
  intro H locs ls hP hS hl
  obtain ⟨l2, h1, h2⟩ := hl
  exact k H locs ls hP hS ⟨l2, h1, fun i v hv => h2 i v (by have := subL_get _ 0 h i v hv; rwa [Nat.zero_add] at this)⟩

theorem A_iconst {n : Int} (X : Fx l G K cc nL own ret rm) (d : decode cc pc = .ok (.iconst n, 1)) (hq : pc + 1 = q)
    (kk : AW G K Q q (L) (.int (zI n) :: st) c) : AW G K Q pc L (st) c := by
  subst hq
  obtain ⟨p, l1, e, R, s, m, args, below, meth, cd⟩ := K
  obtain ⟨hx, hb, hml, hown, hts, hK, hinj, hr, hlocks, hR, hl1, hns⟩ := X
  intro H locs ls hP hS hl
  exact lv_iconst hx hb d rfl (kk H locs ls hP hS hl)
theorem A_bipush {n : Int} (X : Fx l G K cc nL own ret rm) (d : decode cc pc = .ok (.bipush n, 2)) (hv : (Int8.ofInt n).toInt32 = zI n) (hq : pc + 2 = q)
    (kk : AW G K Q q (L) (.int (zI n) :: st) c) : AW G K Q pc L (st) c := by
  subst hq
  obtain ⟨p, l1, e, R, s, m, args, below, meth, cd⟩ := K
  obtain ⟨hx, hb, hml, hown, hts, hK, hinj, hr, hlocks, hR, hl1, hns⟩ := X
  intro H locs ls hP hS hl
  exact lv_bipush hx hb d hv (kk H locs ls hP hS hl)
theorem A_sipush {n : Int} (X : Fx l G K cc nL own ret rm) (d : decode cc pc = .ok (.sipush n, 3)) (hv : (Int16.ofInt n).toInt32 = zI n) (hq : pc + 3 = q)
    (kk : AW G K Q q (L) (.int (zI n) :: st) c) : AW G K Q pc L (st) c := by
  subst hq
  obtain ⟨p, l1, e, R, s, m, args, below, meth, cd⟩ := K
  obtain ⟨hx, hb, hml, hown, hts, hK, hinj, hr, hlocks, hR, hl1, hns⟩ := X
  intro H locs ls hP hS hl
  exact lv_sipush hx hb d hv (kk H locs ls hP hS hl)
theorem A_lconst {n : Fin 2} {v : Int64} (X : Fx l G K cc nL own ret rm) (d : decode cc pc = .ok (.lconst n, 1)) (hv : Int64.ofNat (n : Nat) = v) (hq : pc + 1 = q)
    (kk : AW G K Q q (L) (.long v :: st) c) : AW G K Q pc L (st) c := by
  subst hq
  obtain ⟨p, l1, e, R, s, m, args, below, meth, cd⟩ := K
  obtain ⟨hx, hb, hml, hown, hts, hK, hinj, hr, hlocks, hR, hl1, hns⟩ := X
  intro H locs ls hP hS hl
  exact lv_lconst hx hb d hv (kk H locs ls hP hS hl)
theorem A_ldc {index : Nat} {v : Int32} {n : Int} (X : Fx l G K cc nL own ret rm) (d : decode cc pc = .ok (.ldc index, 2)) (hc : Cond.constant own index v ∈ wsL_law) (hv : v = zI n) (hq : pc + 2 = q)
    (kk : AW G K Q q (L) (.int (zI n) :: st) c) : AW G K Q pc L (st) c := by
  subst hq
  obtain ⟨p, l1, e, R, s, m, args, below, meth, cd⟩ := K
  obtain ⟨hx, hb, hml, hown, hts, hK, hinj, hr, hlocks, hR, hl1, hns⟩ := X
  intro H locs ls hP hS hl
  exact lv_ldc hx hb hown (hts _ hc) d (by rw [hv]; exact kk H locs ls hP hS hl)
theorem A_ldc2 {index : Nat} {v : Int64} (X : Fx l G K cc nL own ret rm) (d : decode cc pc = .ok (.ldc2_w index, 3)) (hc : Cond.constantLong own index v ∈ wsL_law) (hq : pc + 3 = q)
    (kk : AW G K Q q (L) (.long v :: st) c) : AW G K Q pc L (st) c := by
  subst hq
  obtain ⟨p, l1, e, R, s, m, args, below, meth, cd⟩ := K
  obtain ⟨hx, hb, hml, hown, hts, hK, hinj, hr, hlocks, hR, hl1, hns⟩ := X
  intro H locs ls hP hS hl
  exact lv_ldc2 hx hb hown (hts _ hc) d (kk H locs ls hP hS hl)
theorem A_iload_n {k : Fin 4} {x : Int32} (X : Fx l G K cc nL own ret rm) (d : decode cc pc = .ok (.iload_n k, 1)) (h : L (k : Nat) = some (.int x)) (hq : pc + 1 = q)
    (kk : AW G K Q q (L) (.int x :: st) c) : AW G K Q pc L (st) c := by
  subst hq
  obtain ⟨p, l1, e, R, s, m, args, below, meth, cd⟩ := K
  obtain ⟨hx, hb, hml, hown, hts, hK, hinj, hr, hlocks, hR, hl1, hns⟩ := X
  intro H locs ls hP hS hl
  exact lv_iload_n hx hb d rfl (lvf_at hl h) (kk H locs ls hP hS hl)
theorem A_iload {i : Nat} {x : Int32} (X : Fx l G K cc nL own ret rm) (d : decode cc pc = .ok (.iload i, 2)) (h : L i = some (.int x)) (hq : pc + 2 = q)
    (kk : AW G K Q q (L) (.int x :: st) c) : AW G K Q pc L (st) c := by
  subst hq
  obtain ⟨p, l1, e, R, s, m, args, below, meth, cd⟩ := K
  obtain ⟨hx, hb, hml, hown, hts, hK, hinj, hr, hlocks, hR, hl1, hns⟩ := X
  intro H locs ls hP hS hl
  exact lv_iload hx hb d (lvf_at hl h) (kk H locs ls hP hS hl)
theorem A_lload_n {k : Fin 4} {x : Int64} (X : Fx l G K cc nL own ret rm) (d : decode cc pc = .ok (.lload_n k, 1)) (h : L (k : Nat) = some (.long x)) (hq : pc + 1 = q)
    (kk : AW G K Q q (L) (.long x :: st) c) : AW G K Q pc L (st) c := by
  subst hq
  obtain ⟨p, l1, e, R, s, m, args, below, meth, cd⟩ := K
  obtain ⟨hx, hb, hml, hown, hts, hK, hinj, hr, hlocks, hR, hl1, hns⟩ := X
  intro H locs ls hP hS hl
  exact lv_lload_n hx hb d rfl (lvf_at hl h) (kk H locs ls hP hS hl)
theorem A_lload {i : Nat} {x : Int64} (X : Fx l G K cc nL own ret rm) (d : decode cc pc = .ok (.lload i, 2)) (h : L i = some (.long x)) (hq : pc + 2 = q)
    (kk : AW G K Q q (L) (.long x :: st) c) : AW G K Q pc L (st) c := by
  subst hq
  obtain ⟨p, l1, e, R, s, m, args, below, meth, cd⟩ := K
  obtain ⟨hx, hb, hml, hown, hts, hK, hinj, hr, hlocks, hR, hl1, hns⟩ := X
  intro H locs ls hP hS hl
  exact lv_lload hx hb d (lvf_at hl h) (kk H locs ls hP hS hl)
theorem A_aload_n {k : Fin 4} {x : Nat} (X : Fx l G K cc nL own ret rm) (d : decode cc pc = .ok (.aload_n k, 1)) (h : L (k : Nat) = some (.ref x)) (hq : pc + 1 = q)
    (kk : AW G K Q q (L) (.ref x :: st) c) : AW G K Q pc L (st) c := by
  subst hq
  obtain ⟨p, l1, e, R, s, m, args, below, meth, cd⟩ := K
  obtain ⟨hx, hb, hml, hown, hts, hK, hinj, hr, hlocks, hR, hl1, hns⟩ := X
  intro H locs ls hP hS hl
  exact lv_aload_n hx hb d rfl (lvf_at hl h) (kk H locs ls hP hS hl)
theorem A_aload {i : Nat} {x : Nat} (X : Fx l G K cc nL own ret rm) (d : decode cc pc = .ok (.aload i, 2)) (h : L i = some (.ref x)) (hq : pc + 2 = q)
    (kk : AW G K Q q (L) (.ref x :: st) c) : AW G K Q pc L (st) c := by
  subst hq
  obtain ⟨p, l1, e, R, s, m, args, below, meth, cd⟩ := K
  obtain ⟨hx, hb, hml, hown, hts, hK, hinj, hr, hlocks, hR, hl1, hns⟩ := X
  intro H locs ls hP hS hl
  exact lv_aload hx hb d (lvf_at hl h) (kk H locs ls hP hS hl)
theorem A_istore_n {k : Fin 4} {x : Int32} (X : Fx l G K cc nL own ret rm) (d : decode cc pc = .ok (.istore_n k, 1)) (hn : (k : Nat) < nL) (hp : okP L k) (hq : pc + 1 = q)
    (kk : AW G K Q q (stL L k (.int x)) (st) c) : AW G K Q pc L (.int x :: st) c := by
  subst hq
  obtain ⟨p, l1, e, R, s, m, args, below, meth, cd⟩ := K
  obtain ⟨hx, hb, hml, hown, hts, hK, hinj, hr, hlocks, hR, hl1, hns⟩ := X
  intro H locs ls hP hS hl
  obtain ⟨l2, h1, h2⟩ := hl
  exact lv_istore_n hx hb d rfl h1 (by rw [hml]; exact hn) rfl (fun ls' hl' => kk H locs ls' hP hS ⟨_, hl', lvf_st h2 hp⟩)
theorem A_istore {i : Nat} {x : Int32} (X : Fx l G K cc nL own ret rm) (d : decode cc pc = .ok (.istore i, 2)) (hn : i < nL) (hp : okP L i) (hq : pc + 2 = q)
    (kk : AW G K Q q (stL L i (.int x)) (st) c) : AW G K Q pc L (.int x :: st) c := by
  subst hq
  obtain ⟨p, l1, e, R, s, m, args, below, meth, cd⟩ := K
  obtain ⟨hx, hb, hml, hown, hts, hK, hinj, hr, hlocks, hR, hl1, hns⟩ := X
  intro H locs ls hP hS hl
  obtain ⟨l2, h1, h2⟩ := hl
  exact lv_istore hx hb d h1 (by rw [hml]; exact hn) rfl (fun ls' hl' => kk H locs ls' hP hS ⟨_, hl', lvf_st h2 hp⟩)
theorem A_astore_n {k : Fin 4} {x : Nat} (X : Fx l G K cc nL own ret rm) (d : decode cc pc = .ok (.astore_n k, 1)) (hn : (k : Nat) < nL) (hp : okP L k) (hq : pc + 1 = q)
    (kk : AW G K Q q (stL L k (.ref x)) (st) c) : AW G K Q pc L (.ref x :: st) c := by
  subst hq
  obtain ⟨p, l1, e, R, s, m, args, below, meth, cd⟩ := K
  obtain ⟨hx, hb, hml, hown, hts, hK, hinj, hr, hlocks, hR, hl1, hns⟩ := X
  intro H locs ls hP hS hl
  obtain ⟨l2, h1, h2⟩ := hl
  exact lv_astore_n hx hb d rfl h1 (by rw [hml]; exact hn) rfl (fun ls' hl' => kk H locs ls' hP hS ⟨_, hl', lvf_st h2 hp⟩)
theorem A_astore {i : Nat} {x : Nat} (X : Fx l G K cc nL own ret rm) (d : decode cc pc = .ok (.astore i, 2)) (hn : i < nL) (hp : okP L i) (hq : pc + 2 = q)
    (kk : AW G K Q q (stL L i (.ref x)) (st) c) : AW G K Q pc L (.ref x :: st) c := by
  subst hq
  obtain ⟨p, l1, e, R, s, m, args, below, meth, cd⟩ := K
  obtain ⟨hx, hb, hml, hown, hts, hK, hinj, hr, hlocks, hR, hl1, hns⟩ := X
  intro H locs ls hP hS hl
  obtain ⟨l2, h1, h2⟩ := hl
  exact lv_astore hx hb d h1 (by rw [hml]; exact hn) rfl (fun ls' hl' => kk H locs ls' hP hS ⟨_, hl', lvf_st h2 hp⟩)
theorem A_lstore_n {k : Fin 4} {x : Int64} (X : Fx l G K cc nL own ret rm) (d : decode cc pc = .ok (.lstore_n k, 1)) (hn : (k : Nat) + 1 < nL) (hp : okP L k) (hq : pc + 1 = q)
    (kk : AW G K Q q (stL2 L k (.long x)) (st) c) : AW G K Q pc L (.long x :: st) c := by
  subst hq
  obtain ⟨p, l1, e, R, s, m, args, below, meth, cd⟩ := K
  obtain ⟨hx, hb, hml, hown, hts, hK, hinj, hr, hlocks, hR, hl1, hns⟩ := X
  intro H locs ls hP hS hl
  obtain ⟨l2, h1, h2⟩ := hl
  exact lv_lstore_n hx hb d rfl h1 (by rw [hml]; exact hn) rfl (fun ls' hl' => kk H locs ls' hP hS ⟨_, hl', lvf_st2 h2 hp⟩)
theorem A_iinc {i : Nat} {n z : Int} (X : Fx l G K cc nL own ret rm) (d : decode cc pc = .ok (.iinc i n, 3)) (h : L i = some (.int (zI z))) (hn : i < nL) (hp : okP L i) (hq : pc + 3 = q)
    (kk : AW G K Q q (stL L i (.int (zI (z + n)))) (st) c) : AW G K Q pc L (st) c := by
  subst hq
  obtain ⟨p, l1, e, R, s, m, args, below, meth, cd⟩ := K
  obtain ⟨hx, hb, hml, hown, hts, hK, hinj, hr, hlocks, hR, hl1, hns⟩ := X
  intro H locs ls hP hS hl
  obtain ⟨l2, h1, h2⟩ := hl
  obtain ⟨k, hk⟩ := List.getElem?_of_mem (h2 i _ h)
  exact lv_iinc hx hb d h1 hk (v := zI (z + n)) (zI_add z n) (by rw [hml]; exact hn) rfl (fun ls' hl' => kk H locs ls' hP hS ⟨_, hl', lvf_st h2 hp⟩)
theorem A_iadd {x y : Int} (X : Fx l G K cc nL own ret rm) (d : decode cc pc = .ok (.iadd, 1)) (hq : pc + 1 = q)
    (kk : AW G K Q q (L) (.int (zI (x + y)) :: st) c) : AW G K Q pc L (.int (zI y) :: .int (zI x) :: st) c := by
  subst hq
  obtain ⟨p, l1, e, R, s, m, args, below, meth, cd⟩ := K
  obtain ⟨hx, hb, hml, hown, hts, hK, hinj, hr, hlocks, hR, hl1, hns⟩ := X
  intro H locs ls hP hS hl
  exact lv_iadd hx hb d (by rw [zI_add]; exact kk H locs ls hP hS hl)
theorem A_isub {x y : Int} (X : Fx l G K cc nL own ret rm) (d : decode cc pc = .ok (.isub, 1)) (hq : pc + 1 = q)
    (kk : AW G K Q q (L) (.int (zI (x - y)) :: st) c) : AW G K Q pc L (.int (zI y) :: .int (zI x) :: st) c := by
  subst hq
  obtain ⟨p, l1, e, R, s, m, args, below, meth, cd⟩ := K
  obtain ⟨hx, hb, hml, hown, hts, hK, hinj, hr, hlocks, hR, hl1, hns⟩ := X
  intro H locs ls hP hS hl
  exact lv_isub hx hb d (by rw [zI_sub]; exact kk H locs ls hP hS hl)
theorem A_imul {x y : Int} (X : Fx l G K cc nL own ret rm) (d : decode cc pc = .ok (.imul, 1)) (hq : pc + 1 = q)
    (kk : AW G K Q q (L) (.int (zI (x * y)) :: st) c) : AW G K Q pc L (.int (zI y) :: .int (zI x) :: st) c := by
  subst hq
  obtain ⟨p, l1, e, R, s, m, args, below, meth, cd⟩ := K
  obtain ⟨hx, hb, hml, hown, hts, hK, hinj, hr, hlocks, hR, hl1, hns⟩ := X
  intro H locs ls hP hS hl
  exact lv_imul hx hb d (by rw [zI_mul]; exact kk H locs ls hP hS hl)
theorem A_iand {x y : Int32} (X : Fx l G K cc nL own ret rm) (d : decode cc pc = .ok (.iand, 1)) (hq : pc + 1 = q)
    (kk : AW G K Q q (L) (.int (x &&& y) :: st) c) : AW G K Q pc L (.int y :: .int x :: st) c := by
  subst hq
  obtain ⟨p, l1, e, R, s, m, args, below, meth, cd⟩ := K
  obtain ⟨hx, hb, hml, hown, hts, hK, hinj, hr, hlocks, hR, hl1, hns⟩ := X
  intro H locs ls hP hS hl
  exact lv_iand hx hb d (kk H locs ls hP hS hl)
theorem A_ior {x y : Int32} (X : Fx l G K cc nL own ret rm) (d : decode cc pc = .ok (.ior, 1)) (hq : pc + 1 = q)
    (kk : AW G K Q q (L) (.int (x ||| y) :: st) c) : AW G K Q pc L (.int y :: .int x :: st) c := by
  subst hq
  obtain ⟨p, l1, e, R, s, m, args, below, meth, cd⟩ := K
  obtain ⟨hx, hb, hml, hown, hts, hK, hinj, hr, hlocks, hR, hl1, hns⟩ := X
  intro H locs ls hP hS hl
  exact lv_ior hx hb d (kk H locs ls hP hS hl)
theorem A_ishl {x y : Int32} (X : Fx l G K cc nL own ret rm) (d : decode cc pc = .ok (.ishl, 1)) (hq : pc + 1 = q)
    (kk : AW G K Q q (L) (.int (x <<< (y &&& 31)) :: st) c) : AW G K Q pc L (.int y :: .int x :: st) c := by
  subst hq
  obtain ⟨p, l1, e, R, s, m, args, below, meth, cd⟩ := K
  obtain ⟨hx, hb, hml, hown, hts, hK, hinj, hr, hlocks, hR, hl1, hns⟩ := X
  intro H locs ls hP hS hl
  exact lv_ishl hx hb d (kk H locs ls hP hS hl)
theorem zI_div {x y : Int} (hx : 0 ≤ x) (hx2 : rg x) (hy : 0 < y) (hy2 : rg y) : zI x / zI y = zI (x / y) := by
  obtain ⟨a, rfl⟩ := Int.eq_ofNat_of_zero_le hx
  obtain ⟨b, rfl⟩ := Int.eq_ofNat_of_zero_le (Int.le_of_lt hy)
  have h1 := hx2.2
  have h2 := hy2.2
  rw [← zI_nI, ← zI_nI, pk_div (by omega) (by omega) (by omega), zI_nI]
  rfl
theorem zI_rem {x y : Int} (hx : 0 ≤ x) (hx2 : rg x) (hy : 0 < y) (hy2 : rg y) : zI x - zI x / zI y * zI y = zI (x % y) := by
  rw [zI_div hx hx2 hy hy2, zI_mul, zI_sub]
  congr 1
  have := Int.emod_def x y
  rw [this, Int.mul_comm]
theorem A_idiv {x y : Int} (X : Fx l G K cc nL own ret rm) (d : decode cc pc = .ok (.idiv, 1)) (h1 : 0 ≤ x) (h2 : rg x) (h3 : 0 < y) (h4 : rg y) (hq : pc + 1 = q)
    (kk : AW G K Q q (L) (.int (zI (x / y)) :: st) c) : AW G K Q pc L (.int (zI y) :: .int (zI x) :: st) c := by
  subst hq
  obtain ⟨p, l1, e, R, s, m, args, below, meth, cd⟩ := K
  obtain ⟨hx, hb, hml, hown, hts, hK, hinj, hr, hlocks, hR, hl1, hns⟩ := X
  intro H locs ls hP hS hl
  exact lv_idiv hx hb d (by rw [zI_0, zI_eq h4 rg_0]; omega) (by rw [zI_div h1 h2 h3 h4]; exact kk H locs ls hP hS hl)
theorem A_irem {x y : Int} (X : Fx l G K cc nL own ret rm) (d : decode cc pc = .ok (.irem, 1)) (h1 : 0 ≤ x) (h2 : rg x) (h3 : 0 < y) (h4 : rg y) (hq : pc + 1 = q)
    (kk : AW G K Q q (L) (.int (zI (x % y)) :: st) c) : AW G K Q pc L (.int (zI y) :: .int (zI x) :: st) c := by
  subst hq
  obtain ⟨p, l1, e, R, s, m, args, below, meth, cd⟩ := K
  obtain ⟨hx, hb, hml, hown, hts, hK, hinj, hr, hlocks, hR, hl1, hns⟩ := X
  intro H locs ls hP hS hl
  exact lv_irem hx hb d (by rw [zI_0, zI_eq h4 rg_0]; omega) (by rw [zI_rem h1 h2 h3 h4]; exact kk H locs ls hP hS hl)
theorem A_ladd {x y : Int64} (X : Fx l G K cc nL own ret rm) (d : decode cc pc = .ok (.ladd, 1)) (hq : pc + 1 = q)
    (kk : AW G K Q q (L) (.long (x + y) :: st) c) : AW G K Q pc L (.long y :: .long x :: st) c := by
  subst hq
  obtain ⟨p, l1, e, R, s, m, args, below, meth, cd⟩ := K
  obtain ⟨hx, hb, hml, hown, hts, hK, hinj, hr, hlocks, hR, hl1, hns⟩ := X
  intro H locs ls hP hS hl
  exact lv_ladd hx hb d (kk H locs ls hP hS hl)
theorem A_lsub {x y : Int64} (X : Fx l G K cc nL own ret rm) (d : decode cc pc = .ok (.lsub, 1)) (hq : pc + 1 = q)
    (kk : AW G K Q q (L) (.long (x - y) :: st) c) : AW G K Q pc L (.long y :: .long x :: st) c := by
  subst hq
  obtain ⟨p, l1, e, R, s, m, args, below, meth, cd⟩ := K
  obtain ⟨hx, hb, hml, hown, hts, hK, hinj, hr, hlocks, hR, hl1, hns⟩ := X
  intro H locs ls hP hS hl
  exact lv_lsub hx hb d (kk H locs ls hP hS hl)
theorem A_lmul {x y : Int64} (X : Fx l G K cc nL own ret rm) (d : decode cc pc = .ok (.lmul, 1)) (hq : pc + 1 = q)
    (kk : AW G K Q q (L) (.long (x * y) :: st) c) : AW G K Q pc L (.long y :: .long x :: st) c := by
  subst hq
  obtain ⟨p, l1, e, R, s, m, args, below, meth, cd⟩ := K
  obtain ⟨hx, hb, hml, hown, hts, hK, hinj, hr, hlocks, hR, hl1, hns⟩ := X
  intro H locs ls hP hS hl
  exact lv_lmul hx hb d (kk H locs ls hP hS hl)
theorem A_land {x y : Int64} (X : Fx l G K cc nL own ret rm) (d : decode cc pc = .ok (.land, 1)) (hq : pc + 1 = q)
    (kk : AW G K Q q (L) (.long (x &&& y) :: st) c) : AW G K Q pc L (.long y :: .long x :: st) c := by
  subst hq
  obtain ⟨p, l1, e, R, s, m, args, below, meth, cd⟩ := K
  obtain ⟨hx, hb, hml, hown, hts, hK, hinj, hr, hlocks, hR, hl1, hns⟩ := X
  intro H locs ls hP hS hl
  exact lv_land hx hb d (kk H locs ls hP hS hl)
theorem A_lor {x y : Int64} (X : Fx l G K cc nL own ret rm) (d : decode cc pc = .ok (.lor, 1)) (hq : pc + 1 = q)
    (kk : AW G K Q q (L) (.long (x ||| y) :: st) c) : AW G K Q pc L (.long y :: .long x :: st) c := by
  subst hq
  obtain ⟨p, l1, e, R, s, m, args, below, meth, cd⟩ := K
  obtain ⟨hx, hb, hml, hown, hts, hK, hinj, hr, hlocks, hR, hl1, hns⟩ := X
  intro H locs ls hP hS hl
  exact lv_lor hx hb d (kk H locs ls hP hS hl)
theorem A_ldiv {x y : Int64} (X : Fx l G K cc nL own ret rm) (d : decode cc pc = .ok (.ldiv, 1)) (hne : ¬ y = 0) (hq : pc + 1 = q)
    (kk : AW G K Q q (L) (.long (x / y) :: st) c) : AW G K Q pc L (.long y :: .long x :: st) c := by
  subst hq
  obtain ⟨p, l1, e, R, s, m, args, below, meth, cd⟩ := K
  obtain ⟨hx, hb, hml, hown, hts, hK, hinj, hr, hlocks, hR, hl1, hns⟩ := X
  intro H locs ls hP hS hl
  exact lv_ldiv hx hb d hne (kk H locs ls hP hS hl)
theorem A_lrem {x y : Int64} (X : Fx l G K cc nL own ret rm) (d : decode cc pc = .ok (.lrem, 1)) (hne : ¬ y = 0) (hq : pc + 1 = q)
    (kk : AW G K Q q (L) (.long (x - x / y * y) :: st) c) : AW G K Q pc L (.long y :: .long x :: st) c := by
  subst hq
  obtain ⟨p, l1, e, R, s, m, args, below, meth, cd⟩ := K
  obtain ⟨hx, hb, hml, hown, hts, hK, hinj, hr, hlocks, hR, hl1, hns⟩ := X
  intro H locs ls hP hS hl
  exact lv_lrem hx hb d hne (kk H locs ls hP hS hl)
theorem A_i2l {x : Int32} (X : Fx l G K cc nL own ret rm) (d : decode cc pc = .ok (.i2l, 1)) (hq : pc + 1 = q)
    (kk : AW G K Q q (L) (.long x.toInt64 :: st) c) : AW G K Q pc L (.int x :: st) c := by
  subst hq
  obtain ⟨p, l1, e, R, s, m, args, below, meth, cd⟩ := K
  obtain ⟨hx, hb, hml, hown, hts, hK, hinj, hr, hlocks, hR, hl1, hns⟩ := X
  intro H locs ls hP hS hl
  exact lv_i2l hx hb d rfl (kk H locs ls hP hS hl)
theorem A_l2i {x : Int64} (X : Fx l G K cc nL own ret rm) (d : decode cc pc = .ok (.l2i, 1)) (hq : pc + 1 = q)
    (kk : AW G K Q q (L) (.int x.toInt32 :: st) c) : AW G K Q pc L (.long x :: st) c := by
  subst hq
  obtain ⟨p, l1, e, R, s, m, args, below, meth, cd⟩ := K
  obtain ⟨hx, hb, hml, hown, hts, hK, hinj, hr, hlocks, hR, hl1, hns⟩ := X
  intro H locs ls hP hS hl
  exact lv_l2i hx hb d rfl (kk H locs ls hP hS hl)
theorem A_lushr {x : Int64} {y : Int32} (X : Fx l G K cc nL own ret rm) (d : decode cc pc = .ok (.lushr, 1)) (hq : pc + 1 = q)
    (kk : AW G K Q q (L) (.long (x.toUInt64 >>> (y.toInt64.toUInt64 &&& Int64.toUInt64 63)).toInt64 :: st) c) : AW G K Q pc L (.int y :: .long x :: st) c := by
  subst hq
  obtain ⟨p, l1, e, R, s, m, args, below, meth, cd⟩ := K
  obtain ⟨hx, hb, hml, hown, hts, hK, hinj, hr, hlocks, hR, hl1, hns⟩ := X
  intro H locs ls hP hS hl
  exact lv_lushr hx hb d rfl (kk H locs ls hP hS hl)
theorem A_lshl {x : Int64} {y : Int32} (X : Fx l G K cc nL own ret rm) (d : decode cc pc = .ok (.lshl, 1)) (hq : pc + 1 = q)
    (kk : AW G K Q q (L) (.long (x <<< (y.toInt64 &&& 63)) :: st) c) : AW G K Q pc L (.int y :: .long x :: st) c := by
  subst hq
  obtain ⟨p, l1, e, R, s, m, args, below, meth, cd⟩ := K
  obtain ⟨hx, hb, hml, hown, hts, hK, hinj, hr, hlocks, hR, hl1, hns⟩ := X
  intro H locs ls hP hS hl
  exact lv_lshl hx hb d rfl (kk H locs ls hP hS hl)
theorem A_lcmp {x y : Int64} (X : Fx l G K cc nL own ret rm) (d : decode cc pc = .ok (.lcmp, 1)) (hq : pc + 1 = q)
    (kk : AW G K Q q (L) (.int (lg_cmp x y) :: st) c) : AW G K Q pc L (.long y :: .long x :: st) c := by
  subst hq
  obtain ⟨p, l1, e, R, s, m, args, below, meth, cd⟩ := K
  obtain ⟨hx, hb, hml, hown, hts, hK, hinj, hr, hlocks, hR, hl1, hns⟩ := X
  intro H locs ls hP hS hl
  exact W.lcmp hx hb d (kk H locs ls hP hS hl)
theorem A_dup {v : Value} (X : Fx l G K cc nL own ret rm) (d : decode cc pc = .ok (.dup, 1)) (h1 : v.category = 1) (hq : pc + 1 = q)
    (kk : AW G K Q q (L) (v :: v :: st) c) : AW G K Q pc L (v :: st) c := by
  subst hq
  obtain ⟨p, l1, e, R, s, m, args, below, meth, cd⟩ := K
  obtain ⟨hx, hb, hml, hown, hts, hK, hinj, hr, hlocks, hR, hl1, hns⟩ := X
  intro H locs ls hP hS hl
  exact lv_dup hx hb d h1 (kk H locs ls hP hS hl)
theorem A_pop {v : Value} (X : Fx l G K cc nL own ret rm) (d : decode cc pc = .ok (.pop, 1)) (h1 : v.category = 1) (hq : pc + 1 = q)
    (kk : AW G K Q q (L) (st) c) : AW G K Q pc L (v :: st) c := by
  subst hq
  obtain ⟨p, l1, e, R, s, m, args, below, meth, cd⟩ := K
  obtain ⟨hx, hb, hml, hown, hts, hK, hinj, hr, hlocks, hR, hl1, hns⟩ := X
  intro H locs ls hP hS hl
  exact lv_pop hx hb d h1 (kk H locs ls hP hS hl)
theorem A_dup2 {v u : Value} (X : Fx l G K cc nL own ret rm) (d : decode cc pc = .ok (.dup2, 1)) (h1 : v.category = 1) (h2 : u.category = 1) (hq : pc + 1 = q)
    (kk : AW G K Q q (L) (v :: u :: v :: u :: st) c) : AW G K Q pc L (v :: u :: st) c := by
  subst hq
  obtain ⟨p, l1, e, R, s, m, args, below, meth, cd⟩ := K
  obtain ⟨hx, hb, hml, hown, hts, hK, hinj, hr, hlocks, hR, hl1, hns⟩ := X
  intro H locs ls hP hS hl
  exact lv_dup2_11 hx hb d h1 h2 (kk H locs ls hP hS hl)
theorem A_goto {off : Int} (X : Fx l G K cc nL own ret rm) (d : decode cc pc = .ok (.goto off, 3)) (ht : (pc : Int) + off = (q : Int)) (kk : AW G K Q q L st c) : AW G K Q pc L st c := by
  obtain ⟨p, l1, e, R, s, m, args, below, meth, cd⟩ := K
  obtain ⟨hx, hb, hml, hown, hts, hK, hinj, hr, hlocks, hR, hl1, hns⟩ := X
  intro H locs ls hP hS hl
  exact lv_goto hx hb d ht (kk H locs ls hP hS hl)
theorem A_icmp_eq {x y : Int} {off : Int} {t : Nat} (X : Fx l G K cc nL own ret rm) (d : decode cc pc = .ok (.if_icmp .eq off, 3)) (h1 : rg x) (h2 : rg y) (ht : (pc : Int) + off = (t : Int)) (hq : pc + 3 = q)
    (kt : x = y → AW G K Q t L st c) (kf : ¬ (x = y) → AW G K Q q L st c) : AW G K Q pc L (.int (zI y) :: .int (zI x) :: st) c := by
  subst hq
  obtain ⟨p, l1, e, R, s, m, args, below, meth, cd⟩ := K
  obtain ⟨hx, hb, hml, hown, hts, hK, hinj, hr, hlocks, hR, hl1, hns⟩ := X
  intro H locs ls hP hS hl
  refine lv_icmp_eq hx hb d ht (fun hh => kt ?_ H locs ls hP hS hl) (fun hh => kf ?_ H locs ls hP hS hl)
  · rw [zI_eq h1 h2] at hh
    exact hh
  · rw [zI_eq h1 h2] at hh
    exact hh
theorem A_if_eq {x : Int} {off : Int} {t : Nat} (X : Fx l G K cc nL own ret rm) (d : decode cc pc = .ok (.ifCond .eq off, 3)) (h1 : rg x) (ht : (pc : Int) + off = (t : Int)) (hq : pc + 3 = q)
    (kt : x = 0 → AW G K Q t L st c) (kf : ¬ (x = 0) → AW G K Q q L st c) : AW G K Q pc L (.int (zI x) :: st) c := by
  subst hq
  obtain ⟨p, l1, e, R, s, m, args, below, meth, cd⟩ := K
  obtain ⟨hx, hb, hml, hown, hts, hK, hinj, hr, hlocks, hR, hl1, hns⟩ := X
  intro H locs ls hP hS hl
  refine lv_if_eq hx hb d ht (fun hh => kt ?_ H locs ls hP hS hl) (fun hh => kf ?_ H locs ls hP hS hl)
  · rw [zI_0, zI_eq h1 rg_0] at hh
    exact hh
  · rw [zI_0, zI_eq h1 rg_0] at hh
    exact hh
theorem A_icmp_ne {x y : Int} {off : Int} {t : Nat} (X : Fx l G K cc nL own ret rm) (d : decode cc pc = .ok (.if_icmp .ne off, 3)) (h1 : rg x) (h2 : rg y) (ht : (pc : Int) + off = (t : Int)) (hq : pc + 3 = q)
    (kt : x ≠ y → AW G K Q t L st c) (kf : ¬ (x ≠ y) → AW G K Q q L st c) : AW G K Q pc L (.int (zI y) :: .int (zI x) :: st) c := by
  subst hq
  obtain ⟨p, l1, e, R, s, m, args, below, meth, cd⟩ := K
  obtain ⟨hx, hb, hml, hown, hts, hK, hinj, hr, hlocks, hR, hl1, hns⟩ := X
  intro H locs ls hP hS hl
  refine lv_icmp_ne hx hb d ht (fun hh => kt ?_ H locs ls hP hS hl) (fun hh => kf ?_ H locs ls hP hS hl)
  · intro z
    exact hh (by rw [zI_eq h1 h2]; exact z)
  · intro z
    rw [zI_eq h1 h2] at hh
    exact z hh
theorem A_if_ne {x : Int} {off : Int} {t : Nat} (X : Fx l G K cc nL own ret rm) (d : decode cc pc = .ok (.ifCond .ne off, 3)) (h1 : rg x) (ht : (pc : Int) + off = (t : Int)) (hq : pc + 3 = q)
    (kt : x ≠ 0 → AW G K Q t L st c) (kf : ¬ (x ≠ 0) → AW G K Q q L st c) : AW G K Q pc L (.int (zI x) :: st) c := by
  subst hq
  obtain ⟨p, l1, e, R, s, m, args, below, meth, cd⟩ := K
  obtain ⟨hx, hb, hml, hown, hts, hK, hinj, hr, hlocks, hR, hl1, hns⟩ := X
  intro H locs ls hP hS hl
  refine lv_if_ne hx hb d ht (fun hh => kt ?_ H locs ls hP hS hl) (fun hh => kf ?_ H locs ls hP hS hl)
  · intro z
    exact hh (by rw [zI_0, zI_eq h1 rg_0]; exact z)
  · intro z
    rw [zI_0, zI_eq h1 rg_0] at hh
    exact z hh
theorem A_icmp_lt {x y : Int} {off : Int} {t : Nat} (X : Fx l G K cc nL own ret rm) (d : decode cc pc = .ok (.if_icmp .lt off, 3)) (h1 : rg x) (h2 : rg y) (ht : (pc : Int) + off = (t : Int)) (hq : pc + 3 = q)
    (kt : x < y → AW G K Q t L st c) (kf : ¬ (x < y) → AW G K Q q L st c) : AW G K Q pc L (.int (zI y) :: .int (zI x) :: st) c := by
  subst hq
  obtain ⟨p, l1, e, R, s, m, args, below, meth, cd⟩ := K
  obtain ⟨hx, hb, hml, hown, hts, hK, hinj, hr, hlocks, hR, hl1, hns⟩ := X
  intro H locs ls hP hS hl
  refine lv_icmp_lt hx hb d ht (fun hh => kt ?_ H locs ls hP hS hl) (fun hh => kf ?_ H locs ls hP hS hl)
  · rw [zI_lt h1 h2] at hh
    exact hh
  · rw [zI_lt h1 h2] at hh
    exact hh
theorem A_if_lt {x : Int} {off : Int} {t : Nat} (X : Fx l G K cc nL own ret rm) (d : decode cc pc = .ok (.ifCond .lt off, 3)) (h1 : rg x) (ht : (pc : Int) + off = (t : Int)) (hq : pc + 3 = q)
    (kt : x < 0 → AW G K Q t L st c) (kf : ¬ (x < 0) → AW G K Q q L st c) : AW G K Q pc L (.int (zI x) :: st) c := by
  subst hq
  obtain ⟨p, l1, e, R, s, m, args, below, meth, cd⟩ := K
  obtain ⟨hx, hb, hml, hown, hts, hK, hinj, hr, hlocks, hR, hl1, hns⟩ := X
  intro H locs ls hP hS hl
  refine lv_if_lt hx hb d ht (fun hh => kt ?_ H locs ls hP hS hl) (fun hh => kf ?_ H locs ls hP hS hl)
  · rw [zI_0, zI_lt h1 rg_0] at hh
    exact hh
  · rw [zI_0, zI_lt h1 rg_0] at hh
    exact hh
theorem A_icmp_ge {x y : Int} {off : Int} {t : Nat} (X : Fx l G K cc nL own ret rm) (d : decode cc pc = .ok (.if_icmp .ge off, 3)) (h1 : rg x) (h2 : rg y) (ht : (pc : Int) + off = (t : Int)) (hq : pc + 3 = q)
    (kt : y ≤ x → AW G K Q t L st c) (kf : ¬ (y ≤ x) → AW G K Q q L st c) : AW G K Q pc L (.int (zI y) :: .int (zI x) :: st) c := by
  subst hq
  obtain ⟨p, l1, e, R, s, m, args, below, meth, cd⟩ := K
  obtain ⟨hx, hb, hml, hown, hts, hK, hinj, hr, hlocks, hR, hl1, hns⟩ := X
  intro H locs ls hP hS hl
  refine lv_icmp_ge hx hb d ht (fun hh => kt ?_ H locs ls hP hS hl) (fun hh => kf ?_ H locs ls hP hS hl)
  · rw [zI_le h2 h1] at hh
    exact hh
  · rw [zI_le h2 h1] at hh
    exact hh
theorem A_if_ge {x : Int} {off : Int} {t : Nat} (X : Fx l G K cc nL own ret rm) (d : decode cc pc = .ok (.ifCond .ge off, 3)) (h1 : rg x) (ht : (pc : Int) + off = (t : Int)) (hq : pc + 3 = q)
    (kt : 0 ≤ x → AW G K Q t L st c) (kf : ¬ (0 ≤ x) → AW G K Q q L st c) : AW G K Q pc L (.int (zI x) :: st) c := by
  subst hq
  obtain ⟨p, l1, e, R, s, m, args, below, meth, cd⟩ := K
  obtain ⟨hx, hb, hml, hown, hts, hK, hinj, hr, hlocks, hR, hl1, hns⟩ := X
  intro H locs ls hP hS hl
  refine lv_if_ge hx hb d ht (fun hh => kt ?_ H locs ls hP hS hl) (fun hh => kf ?_ H locs ls hP hS hl)
  · rw [zI_0, zI_le rg_0 h1] at hh
    exact hh
  · rw [zI_0, zI_le rg_0 h1] at hh
    exact hh
theorem A_icmp_gt {x y : Int} {off : Int} {t : Nat} (X : Fx l G K cc nL own ret rm) (d : decode cc pc = .ok (.if_icmp .gt off, 3)) (h1 : rg x) (h2 : rg y) (ht : (pc : Int) + off = (t : Int)) (hq : pc + 3 = q)
    (kt : y < x → AW G K Q t L st c) (kf : ¬ (y < x) → AW G K Q q L st c) : AW G K Q pc L (.int (zI y) :: .int (zI x) :: st) c := by
  subst hq
  obtain ⟨p, l1, e, R, s, m, args, below, meth, cd⟩ := K
  obtain ⟨hx, hb, hml, hown, hts, hK, hinj, hr, hlocks, hR, hl1, hns⟩ := X
  intro H locs ls hP hS hl
  refine lv_icmp_gt hx hb d ht (fun hh => kt ?_ H locs ls hP hS hl) (fun hh => kf ?_ H locs ls hP hS hl)
  · rw [zI_lt h2 h1] at hh
    exact hh
  · rw [zI_lt h2 h1] at hh
    exact hh
theorem A_if_gt {x : Int} {off : Int} {t : Nat} (X : Fx l G K cc nL own ret rm) (d : decode cc pc = .ok (.ifCond .gt off, 3)) (h1 : rg x) (ht : (pc : Int) + off = (t : Int)) (hq : pc + 3 = q)
    (kt : 0 < x → AW G K Q t L st c) (kf : ¬ (0 < x) → AW G K Q q L st c) : AW G K Q pc L (.int (zI x) :: st) c := by
  subst hq
  obtain ⟨p, l1, e, R, s, m, args, below, meth, cd⟩ := K
  obtain ⟨hx, hb, hml, hown, hts, hK, hinj, hr, hlocks, hR, hl1, hns⟩ := X
  intro H locs ls hP hS hl
  refine lv_if_gt hx hb d ht (fun hh => kt ?_ H locs ls hP hS hl) (fun hh => kf ?_ H locs ls hP hS hl)
  · rw [zI_0, zI_lt rg_0 h1] at hh
    exact hh
  · rw [zI_0, zI_lt rg_0 h1] at hh
    exact hh
theorem A_icmp_le {x y : Int} {off : Int} {t : Nat} (X : Fx l G K cc nL own ret rm) (d : decode cc pc = .ok (.if_icmp .le off, 3)) (h1 : rg x) (h2 : rg y) (ht : (pc : Int) + off = (t : Int)) (hq : pc + 3 = q)
    (kt : x ≤ y → AW G K Q t L st c) (kf : ¬ (x ≤ y) → AW G K Q q L st c) : AW G K Q pc L (.int (zI y) :: .int (zI x) :: st) c := by
  subst hq
  obtain ⟨p, l1, e, R, s, m, args, below, meth, cd⟩ := K
  obtain ⟨hx, hb, hml, hown, hts, hK, hinj, hr, hlocks, hR, hl1, hns⟩ := X
  intro H locs ls hP hS hl
  refine lv_icmp_le hx hb d ht (fun hh => kt ?_ H locs ls hP hS hl) (fun hh => kf ?_ H locs ls hP hS hl)
  · rw [zI_le h1 h2] at hh
    exact hh
  · rw [zI_le h1 h2] at hh
    exact hh
theorem A_if_le {x : Int} {off : Int} {t : Nat} (X : Fx l G K cc nL own ret rm) (d : decode cc pc = .ok (.ifCond .le off, 3)) (h1 : rg x) (ht : (pc : Int) + off = (t : Int)) (hq : pc + 3 = q)
    (kt : x ≤ 0 → AW G K Q t L st c) (kf : ¬ (x ≤ 0) → AW G K Q q L st c) : AW G K Q pc L (.int (zI x) :: st) c := by
  subst hq
  obtain ⟨p, l1, e, R, s, m, args, below, meth, cd⟩ := K
  obtain ⟨hx, hb, hml, hown, hts, hK, hinj, hr, hlocks, hR, hl1, hns⟩ := X
  intro H locs ls hP hS hl
  refine lv_if_le hx hb d ht (fun hh => kt ?_ H locs ls hP hS hl) (fun hh => kf ?_ H locs ls hP hS hl)
  · rw [zI_0, zI_le h1 rg_0] at hh
    exact hh
  · rw [zI_0, zI_le h1 rg_0] at hh
    exact hh
theorem A_tableIn {dflt lo hi : Int} {offs : Array Int} {len : Nat} {x : Int} {off : Int} (X : Fx l G K cc nL own ret rm) (d : decode cc pc = .ok (.tableswitch dflt lo hi offs, len)) (h0 : rg x) (h1 : lo ≤ x) (h2 : x ≤ hi) (ho : offs[(x - lo).toNat]? = some off) (ht : (pc : Int) + off = (q : Int)) (kk : AW G K Q q L st c) : AW G K Q pc L (.int (zI x) :: st) c := by
  obtain ⟨p, l1, e, R, s, m, args, below, meth, cd⟩ := K
  obtain ⟨hx, hb, hml, hown, hts, hK, hinj, hr, hlocks, hR, hl1, hns⟩ := X
  intro H locs ls hP hS hl
  exact lv_tableIn hx hb d (by rw [zI_toInt h0]; omega) (by rw [zI_toInt h0]; omega) (by rw [zI_toInt h0]; exact ho) ht (kk H locs ls hP hS hl)
theorem A_tableOut {dflt lo hi : Int} {offs : Array Int} {len : Nat} {x : Int} (X : Fx l G K cc nL own ret rm) (d : decode cc pc = .ok (.tableswitch dflt lo hi offs, len)) (h0 : rg x) (h1 : x < lo ∨ hi < x) (ht : (pc : Int) + dflt = (q : Int)) (kk : AW G K Q q L st c) : AW G K Q pc L (.int (zI x) :: st) c := by
  obtain ⟨p, l1, e, R, s, m, args, below, meth, cd⟩ := K
  obtain ⟨hx, hb, hml, hown, hts, hK, hinj, hr, hlocks, hR, hl1, hns⟩ := X
  intro H locs ls hP hS hl
  exact lv_tableOut hx hb d (by rw [zI_toInt h0]; omega) ht (kk H locs ls hP hS hl)
/-- a field's link out of a class's pool: class ci, slot k -/
def FL (own : String) (idx ci k : Nat) : Prop := ∃ (C : String) (T : u_T) (N : Nat) (ty0 : Nat → FieldType), vwCl[ci]? = some (C, T, N) ∧ k < N ∧ (∀ w ∈ u_ws C T N, w ∈ wsL_law) ∧ Cond.fieldLink own idx (T k).1 (T k).2.1 (T k).2.2.1 ∈ wsL_law ∧ (∀ k, k < N → parseFieldDescriptor (T k).2.2.1 = some (ty0 k)) ∧ (∀ a, a < N → ∀ b, b < N → a ≠ b → (T a).2.1 ≠ (T b).2.1)
/-- the same of a field that may be put, with its type -/
def FP (own : String) (idx ci k : Nat) (ty : FieldType) : Prop := ∃ (C : String) (T : u_T) (N : Nat) (ty0 : Nat → FieldType), vwCl[ci]? = some (C, T, N) ∧ k < N ∧ (∀ w ∈ u_ws C T N, w ∈ wsL_law) ∧ Cond.fieldLink own idx (T k).1 (T k).2.1 (T k).2.2.1 ∈ wsL_law ∧ (∀ k, k < N → parseFieldDescriptor (T k).2.2.1 = some (ty0 k)) ∧ (∀ a, a < N → ∀ b, b < N → a ≠ b → (T a).2.1 ≠ (T b).2.1) ∧ (T k).2.2.2 = false ∧ ty0 k = ty
theorem A_getf {idx ci k h : Nat} {fs : List Value} {v : Value} (X : Fx l G K cc nL own ret rm) (f : FL own idx ci k) (d : decode cc pc = .ok (.getfield idx, 3)) (hN : h < G.2.1) (hc : c h = .inr (ci, fs)) (hv : fs[k]? = some v) (hq : pc + 3 = q)
    (kk : AW G K Q q L (v :: st) c) : AW G K Q pc L (.ref (G.1 h) :: st) c := by
  subst hq
  obtain ⟨p, l1, e, R, s, m, args, below, meth, cd⟩ := K
  obtain ⟨hx, hb, hml, hown, hts, hK, hinj, hr, hlocks, hR, hl1, hns⟩ := X
  intro H locs ls hP hS hl
  obtain ⟨C, T, N, ty0, f1, f2, f3, f4, f5, f6⟩ := f
  exact va_get (q0 := h) hx hb hts f3 hown hK hP (by rw [layG_get hN, hc]) f1 k f2 (hts _ f4) (fun _ h9 => h9) hv d (kk H locs ls hP hS hl)
theorem A_putf {idx ci k h : Nat} {fs : List Value} {v : Value} {ty : FieldType} (X : Fx l G K cc nL own ret rm) (f : FP own idx ci k ty) (d : decode cc pc = .ok (.putfield idx, 3)) (hN : h < G.2.1) (hc : c h = .inr (ci, fs)) (hl0 : k < fs.length) (hn : narrow ty v = v) (hf : fits ty v = true) (hq : pc + 3 = q)
    (kk : AW G K Q q L st (va_up c h (.inr (ci, fs.set k v)))) : AW G K Q pc L (v :: .ref (G.1 h) :: st) c := by
  subst hq
  obtain ⟨p, l1, e, R, s, m, args, below, meth, cd⟩ := K
  obtain ⟨hx, hb, hml, hown, hts, hK, hinj, hr, hlocks, hR, hl1, hns⟩ := X
  intro H locs ls hP hS hl
  obtain ⟨C, T, N, ty0, f1, f2, f3, f4, f5, f6, f7, f8⟩ := f
  refine va_put (q0 := h) (ty := ty) hx hb hts f3 ty0 f5 f6 hown hK hP (layG_D hinj c) hS (by rw [layG_get hN, hc]) f1 k f2 (hts _ f4) (fun _ h9 => h9) f7 (by rw [← f8]; exact f5 k f2) hn hf hl0 d (fun H1 locs1 hP1 _ hS1 => ?_)
  rw [layG_set hN] at hP1
  exact kk H1 locs1 ls hP1 hS1 hl
theorem bz_ok {z : Int} (h : z = 0 ∨ z = 1) : narrow .boolean (.int (zI z)) = .int (zI z) ∧ fits .boolean (.int (zI z)) = true := by
  rcases h with rfl | rfl <;> exact ⟨by decide, by decide⟩
theorem A_iald {h n : Nat} {F : Nat → Int} {i : Int} (k : Nat) (X : Fx l G K cc nL own ret rm) (d : decode cc pc = .ok (.iaload, 1)) (hN : h < G.2.1) (hc : c h = aI G n F) (hi : i = (k : Int)) (hk : k < n) (hn : n < 2147483648) (hq : pc + 1 = q)
    (kk : AW G K Q q L (.int (zI (F k)) :: st) c) : AW G K Q pc L (.int (zI i) :: .ref (G.1 h) :: st) c := by
  subst hq
  obtain ⟨p, l1, e, R, s, m, args, below, meth, cd⟩ := K
  obtain ⟨hx, hb, hml, hown, hts, hK, hinj, hr, hlocks, hR, hl1, hns⟩ := X
  intro H locs ls hP hS hl
  refine va_iald (q0 := h) (t0 := 0) hx hb hK hP (by rw [layG_get hN, hc]) rfl (zI_in hi hk hn) d ?_
  have e1 : (zI i).toNatClampNeg = k := by rw [hi]; exact zI_cl (by omega)
  rw [e1]
  exact kk H locs ls hP hS hl
theorem A_zald {h n : Nat} {F : Nat → Int} {i : Int} (k : Nat) (X : Fx l G K cc nL own ret rm) (d : decode cc pc = .ok (.baload, 1)) (hN : h < G.2.1) (hc : c h = aZ G n F) (hi : i = (k : Int)) (hk : k < n) (hn : n < 2147483648) (hq : pc + 1 = q)
    (kk : AW G K Q q L (.int (zI (F k)) :: st) c) : AW G K Q pc L (.int (zI i) :: .ref (G.1 h) :: st) c := by
  subst hq
  obtain ⟨p, l1, e, R, s, m, args, below, meth, cd⟩ := K
  obtain ⟨hx, hb, hml, hown, hts, hK, hinj, hr, hlocks, hR, hl1, hns⟩ := X
  intro H locs ls hP hS hl
  refine va_zald (q0 := h) (t0 := 1) hx hb hK hP (by rw [layG_get hN, hc]) rfl (zI_in hi hk hn) d ?_
  have e1 : (zI i).toNatClampNeg = k := by rw [hi]; exact zI_cl (by omega)
  rw [e1]
  exact kk H locs ls hP hS hl
theorem A_iast {h n : Nat} {F : Nat → Int} {i v : Int} (k : Nat) (X : Fx l G K cc nL own ret rm) (d : decode cc pc = .ok (.iastore, 1)) (hN : h < G.2.1) (hc : c h = aI G n F) (hi : i = (k : Int)) (hk : k < n) (hn : n < 2147483648) (hq : pc + 1 = q)
    (kk : AW G K Q q L st (va_up c h (aI G n (va_up F k v)))) : AW G K Q pc L (.int (zI v) :: .int (zI i) :: .ref (G.1 h) :: st) c := by
  subst hq
  obtain ⟨p, l1, e, R, s, m, args, below, meth, cd⟩ := K
  obtain ⟨hx, hb, hml, hown, hts, hK, hinj, hr, hlocks, hR, hl1, hns⟩ := X
  intro H locs ls hP hS hl
  refine va_iast (q0 := h) (t0 := 0) hx hb hK hP (layG_D hinj c) hS (by rw [layG_get hN, hc]) rfl (zI_in hi hk hn) d (fun H1 locs1 hP1 _ hS1 => ?_)
  have e1 : (zI i).toNatClampNeg = k := by rw [hi]; exact zI_cl (by omega)
  rw [layG_set hN, e1, upd_zI] at hP1
  exact kk H1 locs1 ls hP1 hS1 hl
theorem A_zast {h n : Nat} {F : Nat → Int} {i v : Int} (k : Nat) (X : Fx l G K cc nL own ret rm) (d : decode cc pc = .ok (.bastore, 1)) (hN : h < G.2.1) (hc : c h = aZ G n F) (hi : i = (k : Int)) (hk : k < n) (hn : n < 2147483648) (hv : v = 0 ∨ v = 1) (hq : pc + 1 = q)
    (kk : AW G K Q q L st (va_up c h (aZ G n (va_up F k v)))) : AW G K Q pc L (.int (zI v) :: .int (zI i) :: .ref (G.1 h) :: st) c := by
  subst hq
  obtain ⟨p, l1, e, R, s, m, args, below, meth, cd⟩ := K
  obtain ⟨hx, hb, hml, hown, hts, hK, hinj, hr, hlocks, hR, hl1, hns⟩ := X
  intro H locs ls hP hS hl
  refine va_zast (q0 := h) (t0 := 1) hx hb hK hP (layG_D hinj c) hS (by rw [layG_get hN, hc]) rfl (zI_in hi hk hn) d (fun H1 locs1 hP1 _ hS1 => ?_)
  have e1 : (zI i).toNatClampNeg = k := by rw [hi]; exact zI_cl (by omega)
  have e2 : vp_nar .boolean (zI v) = zI v := by rcases hv with rfl | rfl <;> decide
  rw [layG_set hN, e1, e2, upd_zI] at hP1
  exact kk H1 locs1 ls hP1 hS1 hl
theorem A_aald {h n : Nat} {f : Nat → Nat} {i : Int} (k : Nat) (X : Fx l G K cc nL own ret rm) (d : decode cc pc = .ok (.aaload, 1)) (hN : h < G.2.1) (hc : c h = aQ G n f) (hi : i = (k : Int)) (hk : k < n) (hn : n < 2147483648) (hq : pc + 1 = q)
    (kk : AW G K Q q L (.ref (G.1 (f k)) :: st) c) : AW G K Q pc L (.int (zI i) :: .ref (G.1 h) :: st) c := by
  subst hq
  obtain ⟨p, l1, e, R, s, m, args, below, meth, cd⟩ := K
  obtain ⟨hx, hb, hml, hown, hts, hK, hinj, hr, hlocks, hR, hl1, hns⟩ := X
  intro H locs ls hP hS hl
  have hin := zI_in hi hk hn
  have e1 : (zI i).toNatClampNeg = k := by rw [hi]; exact zI_cl (by omega)
  have ha : (layG G c)[h]? = some (G.1 h, aQ G n f) := by rw [layG_get hN, hc]
  have hlt : (zI i).toNatClampNeg < n := by rw [e1]; exact hk
  refine W.aald (v := va_rf (some (G.1 (f (zI i).toNatClampNeg)))) (ty := .array .int) hx hb (hP h _ ha) ((hK.2 2 _ rfl).1 n (fun j => va_rf (some (G.1 (f j))))) rfl (fun q => by cases q) (by show ¬ (zI i < 0 ∨ (arrV _ _ _).slots.size ≤ _); rw [arrV_size]; exact hin) (by show (arrV _ _ _).slots[_]? = _; rw [arrV_read _ _ hlt]) rfl rfl d ?_
  rw [e1]
  exact kk H locs ls hP hS hl
theorem A_ireturn {Qm : Int32 → HP → Prop} {v : Int32} (X : Fx l G K cc nL own (some .int) rm) (d : decode cc pc = .ok (.ireturn, 1)) (hq : Qm v c) : AW G K (Qi Qm) pc L [.int v] c := by
  obtain ⟨p, l1, e, R, s, m, args, below, meth, cd⟩ := K
  obtain ⟨hx, hb, hml, hown, hts, hK, hinj, hr, hlocks, hR, hl1, hns⟩ := X
  intro H locs ls hP hS hl
  exact W.iret hx hb hr (fun t ht hW => ⟨_, c, rfl, ⟨v, rfl, hq⟩, by rw [ht]; exact hP, hS.F ht⟩) hS.2.2 d hlocks
theorem A_zreturn {Qm : Int32 → HP → Prop} {z : Int} (X : Fx l G K cc nL own (some .boolean) rm) (d : decode cc pc = .ok (.ireturn, 1)) (hz : z = 0 ∨ z = 1) (hq : Qm (zI z) c) : AW G K (Qi Qm) pc L [.int (zI z)] c := by
  obtain ⟨p, l1, e, R, s, m, args, below, meth, cd⟩ := K
  obtain ⟨hx, hb, hml, hown, hts, hK, hinj, hr, hlocks, hR, hl1, hns⟩ := X
  intro H locs ls hP hS hl
  exact W.zret hx hb hr (bz_ok hz).1 (fun t ht hW => ⟨_, c, rfl, ⟨zI z, rfl, hq⟩, by rw [ht]; exact hP, hS.F ht⟩) hS.2.2 d hlocks
theorem A_lreturn {Qm : Int64 → HP → Prop} {v : Int64} (X : Fx l G K cc nL own (some .long) rm) (d : decode cc pc = .ok (.lreturn, 1)) (hq : Qm v c) : AW G K (Ql Qm) pc L [.long v] c := by
  obtain ⟨p, l1, e, R, s, m, args, below, meth, cd⟩ := K
  obtain ⟨hx, hb, hml, hown, hts, hK, hinj, hr, hlocks, hR, hl1, hns⟩ := X
  intro H locs ls hP hS hl
  exact W.lret hx hb hr (fun t ht hW => ⟨_, c, rfl, ⟨v, rfl, hq⟩, by rw [ht]; exact hP, hS.F ht⟩) hS.2.2 d hlocks
theorem A_return {Qm : HP → Prop} (X : Fx l G K cc nL own none rm) (d : decode cc pc = .ok (.return_, 1)) (hq : Qm c) : AW G K (Qv Qm) pc L [] c := by
  obtain ⟨p, l1, e, R, s, m, args, below, meth, cd⟩ := K
  obtain ⟨hx, hb, hml, hown, hts, hK, hinj, hr, hlocks, hR, hl1, hns⟩ := X
  intro H locs ls hP hS hl
  exact W.vret hx hb hr (fun t ht hW => ⟨_, c, rfl, ⟨rfl, hq⟩, by rw [ht]; exact hP, hS.F ht⟩) hS.2.2 d hlocks
theorem A_areturn {Qm : Nat → HP → Prop} {k : Nat} {n : String} (X : Fx l G K cc nL own (some (.object n)) rm) (d : decode cc pc = .ok (.areturn, 1)) (hq : Qm k c) : AW G K (Qr G Qm) pc L [.ref (G.1 k)] c := by
  obtain ⟨p, l1, e, R, s, m, args, below, meth, cd⟩ := K
  obtain ⟨hx, hb, hml, hown, hts, hK, hinj, hr, hlocks, hR, hl1, hns⟩ := X
  intro H locs ls hP hS hl
  exact W.aret hx hb hr (Or.inl ⟨n, rfl⟩) (Or.inr ⟨_, rfl⟩) (fun t ht hW => ⟨_, c, rfl, ⟨k, rfl, hq⟩, by rw [ht]; exact hP, hS.F ht⟩) hS.2.2 d hlocks
theorem zI_max {x y : Int} (h1 : rg x) (h2 : rg y) : (if zI x < zI y then zI y else zI x : Int32) = zI (max x y) := by
  by_cases h : x < y
  · rw [if_pos ((zI_lt h1 h2).mpr h)]
    congr 1
    omega
  · rw [if_neg (fun z => h ((zI_lt h1 h2).mp z))]
    congr 1
    omega
theorem A_mmax {idx : Nat} {x y : Int} (X : Fx l G K cc nL own ret rm) (d : decode cc pc = .ok (.invokestatic idx, 3)) (hk1 : Cond.methodLink own idx Lib.Math.max.name ∈ wsL_law) (hk2 : Cond.static Lib.Math.max.name ∈ wsL_law) (hk3 : Cond.initialized "java/lang/Math" ∈ wsL_law) (hk4 : Cond.code Lib.Math.max.name Lib.Math.max.code 2 (some .int) ∈ wsL_law) (h1 : rg x) (h2 : rg y) (hr1 : 1 ≤ rm.frames) (hr2 : (st.map fun v => v.category).sum + 13 ≤ rm.locals) (hq : pc + 3 = q)
    (kk : AW G K Q q L (.int (zI (max x y)) :: st) c) : AW G K Q pc L (.int (zI y) :: .int (zI x) :: st) c := by
  subst hq
  obtain ⟨p, l1, e, R, s, m, args, below, meth, cd⟩ := K
  obtain ⟨hx, hb, hml, hown, hts, hK, hinj, hr, hlocks, hR, hl1, hns⟩ := X
  intro H locs ls hP hS hl
  subst hR
  have hsz : cd.maxLocals = ls.size := by obtain ⟨l2, g1, -⟩ := hl; exact g1.1.symm
  refine va_mmax hx hb hsz hown (hts _ hk1) (hts _ hk2) (hts _ hk3) (hts _ hk4) hr1 hr2 (Nat.zero_le _) (Nat.zero_le _) d ?_
  rw [zI_max h1 h2]
  exact kk H locs ls hP hS hl
theorem zI_min {x y : Int} (h1 : rg x) (h2 : rg y) : (if zI y < zI x then zI y else zI x : Int32) = zI (min x y) := by
  by_cases h : y < x
  · rw [if_pos ((zI_lt h2 h1).mpr h)]
    congr 1
    omega
  · rw [if_neg (fun z => h ((zI_lt h2 h1).mp z))]
    congr 1
    omega
theorem A_mmin {idx : Nat} {x y : Int} (X : Fx l G K cc nL own ret rm) (d : decode cc pc = .ok (.invokestatic idx, 3)) (hk1 : Cond.methodLink own idx Lib.Math.min.name ∈ wsL_law) (hk2 : Cond.static Lib.Math.min.name ∈ wsL_law) (hk3 : Cond.initialized "java/lang/Math" ∈ wsL_law) (hk4 : Cond.code Lib.Math.min.name Lib.Math.min.code 2 (some .int) ∈ wsL_law) (h1 : rg x) (h2 : rg y) (hr1 : 1 ≤ rm.frames) (hr2 : (st.map fun v => v.category).sum + 13 ≤ rm.locals) (hq : pc + 3 = q)
    (kk : AW G K Q q L (.int (zI (min x y)) :: st) c) : AW G K Q pc L (.int (zI y) :: .int (zI x) :: st) c := by
  subst hq
  obtain ⟨p, l1, e, R, s, m, args, below, meth, cd⟩ := K
  obtain ⟨hx, hb, hml, hown, hts, hK, hinj, hr, hlocks, hR, hl1, hns⟩ := X
  intro H locs ls hP hS hl
  subst hR
  have hsz : cd.maxLocals = ls.size := by obtain ⟨l2, g1, -⟩ := hl; exact g1.1.symm
  refine va_mmin hx hb hsz hown (hts _ hk1) (hts _ hk2) (hts _ hk3) (hts _ hk4) hr1 hr2 (Nat.zero_le _) (Nat.zero_le _) d ?_
  rw [zI_min h1 h2]
  exact kk H locs ls hP hS hl
theorem cpy_zI (F E : Nat → Int) (sp dp n : Nat) : va_cpy (fun k => zI (F k)) (fun k => zI (E k)) sp dp n = fun k => zI (va_cpy F E sp dp n k) := by
  funext k
  unfold va_cpy
  split <;> rfl
theorem A_copy {idx h0 h1 n0 n1 : Nat} {F E : Nat → Int} {i j len : Int} (sp dp n : Nat) (X : Fx l G K cc nL own ret rm) (d : decode cc pc = .ok (.invokestatic idx, 3)) (hk1 : Cond.methodLink own idx arraycopyName ∈ wsL_law) (hk2 : Cond.native arraycopyName ∈ wsL_law) (hk3 : Cond.static arraycopyName ∈ wsL_law) (hk4 : Cond.initialized "java/lang/System" ∈ wsL_law)
    (hN0 : h0 < G.2.1) (hN1 : h1 < G.2.1) (hc0 : c h0 = aI G n0 F) (hc1 : c h1 = aI G n1 E) (hi : i = (sp : Int)) (hj : j = (dp : Int)) (hn : len = (n : Int)) (hs0 : sp + n ≤ n0) (hs1 : dp + n ≤ n1) (hn0 : n0 < 2147483648) (hn1 : n1 < 2147483648) (hr1 : 1 ≤ rm.frames) (hr2 : (st.map fun v => v.category).sum + (nativeFrameWords "java/lang/System" "arraycopy" 5 + 11) ≤ rm.locals) (hq : pc + 3 = q)
    (kk : AW G K Q q L st (va_up c h1 (aI G n1 (va_cpy F E sp dp n)))) : AW G K Q pc L (.int (zI len) :: .int (zI j) :: .ref (G.1 h1) :: .int (zI i) :: .ref (G.1 h0) :: st) c := by
  subst hq
  subst hi
  subst hj
  subst hn
  obtain ⟨p, l1, e, R, s, m, args, below, meth, cd⟩ := K
  obtain ⟨hx, hb, hml, hown, hts, hK, hinj, hr, hlocks, hR, hl1, hns⟩ := X
  intro H locs ls hP hS hl
  subst hR
  have hsz : cd.maxLocals = ls.size := by obtain ⟨l2, g1, -⟩ := hl; exact g1.1.symm
  have e1 : (zI sp).toNatClampNeg = sp := zI_cl (by omega)
  have e2 : (zI dp).toNatClampNeg = dp := zI_cl (by omega)
  have e3 : (zI n).toNatClampNeg = n := zI_cl (by omega)
  have e4 : ∀ u : Nat, u < 2147483648 → ¬ zI u < 0 := fun u hu => by rw [zI_0, zI_lt ⟨by omega, by omega⟩ rg_0]; omega
  refine va_copyi (q0 := h0) (q1 := h1) (t0 := 0) (t1 := 0) (ty := .int) hx hb hsz hown (hts _ hk1) (hts _ hk2) (hts _ hk3) (hts _ hk4) hK hP (layG_D hinj c) hS (by rw [layG_get hN0, hc0]) (by rw [layG_get hN1, hc1]) rfl rfl rfl (e4 sp (by omega)) (e4 dp (by omega)) (e4 n (by omega)) (by rw [e1, e3]; exact hs0) (by rw [e2, e3]; exact hs1) (fun _ _ => rfl) hr1 hr2 d (fun H1 locs1 hP1 _ hS1 => ?_)
  rw [layG_set hN1, e1, e2, e3, cpy_zI] at hP1
  exact kk H1 locs1 ls hP1 hS1 hl
end AL
end
section
/-! calls, and a method from its entry -/
theorem gw_all : wsL_law.all goodWord = true := by decide +kernel
theorem gw_in {y : MethodName} {cc : ByteArray} {nL : Nat} {ret : Option FieldType} (h : Cond.code y cc nL ret ∈ wsL_law) : GoodIn wsL_law (.code y cc nL ret :: wsL_law) := fun w hw => by
  have hm : w ∈ wsL_law := by
    rcases List.mem_cons.mp hw with e | e
    · rw [e]; exact h
    · exact e
  exact ⟨hm, good_of_word (List.all_eq_true.mp gw_all w hm)⟩
/-- what the tables say of a method that is called: as an object's method, as a static one -/
def MV (y : MethodName) (cc : ByteArray) (nL : Nat) (ret : Option FieldType) (n : Nat) : Prop := Cond.code y cc nL ret ∈ wsL_law ∧ Cond.initialized y.cls ∈ wsL_law ∧ Cond.instanceMethod y ∈ wsL_law ∧ Cond.selects y.cls y y ∈ wsL_law ∧ y.cls ≠ "java/lang/invoke/MethodHandle" ∧ y.cls ≠ "java/lang/invoke/VarHandle" ∧ (parseMethodDescriptor y.desc).map (fun d => d.parameters.length) = some n
def MS (y : MethodName) (cc : ByteArray) (nL : Nat) (ret : Option FieldType) (n : Nat) : Prop := Cond.code y cc nL ret ∈ wsL_law ∧ Cond.initialized y.cls ∈ wsL_law ∧ Cond.static y ∈ wsL_law ∧ y.cls ≠ "java/lang/invoke/MethodHandle" ∧ y.cls ≠ "java/lang/invoke/VarHandle" ∧ (parseMethodDescriptor y.desc).map (fun d => d.parameters.length) = some n
theorem pre_blind {G : Gm} {args : List Value} {c : HP} : FrameBlind (va_Pc args (fun U => va_P G.2.2.1 vwCl (layG G c) U.heap ∧ va_K G.2.2.1 vwCl (tyG G) U ∧ nsK U)) := by
  intro a U g mk h
  obtain ⟨h0, h1, h2, h3⟩ := h
  exact ⟨h0, h1, va_K.moved (u := U) (U := U.calling g mk a) (Vm.Alike.refl U.vm) h2, nsK.same rfl h3⟩
section AC
variable {l : Launch} {G : Gm} {K : Cx} {cc : ByteArray} {nL : Nat} {own : String} {ret : Option FieldType} {rm : Room} {Q : Option Value → HP → Prop} {pc q : Nat} {L : Nat → Option Value} {st : List Value} {c : HP}
theorem A_run {p : Program} {e : Env} {R : Room} {s : State} {m : MethodId} {args : Array Value} {below : List Frame} {meth : Method} {cd : Code} {H : Heap} {locs : List Loc} {ls : Array Slot} {st0 rest : List Value} {Qm : Option Value → HP → Prop} {a : Array Value} {QQ : State → Prop}
    (hr : va_Run p l e R s m args below meth cd H locs 0 0 0 0 (F0 m pc ls st0) rest (PQ G Qm a) (FA G)) (hS : va_S (FA G) s.heap H locs)
    (kk : ∀ (r : Option Value) (c' : HP) (H1 : Heap) (locs1 : List Loc), Qm r c' → va_P G.2.2.1 vwCl (layG G c') H1 → va_S (FA G) s.heap H1 locs1 → W p l e R s m args below meth cd H1 locs1 0 0 QQ (F0 m (pc + 3) ls (r.toList ++ rest))) :
    W p l e R s m args below meth cd H locs 0 0 QQ (F0 m pc ls st0) := by
  intro T hT X
  obtain ⟨v, st₀, t, T', L1, h0, X', hL, e1, e2, ⟨r, c', hv, hq, hp, hz, hk⟩, st1⟩ := hr T hT X
  cases hv
  rw [h0] at hz hk
  obtain ⟨t2, a1, b1⟩ := kk v c' T'.heap (locs ++ L1) hq (by rw [e1]; exact hp)
    ⟨Nat.le_trans hS.1 (by rw [e1]; exact hz), fun q h1 h2 => by rw [e1, hk q (Nat.lt_of_lt_of_le h1 hS.1) h2]; exact hS.2.1 q h1 h2, fun q hq => by
      rcases List.mem_append.mp hq with h | h
      · exact hS.2.2 q h
      · exact hL q h⟩ T' rfl X'
  exact ⟨t2, st1 t2 a1, b1⟩
variable {y : MethodName} {cy : ByteArray} {nY f0 l0 : Nat} {rY : Option FieldType} {idx : Nat} {Qm : Option Value → HP → Prop} {n : Nat}
theorem A_callV {b ci : Nat} {fs : List Value} {T : u_T} {N : Nat} {As rest st0 : List Value} (X : Fx l G K cc nL own ret rm) (hM : AMet l G y cy nY rY (rmR f0 l0) (.ref (G.1 b) :: As) c Qm) (mv : MV y cy nY rY n) (lk : Cond.methodLink own idx y ∈ wsL_law) (hN : b < G.2.1) (hc : c b = .inr (ci, fs)) (hcl : vwCl[ci]? = some (y.cls, T, N)) (hR : f0 + 1 ≤ rm.frames ∧ 8 + (nY + 11) + l0 ≤ rm.locals)
    (hn : As.length = n) (hst : st0 = As.reverse ++ .ref (G.1 b) :: rest) (hW : (rest.map fun v => v.category).sum ≤ 8) (d : decode cc pc = .ok (.invokevirtual idx, 3)) (hq : pc + 3 = q)
    (kk : ∀ (r : Option Value) (c' : HP), Qm r c' → AW G K Q q L (r.toList ++ rest) c') : AW G K Q pc L st0 c := by
  subst hq
  obtain ⟨p, l1, e, R, s, m, args, below, meth, cd⟩ := K
  obtain ⟨hx, hb, hml, hown, hts, hK, hinj, hr, hlocks, hR1, hl1, hns⟩ := X
  subst hl1
  subst hR1
  obtain ⟨v1, v2, v3, v4, v5, v6, v7⟩ := mv
  intro H locs ls hP hS hl
  have hsz : ls.size = nL := by obtain ⟨l2, g1, -⟩ := hl; rw [g1.1]; exact hml
  refine A_run (va_runV (C := y.cls) (As := As) (b := G.1 b) (rest := rest) (Ts := wsL_law) (n := n) ⟨hx, hb, hml, hown, hts⟩ hM
    ⟨callB_of (rm := rmR f0 l0) (mc := 0) (ms := 0) n hts (gw_in v1) rfl rfl rfl (hts _ v2) (hts _ lk) ⟨v5, v6, v7⟩ hR, hts _ v3, hts _ v4⟩
    ⟨pre_blind, va_recv hK hP hcl (q0 := b) (by rw [layG_get hN, hc]), fun U hU hW => ⟨rfl, by rw [hU]; exact hP, va_K.moved hW.alike hK, hns.warm hW⟩⟩
    rfl hn hsz hst (lv_room hW) d ⟨Nat.zero_le _, Nat.zero_le _⟩) hS (fun r c' H1 locs1 hq hP1 hS1 => kk r c' hq H1 locs1 ls hP1 hS1 hl)
theorem A_callS {As rest st0 : List Value} (X : Fx l G K cc nL own ret rm) (hM : AMet l G y cy nY rY (rmR f0 l0) As c Qm) (mv : MS y cy nY rY n) (lk : Cond.methodLink own idx y ∈ wsL_law) (hR : f0 + 1 ≤ rm.frames ∧ 8 + (nY + 11) + l0 ≤ rm.locals)
    (hn : As.length = n) (hst : st0 = As.reverse ++ rest) (hW : (rest.map fun v => v.category).sum ≤ 8) (d : decode cc pc = .ok (.invokestatic idx, 3)) (hq : pc + 3 = q)
    (kk : ∀ (r : Option Value) (c' : HP), Qm r c' → AW G K Q q L (r.toList ++ rest) c') : AW G K Q pc L st0 c := by
  subst hq
  obtain ⟨p, l1, e, R, s, m, args, below, meth, cd⟩ := K
  obtain ⟨hx, hb, hml, hown, hts, hK, hinj, hr, hlocks, hR1, hl1, hns⟩ := X
  subst hl1
  subst hR1
  obtain ⟨v1, v2, v3, v5, v6, v7⟩ := mv
  intro H locs ls hP hS hl
  have hsz : ls.size = nL := by obtain ⟨l2, g1, -⟩ := hl; rw [g1.1]; exact hml
  refine A_run (va_runS (As := As) (rest := rest) (Ts := wsL_law) (n := n) ⟨hx, hb, hml, hown, hts⟩ hM
    ⟨callB_of (rm := rmR f0 l0) (mc := 0) (ms := 0) n hts (gw_in v1) rfl rfl rfl (hts _ v2) (hts _ lk) ⟨v5, v6, v7⟩ hR, hts _ v3⟩
    ⟨pre_blind, fun U hU hW => ⟨rfl, by rw [hU]; exact hP, va_K.moved hW.alike hK, hns.warm hW⟩⟩
    rfl hn hsz hst (lv_room hW) d ⟨Nat.zero_le _, Nat.zero_le _⟩) hS (fun r c' H1 locs1 hq hP1 hS1 => kk r c' hq H1 locs1 ls hP1 hS1 hl)
/-- a nest mate's private static method -/
theorem A_callN {As rest st0 : List Value} (X : Fx l G K cc nL own ret rm) (hM : AMet l G y cy nY rY (rmR f0 l0) As c Qm) (mv : MS y cy nY rY n) (lk : (own, idx, y) ∈ nsts) (hR : f0 + 1 ≤ rm.frames ∧ 8 + (nY + 11) + l0 ≤ rm.locals)
    (hn : As.length = n) (hst : st0 = As.reverse ++ rest) (hW : (rest.map fun v => v.category).sum ≤ 8) (d : decode cc pc = .ok (.invokestatic idx, 3)) (hq : pc + 3 = q)
    (kk : ∀ (r : Option Value) (c' : HP), Qm r c' → AW G K Q q L (r.toList ++ rest) c') : AW G K Q pc L st0 c := by
  subst hq
  obtain ⟨p, l1, e, R, s, m, args, below, meth, cd⟩ := K
  obtain ⟨hx, hb, hml, hown, hts, hK, hinj, hr, hlocks, hR1, hl1, hns⟩ := X
  subst hl1
  subst hR1
  obtain ⟨v1, v2, v3, v5, v6, v7⟩ := mv
  intro H locs ls hP hS hl
  have hsz : ls.size = nL := by obtain ⟨l2, g1, -⟩ := hl; rw [g1.1]; exact hml
  refine A_run (va_runSN (host := RX8) (As := As) (rest := rest) (Ts := wsL_law) (n := n) ⟨hx, hb, hml, hown, hts⟩ hM
    ⟨va_cnB (rm := rmR f0 l0) (mc := 0) (ms := 0) n hts (gw_in v1) rfl rfl rfl (hns _ lk) (hts _ v2) ⟨v5, v6, v7⟩ hR, hts _ v3, trivial⟩
    ⟨pre_blind, fun U hU hW => ⟨rfl, by rw [hU]; exact hP, va_K.moved hW.alike hK, hns.warm hW⟩⟩
    rfl hn hsz hst (lv_room hW) d ⟨Nat.zero_le _, Nat.zero_le _⟩) hS (fun r c' H1 locs1 hq hP1 hS1 => kk r c' hq H1 locs1 ls hP1 hS1 hl)

theorem A_V0i {b ci : Nat} {fs : List Value} {T : u_T} {N : Nat} {Qn : Int32 → HP → Prop} (X : Fx l G K cc nL own ret rm) (hM : AMet l G y cy nY rY (rmR f0 l0) (.ref (G.1 b) :: []) c (Qi Qn)) (mv : MV y cy nY rY 0) (lk : Cond.methodLink own idx y ∈ wsL_law) (d : decode cc pc = .ok (.invokevirtual idx, 3)) (hN : b < G.2.1) (hc : c b = .inr (ci, fs)) (hcl : vwCl[ci]? = some (y.cls, T, N)) (hR : f0 + 1 ≤ rm.frames ∧ 8 + (nY + 11) + l0 ≤ rm.locals) (hW : (st.map fun v => v.category).sum ≤ 8) (hq : pc + 3 = q)
    (kk : ∀ (v : Int32) (c' : HP), Qn v c' → AW G K Q q L (.int v :: st) c') : AW G K Q pc L (.ref (G.1 b) :: st) c :=
  A_callV (As := []) X hM mv lk hN hc hcl hR rfl rfl hW d hq (fun r c' h => by obtain ⟨v, rfl, h⟩ := h; exact kk v c' h)
theorem A_V0v {b ci : Nat} {fs : List Value} {T : u_T} {N : Nat} {Qn : HP → Prop} (X : Fx l G K cc nL own ret rm) (hM : AMet l G y cy nY rY (rmR f0 l0) (.ref (G.1 b) :: []) c (Qv Qn)) (mv : MV y cy nY rY 0) (lk : Cond.methodLink own idx y ∈ wsL_law) (d : decode cc pc = .ok (.invokevirtual idx, 3)) (hN : b < G.2.1) (hc : c b = .inr (ci, fs)) (hcl : vwCl[ci]? = some (y.cls, T, N)) (hR : f0 + 1 ≤ rm.frames ∧ 8 + (nY + 11) + l0 ≤ rm.locals) (hW : (st.map fun v => v.category).sum ≤ 8) (hq : pc + 3 = q)
    (kk : ∀ c' : HP, Qn c' → AW G K Q q L st c') : AW G K Q pc L (.ref (G.1 b) :: st) c :=
  A_callV (As := []) X hM mv lk hN hc hcl hR rfl rfl hW d hq (fun r c' h => by obtain ⟨rfl, h⟩ := h; exact kk c' h)
theorem A_V1i {b ci : Nat} {fs : List Value} {T : u_T} {N : Nat} {a1 : Value} {Qn : Int32 → HP → Prop} (X : Fx l G K cc nL own ret rm) (hM : AMet l G y cy nY rY (rmR f0 l0) (.ref (G.1 b) :: [a1]) c (Qi Qn)) (mv : MV y cy nY rY 1) (lk : Cond.methodLink own idx y ∈ wsL_law) (d : decode cc pc = .ok (.invokevirtual idx, 3)) (hN : b < G.2.1) (hc : c b = .inr (ci, fs)) (hcl : vwCl[ci]? = some (y.cls, T, N)) (hR : f0 + 1 ≤ rm.frames ∧ 8 + (nY + 11) + l0 ≤ rm.locals) (hW : (st.map fun v => v.category).sum ≤ 8) (hq : pc + 3 = q)
    (kk : ∀ (v : Int32) (c' : HP), Qn v c' → AW G K Q q L (.int v :: st) c') : AW G K Q pc L (a1 :: .ref (G.1 b) :: st) c :=
  A_callV (As := [a1]) X hM mv lk hN hc hcl hR rfl rfl hW d hq (fun r c' h => by obtain ⟨v, rfl, h⟩ := h; exact kk v c' h)
theorem A_V1v {b ci : Nat} {fs : List Value} {T : u_T} {N : Nat} {a1 : Value} {Qn : HP → Prop} (X : Fx l G K cc nL own ret rm) (hM : AMet l G y cy nY rY (rmR f0 l0) (.ref (G.1 b) :: [a1]) c (Qv Qn)) (mv : MV y cy nY rY 1) (lk : Cond.methodLink own idx y ∈ wsL_law) (d : decode cc pc = .ok (.invokevirtual idx, 3)) (hN : b < G.2.1) (hc : c b = .inr (ci, fs)) (hcl : vwCl[ci]? = some (y.cls, T, N)) (hR : f0 + 1 ≤ rm.frames ∧ 8 + (nY + 11) + l0 ≤ rm.locals) (hW : (st.map fun v => v.category).sum ≤ 8) (hq : pc + 3 = q)
    (kk : ∀ c' : HP, Qn c' → AW G K Q q L st c') : AW G K Q pc L (a1 :: .ref (G.1 b) :: st) c :=
  A_callV (As := [a1]) X hM mv lk hN hc hcl hR rfl rfl hW d hq (fun r c' h => by obtain ⟨rfl, h⟩ := h; exact kk c' h)
theorem A_V2i {b ci : Nat} {fs : List Value} {T : u_T} {N : Nat} {a1 a2 : Value} {Qn : Int32 → HP → Prop} (X : Fx l G K cc nL own ret rm) (hM : AMet l G y cy nY rY (rmR f0 l0) (.ref (G.1 b) :: [a1, a2]) c (Qi Qn)) (mv : MV y cy nY rY 2) (lk : Cond.methodLink own idx y ∈ wsL_law) (d : decode cc pc = .ok (.invokevirtual idx, 3)) (hN : b < G.2.1) (hc : c b = .inr (ci, fs)) (hcl : vwCl[ci]? = some (y.cls, T, N)) (hR : f0 + 1 ≤ rm.frames ∧ 8 + (nY + 11) + l0 ≤ rm.locals) (hW : (st.map fun v => v.category).sum ≤ 8) (hq : pc + 3 = q)
    (kk : ∀ (v : Int32) (c' : HP), Qn v c' → AW G K Q q L (.int v :: st) c') : AW G K Q pc L (a2 :: a1 :: .ref (G.1 b) :: st) c :=
  A_callV (As := [a1, a2]) X hM mv lk hN hc hcl hR rfl rfl hW d hq (fun r c' h => by obtain ⟨v, rfl, h⟩ := h; exact kk v c' h)
theorem A_V2v {b ci : Nat} {fs : List Value} {T : u_T} {N : Nat} {a1 a2 : Value} {Qn : HP → Prop} (X : Fx l G K cc nL own ret rm) (hM : AMet l G y cy nY rY (rmR f0 l0) (.ref (G.1 b) :: [a1, a2]) c (Qv Qn)) (mv : MV y cy nY rY 2) (lk : Cond.methodLink own idx y ∈ wsL_law) (d : decode cc pc = .ok (.invokevirtual idx, 3)) (hN : b < G.2.1) (hc : c b = .inr (ci, fs)) (hcl : vwCl[ci]? = some (y.cls, T, N)) (hR : f0 + 1 ≤ rm.frames ∧ 8 + (nY + 11) + l0 ≤ rm.locals) (hW : (st.map fun v => v.category).sum ≤ 8) (hq : pc + 3 = q)
    (kk : ∀ c' : HP, Qn c' → AW G K Q q L st c') : AW G K Q pc L (a2 :: a1 :: .ref (G.1 b) :: st) c :=
  A_callV (As := [a1, a2]) X hM mv lk hN hc hcl hR rfl rfl hW d hq (fun r c' h => by obtain ⟨rfl, h⟩ := h; exact kk c' h)
theorem A_V3i {b ci : Nat} {fs : List Value} {T : u_T} {N : Nat} {a1 a2 a3 : Value} {Qn : Int32 → HP → Prop} (X : Fx l G K cc nL own ret rm) (hM : AMet l G y cy nY rY (rmR f0 l0) (.ref (G.1 b) :: [a1, a2, a3]) c (Qi Qn)) (mv : MV y cy nY rY 3) (lk : Cond.methodLink own idx y ∈ wsL_law) (d : decode cc pc = .ok (.invokevirtual idx, 3)) (hN : b < G.2.1) (hc : c b = .inr (ci, fs)) (hcl : vwCl[ci]? = some (y.cls, T, N)) (hR : f0 + 1 ≤ rm.frames ∧ 8 + (nY + 11) + l0 ≤ rm.locals) (hW : (st.map fun v => v.category).sum ≤ 8) (hq : pc + 3 = q)
    (kk : ∀ (v : Int32) (c' : HP), Qn v c' → AW G K Q q L (.int v :: st) c') : AW G K Q pc L (a3 :: a2 :: a1 :: .ref (G.1 b) :: st) c :=
  A_callV (As := [a1, a2, a3]) X hM mv lk hN hc hcl hR rfl rfl hW d hq (fun r c' h => by obtain ⟨v, rfl, h⟩ := h; exact kk v c' h)
theorem A_V3v {b ci : Nat} {fs : List Value} {T : u_T} {N : Nat} {a1 a2 a3 : Value} {Qn : HP → Prop} (X : Fx l G K cc nL own ret rm) (hM : AMet l G y cy nY rY (rmR f0 l0) (.ref (G.1 b) :: [a1, a2, a3]) c (Qv Qn)) (mv : MV y cy nY rY 3) (lk : Cond.methodLink own idx y ∈ wsL_law) (d : decode cc pc = .ok (.invokevirtual idx, 3)) (hN : b < G.2.1) (hc : c b = .inr (ci, fs)) (hcl : vwCl[ci]? = some (y.cls, T, N)) (hR : f0 + 1 ≤ rm.frames ∧ 8 + (nY + 11) + l0 ≤ rm.locals) (hW : (st.map fun v => v.category).sum ≤ 8) (hq : pc + 3 = q)
    (kk : ∀ c' : HP, Qn c' → AW G K Q q L st c') : AW G K Q pc L (a3 :: a2 :: a1 :: .ref (G.1 b) :: st) c :=
  A_callV (As := [a1, a2, a3]) X hM mv lk hN hc hcl hR rfl rfl hW d hq (fun r c' h => by obtain ⟨rfl, h⟩ := h; exact kk c' h)
theorem A_V4i {b ci : Nat} {fs : List Value} {T : u_T} {N : Nat} {a1 a2 a3 a4 : Value} {Qn : Int32 → HP → Prop} (X : Fx l G K cc nL own ret rm) (hM : AMet l G y cy nY rY (rmR f0 l0) (.ref (G.1 b) :: [a1, a2, a3, a4]) c (Qi Qn)) (mv : MV y cy nY rY 4) (lk : Cond.methodLink own idx y ∈ wsL_law) (d : decode cc pc = .ok (.invokevirtual idx, 3)) (hN : b < G.2.1) (hc : c b = .inr (ci, fs)) (hcl : vwCl[ci]? = some (y.cls, T, N)) (hR : f0 + 1 ≤ rm.frames ∧ 8 + (nY + 11) + l0 ≤ rm.locals) (hW : (st.map fun v => v.category).sum ≤ 8) (hq : pc + 3 = q)
    (kk : ∀ (v : Int32) (c' : HP), Qn v c' → AW G K Q q L (.int v :: st) c') : AW G K Q pc L (a4 :: a3 :: a2 :: a1 :: .ref (G.1 b) :: st) c :=
  A_callV (As := [a1, a2, a3, a4]) X hM mv lk hN hc hcl hR rfl rfl hW d hq (fun r c' h => by obtain ⟨v, rfl, h⟩ := h; exact kk v c' h)
theorem A_V4v {b ci : Nat} {fs : List Value} {T : u_T} {N : Nat} {a1 a2 a3 a4 : Value} {Qn : HP → Prop} (X : Fx l G K cc nL own ret rm) (hM : AMet l G y cy nY rY (rmR f0 l0) (.ref (G.1 b) :: [a1, a2, a3, a4]) c (Qv Qn)) (mv : MV y cy nY rY 4) (lk : Cond.methodLink own idx y ∈ wsL_law) (d : decode cc pc = .ok (.invokevirtual idx, 3)) (hN : b < G.2.1) (hc : c b = .inr (ci, fs)) (hcl : vwCl[ci]? = some (y.cls, T, N)) (hR : f0 + 1 ≤ rm.frames ∧ 8 + (nY + 11) + l0 ≤ rm.locals) (hW : (st.map fun v => v.category).sum ≤ 8) (hq : pc + 3 = q)
    (kk : ∀ c' : HP, Qn c' → AW G K Q q L st c') : AW G K Q pc L (a4 :: a3 :: a2 :: a1 :: .ref (G.1 b) :: st) c :=
  A_callV (As := [a1, a2, a3, a4]) X hM mv lk hN hc hcl hR rfl rfl hW d hq (fun r c' h => by obtain ⟨rfl, h⟩ := h; exact kk c' h)
theorem A_V5i {b ci : Nat} {fs : List Value} {T : u_T} {N : Nat} {a1 a2 a3 a4 a5 : Value} {Qn : Int32 → HP → Prop} (X : Fx l G K cc nL own ret rm) (hM : AMet l G y cy nY rY (rmR f0 l0) (.ref (G.1 b) :: [a1, a2, a3, a4, a5]) c (Qi Qn)) (mv : MV y cy nY rY 5) (lk : Cond.methodLink own idx y ∈ wsL_law) (d : decode cc pc = .ok (.invokevirtual idx, 3)) (hN : b < G.2.1) (hc : c b = .inr (ci, fs)) (hcl : vwCl[ci]? = some (y.cls, T, N)) (hR : f0 + 1 ≤ rm.frames ∧ 8 + (nY + 11) + l0 ≤ rm.locals) (hW : (st.map fun v => v.category).sum ≤ 8) (hq : pc + 3 = q)
    (kk : ∀ (v : Int32) (c' : HP), Qn v c' → AW G K Q q L (.int v :: st) c') : AW G K Q pc L (a5 :: a4 :: a3 :: a2 :: a1 :: .ref (G.1 b) :: st) c :=
  A_callV (As := [a1, a2, a3, a4, a5]) X hM mv lk hN hc hcl hR rfl rfl hW d hq (fun r c' h => by obtain ⟨v, rfl, h⟩ := h; exact kk v c' h)
theorem A_V5v {b ci : Nat} {fs : List Value} {T : u_T} {N : Nat} {a1 a2 a3 a4 a5 : Value} {Qn : HP → Prop} (X : Fx l G K cc nL own ret rm) (hM : AMet l G y cy nY rY (rmR f0 l0) (.ref (G.1 b) :: [a1, a2, a3, a4, a5]) c (Qv Qn)) (mv : MV y cy nY rY 5) (lk : Cond.methodLink own idx y ∈ wsL_law) (d : decode cc pc = .ok (.invokevirtual idx, 3)) (hN : b < G.2.1) (hc : c b = .inr (ci, fs)) (hcl : vwCl[ci]? = some (y.cls, T, N)) (hR : f0 + 1 ≤ rm.frames ∧ 8 + (nY + 11) + l0 ≤ rm.locals) (hW : (st.map fun v => v.category).sum ≤ 8) (hq : pc + 3 = q)
    (kk : ∀ c' : HP, Qn c' → AW G K Q q L st c') : AW G K Q pc L (a5 :: a4 :: a3 :: a2 :: a1 :: .ref (G.1 b) :: st) c :=
  A_callV (As := [a1, a2, a3, a4, a5]) X hM mv lk hN hc hcl hR rfl rfl hW d hq (fun r c' h => by obtain ⟨rfl, h⟩ := h; exact kk c' h)
theorem A_V0l {b ci : Nat} {fs : List Value} {T : u_T} {N : Nat} {Qn : Int64 → HP → Prop} (X : Fx l G K cc nL own ret rm) (hM : AMet l G y cy nY rY (rmR f0 l0) (.ref (G.1 b) :: []) c (Ql Qn)) (mv : MV y cy nY rY 0) (lk : Cond.methodLink own idx y ∈ wsL_law) (d : decode cc pc = .ok (.invokevirtual idx, 3)) (hN : b < G.2.1) (hc : c b = .inr (ci, fs)) (hcl : vwCl[ci]? = some (y.cls, T, N)) (hR : f0 + 1 ≤ rm.frames ∧ 8 + (nY + 11) + l0 ≤ rm.locals) (hW : (st.map fun v => v.category).sum ≤ 8) (hq : pc + 3 = q)
    (kk : ∀ (v : Int64) (c' : HP), Qn v c' → AW G K Q q L (.long v :: st) c') : AW G K Q pc L (.ref (G.1 b) :: st) c :=
  A_callV (As := []) X hM mv lk hN hc hcl hR rfl rfl hW d hq (fun r c' h => by obtain ⟨v, rfl, h⟩ := h; exact kk v c' h)
theorem A_V1l {b ci : Nat} {fs : List Value} {T : u_T} {N : Nat} {a1 : Value} {Qn : Int64 → HP → Prop} (X : Fx l G K cc nL own ret rm) (hM : AMet l G y cy nY rY (rmR f0 l0) (.ref (G.1 b) :: [a1]) c (Ql Qn)) (mv : MV y cy nY rY 1) (lk : Cond.methodLink own idx y ∈ wsL_law) (d : decode cc pc = .ok (.invokevirtual idx, 3)) (hN : b < G.2.1) (hc : c b = .inr (ci, fs)) (hcl : vwCl[ci]? = some (y.cls, T, N)) (hR : f0 + 1 ≤ rm.frames ∧ 8 + (nY + 11) + l0 ≤ rm.locals) (hW : (st.map fun v => v.category).sum ≤ 8) (hq : pc + 3 = q)
    (kk : ∀ (v : Int64) (c' : HP), Qn v c' → AW G K Q q L (.long v :: st) c') : AW G K Q pc L (a1 :: .ref (G.1 b) :: st) c :=
  A_callV (As := [a1]) X hM mv lk hN hc hcl hR rfl rfl hW d hq (fun r c' h => by obtain ⟨v, rfl, h⟩ := h; exact kk v c' h)
theorem A_V1r {b ci : Nat} {fs : List Value} {T : u_T} {N : Nat} {a1 : Value} {Qn : Nat → HP → Prop} (X : Fx l G K cc nL own ret rm) (hM : AMet l G y cy nY rY (rmR f0 l0) (.ref (G.1 b) :: [a1]) c (Qr G Qn)) (mv : MV y cy nY rY 1) (lk : Cond.methodLink own idx y ∈ wsL_law) (d : decode cc pc = .ok (.invokevirtual idx, 3)) (hN : b < G.2.1) (hc : c b = .inr (ci, fs)) (hcl : vwCl[ci]? = some (y.cls, T, N)) (hR : f0 + 1 ≤ rm.frames ∧ 8 + (nY + 11) + l0 ≤ rm.locals) (hW : (st.map fun v => v.category).sum ≤ 8) (hq : pc + 3 = q)
    (kk : ∀ (k : Nat) (c' : HP), Qn k c' → AW G K Q q L (.ref (G.1 k) :: st) c') : AW G K Q pc L (a1 :: .ref (G.1 b) :: st) c :=
  A_callV (As := [a1]) X hM mv lk hN hc hcl hR rfl rfl hW d hq (fun r c' h => by obtain ⟨v, rfl, h⟩ := h; exact kk v c' h)
theorem A_S1i {a1 : Value} {Qn : Int32 → HP → Prop} (X : Fx l G K cc nL own ret rm) (hM : AMet l G y cy nY rY (rmR f0 l0) [a1] c (Qi Qn)) (mv : MS y cy nY rY 1) (lk : Cond.methodLink own idx y ∈ wsL_law) (d : decode cc pc = .ok (.invokestatic idx, 3)) (hR : f0 + 1 ≤ rm.frames ∧ 8 + (nY + 11) + l0 ≤ rm.locals) (hW : (st.map fun v => v.category).sum ≤ 8) (hq : pc + 3 = q)
    (kk : ∀ (v : Int32) (c' : HP), Qn v c' → AW G K Q q L (.int v :: st) c') : AW G K Q pc L (a1 :: st) c :=
  A_callS (As := [a1]) X hM mv lk hR rfl rfl hW d hq (fun r c' h => by obtain ⟨v, rfl, h⟩ := h; exact kk v c' h)
theorem A_S1v {a1 : Value} {Qn : HP → Prop} (X : Fx l G K cc nL own ret rm) (hM : AMet l G y cy nY rY (rmR f0 l0) [a1] c (Qv Qn)) (mv : MS y cy nY rY 1) (lk : Cond.methodLink own idx y ∈ wsL_law) (d : decode cc pc = .ok (.invokestatic idx, 3)) (hR : f0 + 1 ≤ rm.frames ∧ 8 + (nY + 11) + l0 ≤ rm.locals) (hW : (st.map fun v => v.category).sum ≤ 8) (hq : pc + 3 = q)
    (kk : ∀ c' : HP, Qn c' → AW G K Q q L st c') : AW G K Q pc L (a1 :: st) c :=
  A_callS (As := [a1]) X hM mv lk hR rfl rfl hW d hq (fun r c' h => by obtain ⟨rfl, h⟩ := h; exact kk c' h)
theorem A_S2i {a1 a2 : Value} {Qn : Int32 → HP → Prop} (X : Fx l G K cc nL own ret rm) (hM : AMet l G y cy nY rY (rmR f0 l0) [a1, a2] c (Qi Qn)) (mv : MS y cy nY rY 2) (lk : Cond.methodLink own idx y ∈ wsL_law) (d : decode cc pc = .ok (.invokestatic idx, 3)) (hR : f0 + 1 ≤ rm.frames ∧ 8 + (nY + 11) + l0 ≤ rm.locals) (hW : (st.map fun v => v.category).sum ≤ 8) (hq : pc + 3 = q)
    (kk : ∀ (v : Int32) (c' : HP), Qn v c' → AW G K Q q L (.int v :: st) c') : AW G K Q pc L (a2 :: a1 :: st) c :=
  A_callS (As := [a1, a2]) X hM mv lk hR rfl rfl hW d hq (fun r c' h => by obtain ⟨v, rfl, h⟩ := h; exact kk v c' h)
theorem A_S2v {a1 a2 : Value} {Qn : HP → Prop} (X : Fx l G K cc nL own ret rm) (hM : AMet l G y cy nY rY (rmR f0 l0) [a1, a2] c (Qv Qn)) (mv : MS y cy nY rY 2) (lk : Cond.methodLink own idx y ∈ wsL_law) (d : decode cc pc = .ok (.invokestatic idx, 3)) (hR : f0 + 1 ≤ rm.frames ∧ 8 + (nY + 11) + l0 ≤ rm.locals) (hW : (st.map fun v => v.category).sum ≤ 8) (hq : pc + 3 = q)
    (kk : ∀ c' : HP, Qn c' → AW G K Q q L st c') : AW G K Q pc L (a2 :: a1 :: st) c :=
  A_callS (As := [a1, a2]) X hM mv lk hR rfl rfl hW d hq (fun r c' h => by obtain ⟨rfl, h⟩ := h; exact kk c' h)
theorem A_S3i {a1 a2 a3 : Value} {Qn : Int32 → HP → Prop} (X : Fx l G K cc nL own ret rm) (hM : AMet l G y cy nY rY (rmR f0 l0) [a1, a2, a3] c (Qi Qn)) (mv : MS y cy nY rY 3) (lk : Cond.methodLink own idx y ∈ wsL_law) (d : decode cc pc = .ok (.invokestatic idx, 3)) (hR : f0 + 1 ≤ rm.frames ∧ 8 + (nY + 11) + l0 ≤ rm.locals) (hW : (st.map fun v => v.category).sum ≤ 8) (hq : pc + 3 = q)
    (kk : ∀ (v : Int32) (c' : HP), Qn v c' → AW G K Q q L (.int v :: st) c') : AW G K Q pc L (a3 :: a2 :: a1 :: st) c :=
  A_callS (As := [a1, a2, a3]) X hM mv lk hR rfl rfl hW d hq (fun r c' h => by obtain ⟨v, rfl, h⟩ := h; exact kk v c' h)
theorem A_S3v {a1 a2 a3 : Value} {Qn : HP → Prop} (X : Fx l G K cc nL own ret rm) (hM : AMet l G y cy nY rY (rmR f0 l0) [a1, a2, a3] c (Qv Qn)) (mv : MS y cy nY rY 3) (lk : Cond.methodLink own idx y ∈ wsL_law) (d : decode cc pc = .ok (.invokestatic idx, 3)) (hR : f0 + 1 ≤ rm.frames ∧ 8 + (nY + 11) + l0 ≤ rm.locals) (hW : (st.map fun v => v.category).sum ≤ 8) (hq : pc + 3 = q)
    (kk : ∀ c' : HP, Qn c' → AW G K Q q L st c') : AW G K Q pc L (a3 :: a2 :: a1 :: st) c :=
  A_callS (As := [a1, a2, a3]) X hM mv lk hR rfl rfl hW d hq (fun r c' h => by obtain ⟨rfl, h⟩ := h; exact kk c' h)
theorem A_S1l {a1 : Value} {Qn : Int64 → HP → Prop} (X : Fx l G K cc nL own ret rm) (hM : AMet l G y cy nY rY (rmR f0 l0) [a1] c (Ql Qn)) (mv : MS y cy nY rY 1) (lk : Cond.methodLink own idx y ∈ wsL_law) (d : decode cc pc = .ok (.invokestatic idx, 3)) (hR : f0 + 1 ≤ rm.frames ∧ 8 + (nY + 11) + l0 ≤ rm.locals) (hW : (st.map fun v => v.category).sum ≤ 8) (hq : pc + 3 = q)
    (kk : ∀ (v : Int64) (c' : HP), Qn v c' → AW G K Q q L (.long v :: st) c') : AW G K Q pc L (a1 :: st) c :=
  A_callS (As := [a1]) X hM mv lk hR rfl rfl hW d hq (fun r c' h => by obtain ⟨v, rfl, h⟩ := h; exact kk v c' h)
theorem A_S2l {a1 a2 : Value} {Qn : Int64 → HP → Prop} (X : Fx l G K cc nL own ret rm) (hM : AMet l G y cy nY rY (rmR f0 l0) [a1, a2] c (Ql Qn)) (mv : MS y cy nY rY 2) (lk : Cond.methodLink own idx y ∈ wsL_law) (d : decode cc pc = .ok (.invokestatic idx, 3)) (hR : f0 + 1 ≤ rm.frames ∧ 8 + (nY + 11) + l0 ≤ rm.locals) (hW : (st.map fun v => v.category).sum ≤ 8) (hq : pc + 3 = q)
    (kk : ∀ (v : Int64) (c' : HP), Qn v c' → AW G K Q q L (.long v :: st) c') : AW G K Q pc L (a2 :: a1 :: st) c :=
  A_callS (As := [a1, a2]) X hM mv lk hR rfl rfl hW d hq (fun r c' h => by obtain ⟨v, rfl, h⟩ := h; exact kk v c' h)
theorem A_N1i {a1 : Value} {Qn : Int32 → HP → Prop} (X : Fx l G K cc nL own ret rm) (hM : AMet l G y cy nY rY (rmR f0 l0) [a1] c (Qi Qn)) (mv : MS y cy nY rY 1) (lk : (own, idx, y) ∈ nsts) (d : decode cc pc = .ok (.invokestatic idx, 3)) (hR : f0 + 1 ≤ rm.frames ∧ 8 + (nY + 11) + l0 ≤ rm.locals) (hW : (st.map fun v => v.category).sum ≤ 8) (hq : pc + 3 = q)
    (kk : ∀ (v : Int32) (c' : HP), Qn v c' → AW G K Q q L (.int v :: st) c') : AW G K Q pc L (a1 :: st) c :=
  A_callN (As := [a1]) X hM mv lk hR rfl rfl hW d hq (fun r c' h => by obtain ⟨v, rfl, h⟩ := h; exact kk v c' h)
end AC
def mkArgs : List Value → List (Option Value)
  | [] => []
  | v :: vs => if v.category = 2 then some v :: none :: mkArgs vs else some v :: mkArgs vs
theorem mkArgs_get : ∀ (vs : List Value) (k i : Nat) (v : Value), mkL (mkArgs vs) i = some v → (k + i, v) ∈ lv_args k vs
  | [], k, i, v, h => by simp [mkL, mkArgs] at h
  | w :: vs, k, i, v, h => by
    unfold mkArgs at h
    unfold lv_args
    split at h
    · rename_i h2
      match i, h with
      | 0, h =>
        have : w = v := by simpa [mkL] using h
        subst this
        exact List.mem_cons_self
      | 1, h => simp [mkL] at h
      | i + 2, h =>
        have h3 := mkArgs_get vs (k + 2) i v (by simpa [mkL] using h)
        rw [if_pos h2, show k + (i + 2) = k + 2 + i by omega]
        exact List.mem_cons_of_mem _ h3
    · rename_i h2
      match i, h with
      | 0, h =>
        have : w = v := by simpa [mkL] using h
        subst this
        exact List.mem_cons_self
      | i + 1, h =>
        have h3 := mkArgs_get vs (k + 1) i v (by simpa [mkL] using h)
        rw [if_neg h2, show k + (i + 1) = k + 1 + i by omega]
        exact List.mem_cons_of_mem _ h3
theorem AMet.of {l : Launch} {G : Gm} {y : MethodName} {cc : ByteArray} {nL : Nat} {ret : Option FieldType} {rm : Room} {args : List Value} {c : HP} {Q : Option Value → HP → Prop} {vl : List (Option Value)} (hy : plainName y.cls = true) (hin : injG G) (hlen : (lg_sl args).length ≤ nL) (hv : mkArgs args = vl)
    (body : ∀ K : Cx, Fx l G K cc nL y.cls ret rm → AW G K Q 0 (mkL vl) [] c) : AMet l G y cc nL ret rm args c Q := by
  subst hv
  refine Met.ofW (cc := cc) (maxL := nL) (ret := ret) hy rfl ?_
  intro p e s m args1 below meth cd s₁ B hml hv
  obtain ⟨rfl, hP, hK, hns⟩ := hv
  have hts := atoms_spec (ws := Cond.code y cc nL ret :: wsL_law) B.pre
  have X : Fx l G (p, l, e, rm, s, m, args.toArray, below, meth, cd) cc nL y.cls ret rm := ⟨B.exec, B.bytes, hml, findClass_of_methodNamed B.named, fun w hw => hts w (List.mem_cons_of_mem _ hw), hK, hin, B.returns, B.notSynchronized, rfl, rfl, hns⟩
  have h := body _ X
  rw [lg_entry_eq]
  refine h s.heap [] _ hP va_S.rf ?_
  have hl := lv_entry args (n := nL) hlen
  exact ⟨lv_args 0 args, by rw [hml]; exact hl, fun i v hv => by have := mkArgs_get args 0 i v hv; rwa [Nat.zero_add] at this⟩
end
section
theorem nL_108 : Cond.constantLong RL 108 (4294967295) ∈ wsL_law := List.mem_of_getElem? (i := 6) (by decide +kernel)
theorem kL_9 : Cond.methodLink RL 9 yX8_init ∈ wsL_law := List.mem_of_getElem? (i := 7) (by decide +kernel)
theorem kX8_1 : Cond.methodLink RX8 1 objectInit ∈ wsL_law := List.mem_of_getElem? (i := 10) (by decide +kernel)
theorem fX8_10 : FL RX8 10 8 0 := ⟨RX8, TX8, 12, tyX8, rfl, by decide, inlX8, List.mem_of_getElem? (i := 16) (by decide +kernel), tyX8_ok, nmX8⟩
theorem fX8_16 : FL RX8 16 8 1 := ⟨RX8, TX8, 12, tyX8, rfl, by decide, inlX8, List.mem_of_getElem? (i := 17) (by decide +kernel), tyX8_ok, nmX8⟩
theorem fX8_19 : FL RX8 19 8 2 := ⟨RX8, TX8, 12, tyX8, rfl, by decide, inlX8, List.mem_of_getElem? (i := 18) (by decide +kernel), tyX8_ok, nmX8⟩
theorem fX8_22 : FL RX8 22 8 3 := ⟨RX8, TX8, 12, tyX8, rfl, by decide, inlX8, List.mem_of_getElem? (i := 19) (by decide +kernel), tyX8_ok, nmX8⟩
theorem fX8_25 : FL RX8 25 8 4 := ⟨RX8, TX8, 12, tyX8, rfl, by decide, inlX8, List.mem_of_getElem? (i := 20) (by decide +kernel), tyX8_ok, nmX8⟩
theorem fX8_31 : FL RX8 31 8 5 := ⟨RX8, TX8, 12, tyX8, rfl, by decide, inlX8, List.mem_of_getElem? (i := 24) (by decide +kernel), tyX8_ok, nmX8⟩
theorem fX8_38 : FL RX8 38 8 6 := ⟨RX8, TX8, 12, tyX8, rfl, by decide, inlX8, List.mem_of_getElem? (i := 28) (by decide +kernel), tyX8_ok, nmX8⟩
theorem fX8_45 : FL RX8 45 8 7 := ⟨RX8, TX8, 12, tyX8, rfl, by decide, inlX8, List.mem_of_getElem? (i := 32) (by decide +kernel), tyX8_ok, nmX8⟩
theorem fX8_52 : FL RX8 52 8 8 := ⟨RX8, TX8, 12, tyX8, rfl, by decide, inlX8, List.mem_of_getElem? (i := 36) (by decide +kernel), tyX8_ok, nmX8⟩
theorem fX8_59 : FL RX8 59 8 9 := ⟨RX8, TX8, 12, tyX8, rfl, by decide, inlX8, List.mem_of_getElem? (i := 40) (by decide +kernel), tyX8_ok, nmX8⟩
theorem fX8_66 : FL RX8 66 8 10 := ⟨RX8, TX8, 12, tyX8, rfl, by decide, inlX8, List.mem_of_getElem? (i := 44) (by decide +kernel), tyX8_ok, nmX8⟩
theorem fX8_70 : FL RX8 70 8 11 := ⟨RX8, TX8, 12, tyX8, rfl, by decide, inlX8, List.mem_of_getElem? (i := 45) (by decide +kernel), tyX8_ok, nmX8⟩
theorem pX8_70 : FP RX8 70 8 11 (.long) := ⟨RX8, TX8, 12, tyX8, rfl, by decide, inlX8, List.mem_of_getElem? (i := 45) (by decide +kernel), tyX8_ok, nmX8, rfl, rfl⟩
theorem kX6_3 : Cond.methodLink RX6 3 objectInit ∈ wsL_law := List.mem_of_getElem? (i := 48) (by decide +kernel)
theorem fX6_9 : FL RX6 9 6 0 := ⟨RX6, TX6, 3, tyX6, rfl, by decide, inlX6, List.mem_of_getElem? (i := 50) (by decide +kernel), tyX6_ok, nmX6⟩
theorem fX6_15 : FL RX6 15 6 1 := ⟨RX6, TX6, 3, tyX6, rfl, by decide, inlX6, List.mem_of_getElem? (i := 51) (by decide +kernel), tyX6_ok, nmX6⟩
theorem pX6_15 : FP RX6 15 6 1 (.int) := ⟨RX6, TX6, 3, tyX6, rfl, by decide, inlX6, List.mem_of_getElem? (i := 51) (by decide +kernel), tyX6_ok, nmX6, rfl, rfl⟩
theorem fX6_19 : FL RX6 19 6 2 := ⟨RX6, TX6, 3, tyX6, rfl, by decide, inlX6, List.mem_of_getElem? (i := 52) (by decide +kernel), tyX6_ok, nmX6⟩
theorem pX6_19 : FP RX6 19 6 2 (.boolean) := ⟨RX6, TX6, 3, tyX6, rfl, by decide, inlX6, List.mem_of_getElem? (i := 52) (by decide +kernel), tyX6_ok, nmX6, rfl, rfl⟩
theorem kX4_3 : Cond.methodLink RX4 3 objectInit ∈ wsL_law := List.mem_of_getElem? (i := 55) (by decide +kernel)
theorem fX4_9 : FL RX4 9 4 0 := ⟨RX4, TX4, 3, tyX4, rfl, by decide, inlX4, List.mem_of_getElem? (i := 56) (by decide +kernel), tyX4_ok, nmX4⟩
theorem fX4_15 : FL RX4 15 4 1 := ⟨RX4, TX4, 3, tyX4, rfl, by decide, inlX4, List.mem_of_getElem? (i := 57) (by decide +kernel), tyX4_ok, nmX4⟩
theorem fX4_18 : FL RX4 18 4 2 := ⟨RX4, TX4, 3, tyX4, rfl, by decide, inlX4, List.mem_of_getElem? (i := 58) (by decide +kernel), tyX4_ok, nmX4⟩
theorem pX4_18 : FP RX4 18 4 2 (.int) := ⟨RX4, TX4, 3, tyX4, rfl, by decide, inlX4, List.mem_of_getElem? (i := 58) (by decide +kernel), tyX4_ok, nmX4, rfl, rfl⟩
theorem kX5_3 : Cond.methodLink RX5 3 objectInit ∈ wsL_law := List.mem_of_getElem? (i := 61) (by decide +kernel)
theorem fX5_12 : FL RX5 12 5 0 := ⟨RX5, TX5, 3, tyX5, rfl, by decide, inlX5, List.mem_of_getElem? (i := 63) (by decide +kernel), tyX5_ok, nmX5⟩
theorem fX5_18 : FL RX5 18 5 1 := ⟨RX5, TX5, 3, tyX5, rfl, by decide, inlX5, List.mem_of_getElem? (i := 64) (by decide +kernel), tyX5_ok, nmX5⟩
theorem fX5_24 : FL RX5 24 5 2 := ⟨RX5, TX5, 3, tyX5, rfl, by decide, inlX5, List.mem_of_getElem? (i := 66) (by decide +kernel), tyX5_ok, nmX5⟩
theorem kX2_3 : Cond.methodLink RX2 3 objectInit ∈ wsL_law := List.mem_of_getElem? (i := 69) (by decide +kernel)
theorem fX2_12 : FL RX2 12 2 0 := ⟨RX2, TX2, 4, tyX2, rfl, by decide, inlX2, List.mem_of_getElem? (i := 73) (by decide +kernel), tyX2_ok, nmX2⟩
theorem pX2_12 : FP RX2 12 2 0 (.object "SubstitutionMachine$Extended") := ⟨RX2, TX2, 4, tyX2, rfl, by decide, inlX2, List.mem_of_getElem? (i := 73) (by decide +kernel), tyX2_ok, nmX2, rfl, rfl⟩
theorem fX2_18 : FL RX2 18 2 1 := ⟨RX2, TX2, 4, tyX2, rfl, by decide, inlX2, List.mem_of_getElem? (i := 74) (by decide +kernel), tyX2_ok, nmX2⟩
theorem pX2_18 : FP RX2 18 2 1 (.object "SubstitutionMachine$Extended") := ⟨RX2, TX2, 4, tyX2, rfl, by decide, inlX2, List.mem_of_getElem? (i := 74) (by decide +kernel), tyX2_ok, nmX2, rfl, rfl⟩
theorem fX2_21 : FL RX2 21 2 2 := ⟨RX2, TX2, 4, tyX2, rfl, by decide, inlX2, List.mem_of_getElem? (i := 75) (by decide +kernel), tyX2_ok, nmX2⟩
theorem fX2_25 : FL RX2 25 2 3 := ⟨RX2, TX2, 4, tyX2, rfl, by decide, inlX2, List.mem_of_getElem? (i := 76) (by decide +kernel), tyX2_ok, nmX2⟩
theorem pX2_25 : FP RX2 25 2 3 (.int) := ⟨RX2, TX2, 4, tyX2, rfl, by decide, inlX2, List.mem_of_getElem? (i := 76) (by decide +kernel), tyX2_ok, nmX2, rfl, rfl⟩
theorem kX0_3 : Cond.methodLink RX0 3 objectInit ∈ wsL_law := List.mem_of_getElem? (i := 79) (by decide +kernel)
theorem fX0_9 : FL RX0 9 0 0 := ⟨RX0, TX0, 5, tyX0, rfl, by decide, inlX0, List.mem_of_getElem? (i := 80) (by decide +kernel), tyX0_ok, nmX0⟩
theorem fX0_15 : FL RX0 15 0 1 := ⟨RX0, TX0, 5, tyX0, rfl, by decide, inlX0, List.mem_of_getElem? (i := 81) (by decide +kernel), tyX0_ok, nmX0⟩
theorem fX0_18 : FL RX0 18 0 2 := ⟨RX0, TX0, 5, tyX0, rfl, by decide, inlX0, List.mem_of_getElem? (i := 82) (by decide +kernel), tyX0_ok, nmX0⟩
theorem fX0_21 : FL RX0 21 0 3 := ⟨RX0, TX0, 5, tyX0, rfl, by decide, inlX0, List.mem_of_getElem? (i := 83) (by decide +kernel), tyX0_ok, nmX0⟩
theorem pX0_21 : FP RX0 21 0 3 (.int) := ⟨RX0, TX0, 5, tyX0, rfl, by decide, inlX0, List.mem_of_getElem? (i := 83) (by decide +kernel), tyX0_ok, nmX0, rfl, rfl⟩
theorem fX0_25 : FL RX0 25 0 4 := ⟨RX0, TX0, 5, tyX0, rfl, by decide, inlX0, List.mem_of_getElem? (i := 84) (by decide +kernel), tyX0_ok, nmX0⟩
theorem pX0_25 : FP RX0 25 0 4 (.boolean) := ⟨RX0, TX0, 5, tyX0, rfl, by decide, inlX0, List.mem_of_getElem? (i := 84) (by decide +kernel), tyX0_ok, nmX0, rfl, rfl⟩
theorem kX1_3 : Cond.methodLink RX1 3 objectInit ∈ wsL_law := List.mem_of_getElem? (i := 87) (by decide +kernel)
theorem fX1_11 : FL RX1 11 1 0 := ⟨RX1, TX1, 4, tyX1, rfl, by decide, inlX1, List.mem_of_getElem? (i := 89) (by decide +kernel), tyX1_ok, nmX1⟩
theorem fX1_16 : FL RX1 16 1 1 := ⟨RX1, TX1, 4, tyX1, rfl, by decide, inlX1, List.mem_of_getElem? (i := 90) (by decide +kernel), tyX1_ok, nmX1⟩
theorem fX1_20 : FL RX1 20 1 2 := ⟨RX1, TX1, 4, tyX1, rfl, by decide, inlX1, List.mem_of_getElem? (i := 91) (by decide +kernel), tyX1_ok, nmX1⟩
theorem pX1_20 : FP RX1 20 1 2 (.int) := ⟨RX1, TX1, 4, tyX1, rfl, by decide, inlX1, List.mem_of_getElem? (i := 91) (by decide +kernel), tyX1_ok, nmX1, rfl, rfl⟩
theorem fX1_24 : FL RX1 24 1 3 := ⟨RX1, TX1, 4, tyX1, rfl, by decide, inlX1, List.mem_of_getElem? (i := 92) (by decide +kernel), tyX1_ok, nmX1⟩
theorem pX1_24 : FP RX1 24 1 3 (.int) := ⟨RX1, TX1, 4, tyX1, rfl, by decide, inlX1, List.mem_of_getElem? (i := 92) (by decide +kernel), tyX1_ok, nmX1, rfl, rfl⟩
theorem kX7_3 : Cond.methodLink RX7 3 objectInit ∈ wsL_law := List.mem_of_getElem? (i := 95) (by decide +kernel)
theorem fX7_9 : FL RX7 9 7 0 := ⟨RX7, TX7, 2, tyX7, rfl, by decide, inlX7, List.mem_of_getElem? (i := 96) (by decide +kernel), tyX7_ok, nmX7⟩
theorem fX7_15 : FL RX7 15 7 1 := ⟨RX7, TX7, 2, tyX7, rfl, by decide, inlX7, List.mem_of_getElem? (i := 97) (by decide +kernel), tyX7_ok, nmX7⟩
theorem pX7_15 : FP RX7 15 7 1 (.int) := ⟨RX7, TX7, 2, tyX7, rfl, by decide, inlX7, List.mem_of_getElem? (i := 97) (by decide +kernel), tyX7_ok, nmX7, rfl, rfl⟩
theorem kX3_3 : Cond.methodLink RX3 3 objectInit ∈ wsL_law := List.mem_of_getElem? (i := 100) (by decide +kernel)
theorem fX3_9 : FL RX3 9 3 0 := ⟨RX3, TX3, 3, tyX3, rfl, by decide, inlX3, List.mem_of_getElem? (i := 101) (by decide +kernel), tyX3_ok, nmX3⟩
theorem fX3_15 : FL RX3 15 3 1 := ⟨RX3, TX3, 3, tyX3, rfl, by decide, inlX3, List.mem_of_getElem? (i := 102) (by decide +kernel), tyX3_ok, nmX3⟩
theorem fX3_18 : FL RX3 18 3 2 := ⟨RX3, TX3, 3, tyX3, rfl, by decide, inlX3, List.mem_of_getElem? (i := 103) (by decide +kernel), tyX3_ok, nmX3⟩
theorem pX3_18 : FP RX3 18 3 2 (.int) := ⟨RX3, TX3, 3, tyX3, rfl, by decide, inlX3, List.mem_of_getElem? (i := 103) (by decide +kernel), tyX3_ok, nmX3, rfl, rfl⟩
theorem kX8_74 : Cond.methodLink RX8 74 yX6_add ∈ wsL_law := List.mem_of_getElem? (i := 104) (by decide +kernel)
theorem kL_12 : Cond.methodLink RL 12 yX9_init ∈ wsL_law := List.mem_of_getElem? (i := 108) (by decide +kernel)
theorem kX9_1 : Cond.methodLink RX9 1 objectInit ∈ wsL_law := List.mem_of_getElem? (i := 111) (by decide +kernel)
theorem fX9_7 : FL RX9 7 9 1 := ⟨RX9, TX9, 23, tyX9, rfl, by decide, inlX9, List.mem_of_getElem? (i := 112) (by decide +kernel), tyX9_ok, nmX9⟩
theorem fX9_13 : FL RX9 13 9 3 := ⟨RX9, TX9, 23, tyX9, rfl, by decide, inlX9, List.mem_of_getElem? (i := 113) (by decide +kernel), tyX9_ok, nmX9⟩
theorem fX9_16 : FL RX9 16 9 4 := ⟨RX9, TX9, 23, tyX9, rfl, by decide, inlX9, List.mem_of_getElem? (i := 114) (by decide +kernel), tyX9_ok, nmX9⟩
theorem fX9_19 : FL RX9 19 9 5 := ⟨RX9, TX9, 23, tyX9, rfl, by decide, inlX9, List.mem_of_getElem? (i := 115) (by decide +kernel), tyX9_ok, nmX9⟩
theorem fX9_22 : FL RX9 22 9 6 := ⟨RX9, TX9, 23, tyX9, rfl, by decide, inlX9, List.mem_of_getElem? (i := 116) (by decide +kernel), tyX9_ok, nmX9⟩
theorem fX9_25 : FL RX9 25 9 7 := ⟨RX9, TX9, 23, tyX9, rfl, by decide, inlX9, List.mem_of_getElem? (i := 117) (by decide +kernel), tyX9_ok, nmX9⟩
theorem fX9_28 : FL RX9 28 9 9 := ⟨RX9, TX9, 23, tyX9, rfl, by decide, inlX9, List.mem_of_getElem? (i := 118) (by decide +kernel), tyX9_ok, nmX9⟩
theorem fX9_31 : FL RX9 31 9 10 := ⟨RX9, TX9, 23, tyX9, rfl, by decide, inlX9, List.mem_of_getElem? (i := 120) (by decide +kernel), tyX9_ok, nmX9⟩
theorem fX9_35 : FL RX9 35 9 12 := ⟨RX9, TX9, 23, tyX9, rfl, by decide, inlX9, List.mem_of_getElem? (i := 121) (by decide +kernel), tyX9_ok, nmX9⟩
theorem fX9_38 : FL RX9 38 9 13 := ⟨RX9, TX9, 23, tyX9, rfl, by decide, inlX9, List.mem_of_getElem? (i := 122) (by decide +kernel), tyX9_ok, nmX9⟩
theorem fX9_41 : FL RX9 41 9 15 := ⟨RX9, TX9, 23, tyX9, rfl, by decide, inlX9, List.mem_of_getElem? (i := 123) (by decide +kernel), tyX9_ok, nmX9⟩
theorem fX9_44 : FL RX9 44 9 16 := ⟨RX9, TX9, 23, tyX9, rfl, by decide, inlX9, List.mem_of_getElem? (i := 124) (by decide +kernel), tyX9_ok, nmX9⟩
theorem fX9_47 : FL RX9 47 9 17 := ⟨RX9, TX9, 23, tyX9, rfl, by decide, inlX9, List.mem_of_getElem? (i := 125) (by decide +kernel), tyX9_ok, nmX9⟩
theorem fX9_50 : FL RX9 50 9 18 := ⟨RX9, TX9, 23, tyX9, rfl, by decide, inlX9, List.mem_of_getElem? (i := 126) (by decide +kernel), tyX9_ok, nmX9⟩
theorem fX9_53 : FL RX9 53 9 19 := ⟨RX9, TX9, 23, tyX9, rfl, by decide, inlX9, List.mem_of_getElem? (i := 127) (by decide +kernel), tyX9_ok, nmX9⟩
theorem fX9_56 : FL RX9 56 9 21 := ⟨RX9, TX9, 23, tyX9, rfl, by decide, inlX9, List.mem_of_getElem? (i := 128) (by decide +kernel), tyX9_ok, nmX9⟩
theorem kL_13 : Cond.methodLink RL 13 yX8_append ∈ wsL_law := List.mem_of_getElem? (i := 129) (by decide +kernel)
theorem kX8_78 : Cond.methodLink RX8 78 yX7_put ∈ wsL_law := List.mem_of_getElem? (i := 133) (by decide +kernel)
theorem kX8_82 : Cond.methodLink RX8 82 yX7_length ∈ wsL_law := List.mem_of_getElem? (i := 137) (by decide +kernel)
theorem kL_17 : Cond.methodLink RL 17 yX9_append ∈ wsL_law := List.mem_of_getElem? (i := 141) (by decide +kernel)
theorem fX9_59 : FL RX9 59 9 0 := ⟨RX9, TX9, 23, tyX9, rfl, by decide, inlX9, List.mem_of_getElem? (i := 145) (by decide +kernel), tyX9_ok, nmX9⟩
theorem pX9_59 : FP RX9 59 9 0 (.int) := ⟨RX9, TX9, 23, tyX9, rfl, by decide, inlX9, List.mem_of_getElem? (i := 145) (by decide +kernel), tyX9_ok, nmX9, rfl, rfl⟩
theorem nX9_112 : Cond.constantLong RX9 112 (255) ∈ wsL_law := List.mem_of_getElem? (i := 146) (by decide +kernel)
theorem fX9_118 : FL RX9 118 9 2 := ⟨RX9, TX9, 23, tyX9, rfl, by decide, inlX9, List.mem_of_getElem? (i := 147) (by decide +kernel), tyX9_ok, nmX9⟩
theorem pX9_118 : FP RX9 118 9 2 (.int) := ⟨RX9, TX9, 23, tyX9, rfl, by decide, inlX9, List.mem_of_getElem? (i := 147) (by decide +kernel), tyX9_ok, nmX9, rfl, rfl⟩
theorem kX9_114 : Cond.methodLink RX9 114 yX9_in ∈ wsL_law := List.mem_of_getElem? (i := 148) (by decide +kernel)
theorem kL_18 : Cond.methodLink RL 18 yX8_clearText ∈ wsL_law := List.mem_of_getElem? (i := 151) (by decide +kernel)
theorem kX8_86 : Cond.methodLink RX8 86 yX7_clear ∈ wsL_law := List.mem_of_getElem? (i := 155) (by decide +kernel)
theorem kL_22 : Cond.methodLink RL 22 yX9_clearText ∈ wsL_law := List.mem_of_getElem? (i := 159) (by decide +kernel)
theorem kL_23 : Cond.methodLink RL 23 yX8_errorPosition ∈ wsL_law := List.mem_of_getElem? (i := 163) (by decide +kernel)
theorem kX8_89 : Cond.methodLink RX8 89 yX7_firstError ∈ wsL_law := List.mem_of_getElem? (i := 167) (by decide +kernel)
theorem kX7_19 : Cond.methodLink RX7 19 yX7_tokenOf ∈ wsL_law := List.mem_of_getElem? (i := 171) (by decide +kernel)
theorem kL_26 : Cond.methodLink RL 26 yX9_errorPosition ∈ wsL_law := List.mem_of_getElem? (i := 176) (by decide +kernel)
theorem kX9_125 : Cond.methodLink RX9 125 yX9_tokenOf ∈ wsL_law := List.mem_of_getElem? (i := 180) (by decide +kernel)
theorem nX9_121 : Cond.constantLong RX9 121 (48) ∈ wsL_law := List.mem_of_getElem? (i := 183) (by decide +kernel)
theorem nX9_123 : Cond.constantLong RX9 123 (57) ∈ wsL_law := List.mem_of_getElem? (i := 184) (by decide +kernel)
theorem kX9_64 : Cond.methodLink RX9 64 yX9_parts ∈ wsL_law := List.mem_of_getElem? (i := 185) (by decide +kernel)
theorem nX9_63 : Cond.constant RX9 63 (1000000) ∈ wsL_law := List.mem_of_getElem? (i := 188) (by decide +kernel)
theorem kL_27 : Cond.methodLink RL 27 yX8_load ∈ wsL_law := List.mem_of_getElem? (i := 189) (by decide +kernel)
theorem kX8_92 : Cond.methodLink RX8 92 yX7_writeTo ∈ wsL_law := List.mem_of_getElem? (i := 193) (by decide +kernel)
theorem kX7_26 : Cond.methodLink RX7 26 yX6_clear ∈ wsL_law := List.mem_of_getElem? (i := 197) (by decide +kernel)
theorem kX7_31 : Cond.methodLink RX7 31 yX6_add ∈ wsL_law := List.mem_of_getElem? (i := 201) (by decide +kernel)
theorem kX8_96 : Cond.methodLink RX8 96 yX1_forgetAll ∈ wsL_law := List.mem_of_getElem? (i := 202) (by decide +kernel)
theorem kX8_99 : Cond.methodLink RX8 99 yX6_clear ∈ wsL_law := List.mem_of_getElem? (i := 206) (by decide +kernel)
theorem kX8_100 : Cond.methodLink RX8 100 yX6_length ∈ wsL_law := List.mem_of_getElem? (i := 207) (by decide +kernel)
theorem kL_30 : Cond.methodLink RL 30 yX9_load ∈ wsL_law := List.mem_of_getElem? (i := 211) (by decide +kernel)
theorem fX9_132 : FL RX9 132 9 8 := ⟨RX9, TX9, 23, tyX9, rfl, by decide, inlX9, List.mem_of_getElem? (i := 215) (by decide +kernel), tyX9_ok, nmX9⟩
theorem pX9_132 : FP RX9 132 9 8 (.int) := ⟨RX9, TX9, 23, tyX9, rfl, by decide, inlX9, List.mem_of_getElem? (i := 215) (by decide +kernel), tyX9_ok, nmX9, rfl, rfl⟩
theorem kX9_128 : Cond.methodLink RX9 128 yX9_errorPosition ∈ wsL_law := List.mem_of_getElem? (i := 216) (by decide +kernel)
theorem kL_31 : Cond.methodLink RL 31 yX8_size ∈ wsL_law := List.mem_of_getElem? (i := 217) (by decide +kernel)
theorem kL_34 : Cond.methodLink RL 34 yX9_size ∈ wsL_law := List.mem_of_getElem? (i := 221) (by decide +kernel)
theorem kL_35 : Cond.methodLink RL 35 yX8_tokenAt ∈ wsL_law := List.mem_of_getElem? (i := 225) (by decide +kernel)
theorem kX8_101 : Cond.methodLink RX8 101 yX6_has ∈ wsL_law := List.mem_of_getElem? (i := 229) (by decide +kernel)
theorem kX8_104 : Cond.methodLink RX8 104 yX6_token ∈ wsL_law := List.mem_of_getElem? (i := 233) (by decide +kernel)
theorem kL_38 : Cond.methodLink RL 38 yX9_tokenAt ∈ wsL_law := List.mem_of_getElem? (i := 237) (by decide +kernel)
theorem kL_39 : Cond.methodLink RL 39 yX8_nameAt ∈ wsL_law := List.mem_of_getElem? (i := 241) (by decide +kernel)
theorem kX8_108 : Cond.methodLink RX8 108 yX4_measure ∈ wsL_law := List.mem_of_getElem? (i := 245) (by decide +kernel)
theorem kX4_27 : Cond.methodLink RX4 27 Lib.Math.min.name ∈ wsL_law := List.mem_of_getElem? (i := 249) (by decide +kernel)
theorem kX4_22 : Cond.methodLink RX4 22 yX6_length ∈ wsL_law := List.mem_of_getElem? (i := 253) (by decide +kernel)
theorem kX4_33 : Cond.methodLink RX4 33 yX4_measureEnds ∈ wsL_law := List.mem_of_getElem? (i := 254) (by decide +kernel)
theorem kX4_40 : Cond.methodLink RX4 40 yX6_token ∈ wsL_law := List.mem_of_getElem? (i := 258) (by decide +kernel)
theorem kX4_44 : Cond.methodLink RX4 44 yX4_endAt ∈ wsL_law := List.mem_of_getElem? (i := 259) (by decide +kernel)
theorem kX4_37 : Cond.methodLink RX4 37 yX4_measureDepths ∈ wsL_law := List.mem_of_getElem? (i := 263) (by decide +kernel)
theorem kX4_47 : Cond.methodLink RX4 47 yX4_setDepth ∈ wsL_law := List.mem_of_getElem? (i := 267) (by decide +kernel)
theorem kX8_111 : Cond.methodLink RX8 111 yX4_depthAt ∈ wsL_law := List.mem_of_getElem? (i := 271) (by decide +kernel)
theorem kL_42 : Cond.methodLink RL 42 yX9_nameAt ∈ wsL_law := List.mem_of_getElem? (i := 275) (by decide +kernel)
theorem kX9_86 : Cond.methodLink RX9 86 yX9_layDepths ∈ wsL_law := List.mem_of_getElem? (i := 279) (by decide +kernel)
theorem kX9_68 : Cond.methodLink RX9 68 yX9_isVariable ∈ wsL_law := List.mem_of_getElem? (i := 283) (by decide +kernel)
theorem kL_43 : Cond.methodLink RL 43 yX8_redexCount ∈ wsL_law := List.mem_of_getElem? (i := 286) (by decide +kernel)
theorem kX8_114 : Cond.methodLink RX8 114 yX5_countRedexes ∈ wsL_law := List.mem_of_getElem? (i := 290) (by decide +kernel)
theorem kX5_32 : Cond.methodLink RX5 32 yX6_length ∈ wsL_law := List.mem_of_getElem? (i := 293) (by decide +kernel)
theorem kX5_36 : Cond.methodLink RX5 36 yX5_isRedex ∈ wsL_law := List.mem_of_getElem? (i := 294) (by decide +kernel)
theorem kX5_28 : Cond.methodLink RX5 28 yX6_token ∈ wsL_law := List.mem_of_getElem? (i := 297) (by decide +kernel)
theorem kL_46 : Cond.methodLink RL 46 yX9_redexCount ∈ wsL_law := List.mem_of_getElem? (i := 298) (by decide +kernel)
theorem kX9_108 : Cond.methodLink RX9 108 yX9_redexes ∈ wsL_law := List.mem_of_getElem? (i := 302) (by decide +kernel)
theorem kX9_72 : Cond.methodLink RX9 72 yX9_isRedex ∈ wsL_law := List.mem_of_getElem? (i := 305) (by decide +kernel)
theorem kL_47 : Cond.methodLink RL 47 yX8_chosenRedex ∈ wsL_law := List.mem_of_getElem? (i := 308) (by decide +kernel)
theorem kX8_118 : Cond.methodLink RX8 118 yX8_isStrategy ∈ wsL_law := List.mem_of_getElem? (i := 312) (by decide +kernel)
theorem kX8_121 : Cond.methodLink RX8 121 yX5_choose ∈ wsL_law := List.mem_of_getElem? (i := 315) (by decide +kernel)
theorem kX5_40 : Cond.methodLink RX5 40 yX5_nextRedex ∈ wsL_law := List.mem_of_getElem? (i := 318) (by decide +kernel)
theorem kX5_44 : Cond.methodLink RX5 44 yX5_leftmostInnermost ∈ wsL_law := List.mem_of_getElem? (i := 321) (by decide +kernel)
theorem kX5_48 : Cond.methodLink RX5 48 yX5_lastRedex ∈ wsL_law := List.mem_of_getElem? (i := 324) (by decide +kernel)
theorem kX5_51 : Cond.methodLink RX5 51 yX5_weakHead ∈ wsL_law := List.mem_of_getElem? (i := 327) (by decide +kernel)
theorem kL_50 : Cond.methodLink RL 50 yX9_chosenRedex ∈ wsL_law := List.mem_of_getElem? (i := 330) (by decide +kernel)
theorem nX9_135 : Cond.constantLong RX9 135 (3) ∈ wsL_law := List.mem_of_getElem? (i := 334) (by decide +kernel)
theorem kX9_94 : Cond.methodLink RX9 94 yX9_choose ∈ wsL_law := List.mem_of_getElem? (i := 335) (by decide +kernel)
theorem kX9_80 : Cond.methodLink RX9 80 yX9_isInnermost ∈ wsL_law := List.mem_of_getElem? (i := 338) (by decide +kernel)
theorem kX9_76 : Cond.methodLink RX9 76 yX9_end ∈ wsL_law := List.mem_of_getElem? (i := 341) (by decide +kernel)
theorem kL_51 : Cond.methodLink RL 51 yX8_freeVariables ∈ wsL_law := List.mem_of_getElem? (i := 344) (by decide +kernel)
theorem kX8_125 : Cond.methodLink RX8 125 yX8_isVariable ∈ wsL_law := List.mem_of_getElem? (i := 348) (by decide +kernel)
theorem kL_54 : Cond.methodLink RL 54 yX9_freeVariables ∈ wsL_law := List.mem_of_getElem? (i := 351) (by decide +kernel)
theorem kL_55 : Cond.methodLink RL 55 yX8_step ∈ wsL_law := List.mem_of_getElem? (i := 355) (by decide +kernel)
theorem kX8_128 : Cond.methodLink RX8 128 yX6_copyFrom ∈ wsL_law := List.mem_of_getElem? (i := 359) (by decide +kernel)
theorem kX6_23 : Cond.methodLink RX6 23 arraycopyName ∈ wsL_law := List.mem_of_getElem? (i := 363) (by decide +kernel)
theorem kX8_131 : Cond.methodLink RX8 131 yX5_contract ∈ wsL_law := List.mem_of_getElem? (i := 367) (by decide +kernel)
theorem kX5_63 : Cond.methodLink RX5 63 yX4_measure ∈ wsL_law := List.mem_of_getElem? (i := 371) (by decide +kernel)
theorem kX5_67 : Cond.methodLink RX5 67 yX4_endAt ∈ wsL_law := List.mem_of_getElem? (i := 372) (by decide +kernel)
theorem kX5_70 : Cond.methodLink RX5 70 yX6_clear ∈ wsL_law := List.mem_of_getElem? (i := 373) (by decide +kernel)
theorem kX5_73 : Cond.methodLink RX5 73 yX6_addRange ∈ wsL_law := List.mem_of_getElem? (i := 374) (by decide +kernel)
theorem kX5_77 : Cond.methodLink RX5 77 yX5_addContracted ∈ wsL_law := List.mem_of_getElem? (i := 378) (by decide +kernel)
theorem kX5_85 : Cond.methodLink RX5 85 yX4_depthAt ∈ wsL_law := List.mem_of_getElem? (i := 382) (by decide +kernel)
theorem kX5_88 : Cond.methodLink RX5 88 yX6_isTooLarge ∈ wsL_law := List.mem_of_getElem? (i := 383) (by decide +kernel)
theorem kX5_96 : Cond.methodLink RX5 96 yX6_add ∈ wsL_law := List.mem_of_getElem? (i := 387) (by decide +kernel)
theorem kX5_100 : Cond.methodLink RX5 100 yX5_addShifted ∈ wsL_law := List.mem_of_getElem? (i := 388) (by decide +kernel)
theorem kX5_81 : Cond.methodLink RX5 81 yX5_takeResult ∈ wsL_law := List.mem_of_getElem? (i := 392) (by decide +kernel)
theorem kX5_104 : Cond.methodLink RX5 104 yX6_copyFrom ∈ wsL_law := List.mem_of_getElem? (i := 396) (by decide +kernel)
theorem kX8_135 : Cond.methodLink RX8 135 yX8_actWithCopy ∈ wsL_law := List.mem_of_getElem? (i := 397) (by decide +kernel)
theorem kX8_218 : Cond.methodLink RX8 218 yX1_remember ∈ wsL_law := List.mem_of_getElem? (i := 401) (by decide +kernel)
theorem kX1_33 : Cond.methodLink RX1 33 Lib.Math.min.name ∈ wsL_law := List.mem_of_getElem? (i := 405) (by decide +kernel)
theorem kX1_27 : Cond.methodLink RX1 27 yX6_length ∈ wsL_law := List.mem_of_getElem? (i := 406) (by decide +kernel)
theorem kX1_39 : Cond.methodLink RX1 39 yX6_token ∈ wsL_law := List.mem_of_getElem? (i := 407) (by decide +kernel)
theorem kL_58 : Cond.methodLink RL 58 yX9_step ∈ wsL_law := List.mem_of_getElem? (i := 408) (by decide +kernel)
theorem kX9_97 : Cond.methodLink RX9 97 yX9_contract ∈ wsL_law := List.mem_of_getElem? (i := 412) (by decide +kernel)
theorem kX9_83 : Cond.methodLink RX9 83 yX9_put ∈ wsL_law := List.mem_of_getElem? (i := 416) (by decide +kernel)
theorem kX9_90 : Cond.methodLink RX9 90 yX9_putShifted ∈ wsL_law := List.mem_of_getElem? (i := 420) (by decide +kernel)
theorem kX9_140 : Cond.methodLink RX9 140 yX9_commit ∈ wsL_law := List.mem_of_getElem? (i := 424) (by decide +kernel)
theorem kX9_137 : Cond.methodLink RX9 137 yX9_remember ∈ wsL_law := List.mem_of_getElem? (i := 428) (by decide +kernel)
theorem kX9_100 : Cond.methodLink RX9 100 yX9_assign ∈ wsL_law := List.mem_of_getElem? (i := 432) (by decide +kernel)
theorem kL_59 : Cond.methodLink RL 59 yX8_run ∈ wsL_law := List.mem_of_getElem? (i := 435) (by decide +kernel)
theorem kX8_138 : Cond.methodLink RX8 138 yX5_perform ∈ wsL_law := List.mem_of_getElem? (i := 439) (by decide +kernel)
theorem kX5_57 : Cond.methodLink RX5 57 yX5_choose ∈ wsL_law := List.mem_of_getElem? (i := 443) (by decide +kernel)
theorem kX5_60 : Cond.methodLink RX5 60 yX5_contract ∈ wsL_law := List.mem_of_getElem? (i := 444) (by decide +kernel)
theorem kL_63 : Cond.methodLink RL 63 yX9_run ∈ wsL_law := List.mem_of_getElem? (i := 445) (by decide +kernel)
theorem nX9_143 : Cond.constantLong RX9 143 (50) ∈ wsL_law := List.mem_of_getElem? (i := 449) (by decide +kernel)
theorem kX9_104 : Cond.methodLink RX9 104 yX9_runOn ∈ wsL_law := List.mem_of_getElem? (i := 450) (by decide +kernel)
theorem kL_64 : Cond.methodLink RL 64 yX8_abstractTerm ∈ wsL_law := List.mem_of_getElem? (i := 454) (by decide +kernel)
theorem kX8_142 : Cond.methodLink RX8 142 yX6_wrapInAbstraction ∈ wsL_law := List.mem_of_getElem? (i := 458) (by decide +kernel)
theorem kL_67 : Cond.methodLink RL 67 yX9_abstractTerm ∈ wsL_law := List.mem_of_getElem? (i := 462) (by decide +kernel)
theorem kX9_145 : Cond.methodLink RX9 145 yX9_putBehind ∈ wsL_law := List.mem_of_getElem? (i := 466) (by decide +kernel)
theorem kL_68 : Cond.methodLink RL 68 yX8_applyTo ∈ wsL_law := List.mem_of_getElem? (i := 470) (by decide +kernel)
theorem kX8_146 : Cond.methodLink RX8 146 yX8_isSlot ∈ wsL_law := List.mem_of_getElem? (i := 474) (by decide +kernel)
theorem kX8_149 : Cond.methodLink RX8 149 yX8_slotTerm ∈ wsL_law := List.mem_of_getElem? (i := 477) (by decide +kernel)
theorem kX8_153 : Cond.methodLink RX8 153 yX6_addRange ∈ wsL_law := List.mem_of_getElem? (i := 481) (by decide +kernel)
theorem kX8_157 : Cond.methodLink RX8 157 yX6_isTooLarge ∈ wsL_law := List.mem_of_getElem? (i := 482) (by decide +kernel)
theorem kL_71 : Cond.methodLink RL 71 yX9_applyTo ∈ wsL_law := List.mem_of_getElem? (i := 483) (by decide +kernel)
theorem kX9_149 : Cond.methodLink RX9 149 yX9_takeSlot ∈ wsL_law := List.mem_of_getElem? (i := 487) (by decide +kernel)
theorem kL_72 : Cond.methodLink RL 72 yX8_substitute ∈ wsL_law := List.mem_of_getElem? (i := 491) (by decide +kernel)
theorem kX8_160 : Cond.methodLink RX8 160 yX5_replaceFree ∈ wsL_law := List.mem_of_getElem? (i := 495) (by decide +kernel)
theorem kL_75 : Cond.methodLink RL 75 yX9_substitute ∈ wsL_law := List.mem_of_getElem? (i := 499) (by decide +kernel)
theorem nX9_153 : Cond.constantLong RX9 153 (9) ∈ wsL_law := List.mem_of_getElem? (i := 503) (by decide +kernel)
theorem kL_76 : Cond.methodLink RL 76 yX8_undo ∈ wsL_law := List.mem_of_getElem? (i := 504) (by decide +kernel)
theorem kX8_164 : Cond.methodLink RX8 164 yX1_takeBack ∈ wsL_law := List.mem_of_getElem? (i := 508) (by decide +kernel)
theorem kX1_43 : Cond.methodLink RX1 43 yX6_clear ∈ wsL_law := List.mem_of_getElem? (i := 512) (by decide +kernel)
theorem kX1_46 : Cond.methodLink RX1 46 yX6_add ∈ wsL_law := List.mem_of_getElem? (i := 513) (by decide +kernel)
theorem kX8_168 : Cond.methodLink RX8 168 yX1_count ∈ wsL_law := List.mem_of_getElem? (i := 514) (by decide +kernel)
theorem kL_79 : Cond.methodLink RL 79 yX9_undo ∈ wsL_law := List.mem_of_getElem? (i := 518) (by decide +kernel)
theorem kL_80 : Cond.methodLink RL 80 yX8_stepsOfRun ∈ wsL_law := List.mem_of_getElem? (i := 522) (by decide +kernel)
theorem kX8_171 : Cond.methodLink RX8 171 yX8_isPrediction ∈ wsL_law := List.mem_of_getElem? (i := 526) (by decide +kernel)
theorem kX8_175 : Cond.methodLink RX8 175 yX8_performOnCopy ∈ wsL_law := List.mem_of_getElem? (i := 529) (by decide +kernel)
theorem kL_83 : Cond.methodLink RL 83 yX9_stepsOfRun ∈ wsL_law := List.mem_of_getElem? (i := 533) (by decide +kernel)
theorem nX9_155 : Cond.constantLong RX9 155 (200) ∈ wsL_law := List.mem_of_getElem? (i := 537) (by decide +kernel)
theorem kL_84 : Cond.methodLink RL 84 yX8_sizeAfterRun ∈ wsL_law := List.mem_of_getElem? (i := 538) (by decide +kernel)
theorem kL_87 : Cond.methodLink RL 87 yX9_sizeAfterRun ∈ wsL_law := List.mem_of_getElem? (i := 542) (by decide +kernel)
theorem kL_88 : Cond.methodLink RL 88 yX8_normalSize ∈ wsL_law := List.mem_of_getElem? (i := 546) (by decide +kernel)
theorem kX8_179 : Cond.methodLink RX8 179 yX8_normaliseInto ∈ wsL_law := List.mem_of_getElem? (i := 550) (by decide +kernel)
theorem kX8_221 : Cond.methodLink RX8 221 yX5_nextRedex ∈ wsL_law := List.mem_of_getElem? (i := 554) (by decide +kernel)
theorem kL_91 : Cond.methodLink RL 91 yX9_normalSize ∈ wsL_law := List.mem_of_getElem? (i := 555) (by decide +kernel)
theorem kX9_157 : Cond.methodLink RX9 157 yX9_normalize ∈ wsL_law := List.mem_of_getElem? (i := 559) (by decide +kernel)
theorem kL_92 : Cond.methodLink RL 92 yX8_normalTokenAt ∈ wsL_law := List.mem_of_getElem? (i := 563) (by decide +kernel)
theorem kL_95 : Cond.methodLink RL 95 yX9_normalTokenAt ∈ wsL_law := List.mem_of_getElem? (i := 567) (by decide +kernel)
theorem kL_96 : Cond.methodLink RL 96 yX8_isEquivalent ∈ wsL_law := List.mem_of_getElem? (i := 571) (by decide +kernel)
theorem kX8_183 : Cond.methodLink RX8 183 yX6_hasSameTokens ∈ wsL_law := List.mem_of_getElem? (i := 575) (by decide +kernel)
theorem kL_99 : Cond.methodLink RL 99 yX9_isEquivalent ∈ wsL_law := List.mem_of_getElem? (i := 579) (by decide +kernel)
theorem kL_100 : Cond.methodLink RL 100 yX8_machineSteps ∈ wsL_law := List.mem_of_getElem? (i := 583) (by decide +kernel)
theorem kX8_186 : Cond.methodLink RX8 186 yX2_work ∈ wsL_law := List.mem_of_getElem? (i := 587) (by decide +kernel)
theorem kX2_53 : Cond.methodLink RX2 53 Lib.Math.max.name ∈ wsL_law := List.mem_of_getElem? (i := 591) (by decide +kernel)
theorem kX2_29 : Cond.methodLink RX2 29 yX2_start ∈ wsL_law := List.mem_of_getElem? (i := 594) (by decide +kernel)
theorem kX2_59 : Cond.methodLink RX2 59 yX0_clear ∈ wsL_law := List.mem_of_getElem? (i := 598) (by decide +kernel)
theorem kX2_62 : Cond.methodLink RX2 62 yX6_length ∈ wsL_law := List.mem_of_getElem? (i := 602) (by decide +kernel)
theorem kX2_65 : Cond.methodLink RX2 65 yX6_token ∈ wsL_law := List.mem_of_getElem? (i := 603) (by decide +kernel)
theorem kX2_69 : Cond.methodLink RX2 69 yX0_add ∈ wsL_law := List.mem_of_getElem? (i := 604) (by decide +kernel)
theorem kX0_29 : Cond.methodLink RX0 29 yX0_put ∈ wsL_law := List.mem_of_getElem? (i := 608) (by decide +kernel)
theorem kX2_49 : Cond.methodLink RX2 49 yX0_length ∈ wsL_law := List.mem_of_getElem? (i := 612) (by decide +kernel)
theorem kX2_33 : Cond.methodLink RX2 33 yX2_firstPlace ∈ wsL_law := List.mem_of_getElem? (i := 616) (by decide +kernel)
theorem kX2_37 : Cond.methodLink RX2 37 yX2_ruleAt ∈ wsL_law := List.mem_of_getElem? (i := 620) (by decide +kernel)
theorem kX2_73 : Cond.methodLink RX2 73 yX0_token ∈ wsL_law := List.mem_of_getElem? (i := 624) (by decide +kernel)
theorem kX2_41 : Cond.methodLink RX2 41 yX2_rewrite ∈ wsL_law := List.mem_of_getElem? (i := 628) (by decide +kernel)
theorem kX2_74 : Cond.methodLink RX2 74 yX0_addRange ∈ wsL_law := List.mem_of_getElem? (i := 632) (by decide +kernel)
theorem kX0_33 : Cond.methodLink RX0 33 arraycopyName ∈ wsL_law := List.mem_of_getElem? (i := 636) (by decide +kernel)
theorem kX2_78 : Cond.methodLink RX2 78 yX2_writeBeta ∈ wsL_law := List.mem_of_getElem? (i := 637) (by decide +kernel)
theorem kX2_96 : Cond.methodLink RX2 96 yX0_addClosure ∈ wsL_law := List.mem_of_getElem? (i := 641) (by decide +kernel)
theorem kX2_93 : Cond.methodLink RX2 93 yX0_behind ∈ wsL_law := List.mem_of_getElem? (i := 645) (by decide +kernel)
theorem kX0_39 : Cond.methodLink RX0 39 yX0_token ∈ wsL_law := List.mem_of_getElem? (i := 649) (by decide +kernel)
theorem kX0_46 : Cond.methodLink RX0 46 yX0_entriesAt ∈ wsL_law := List.mem_of_getElem? (i := 650) (by decide +kernel)
theorem kX2_81 : Cond.methodLink RX2 81 yX2_writeApply ∈ wsL_law := List.mem_of_getElem? (i := 654) (by decide +kernel)
theorem kX2_99 : Cond.methodLink RX2 99 yX0_entriesAt ∈ wsL_law := List.mem_of_getElem? (i := 658) (by decide +kernel)
theorem kX2_102 : Cond.methodLink RX2 102 yX0_shiftAt ∈ wsL_law := List.mem_of_getElem? (i := 659) (by decide +kernel)
theorem kX2_84 : Cond.methodLink RX2 84 yX2_writeAbstract ∈ wsL_law := List.mem_of_getElem? (i := 663) (by decide +kernel)
theorem kX2_45 : Cond.methodLink RX2 45 yX0_isTooLarge ∈ wsL_law := List.mem_of_getElem? (i := 667) (by decide +kernel)
theorem kX2_87 : Cond.methodLink RX2 87 yX2_writeLookup ∈ wsL_law := List.mem_of_getElem? (i := 671) (by decide +kernel)
theorem kX2_90 : Cond.methodLink RX2 90 yX2_writeMerge ∈ wsL_law := List.mem_of_getElem? (i := 675) (by decide +kernel)
theorem kX2_105 : Cond.methodLink RX2 105 Lib.Math.min.name ∈ wsL_law := List.mem_of_getElem? (i := 679) (by decide +kernel)
theorem kX8_190 : Cond.methodLink RX8 190 yX2_applications ∈ wsL_law := List.mem_of_getElem? (i := 680) (by decide +kernel)
theorem kL_103 : Cond.methodLink RL 103 yX9_machineSteps ∈ wsL_law := List.mem_of_getElem? (i := 684) (by decide +kernel)
theorem nX9_189 : Cond.constantLong RX9 189 (4) ∈ wsL_law := List.mem_of_getElem? (i := 688) (by decide +kernel)
theorem kX9_191 : Cond.methodLink RX9 191 yX9_machine ∈ wsL_law := List.mem_of_getElem? (i := 689) (by decide +kernel)
theorem fX9_179 : FL RX9 179 9 22 := ⟨RX9, TX9, 23, tyX9, rfl, by decide, inlX9, List.mem_of_getElem? (i := 693) (by decide +kernel), tyX9_ok, nmX9⟩
theorem pX9_179 : FP RX9 179 9 22 (.int) := ⟨RX9, TX9, 23, tyX9, rfl, by decide, inlX9, List.mem_of_getElem? (i := 693) (by decide +kernel), tyX9_ok, nmX9, rfl, rfl⟩
theorem fX9_161 : FL RX9 161 9 20 := ⟨RX9, TX9, 23, tyX9, rfl, by decide, inlX9, List.mem_of_getElem? (i := 694) (by decide +kernel), tyX9_ok, nmX9⟩
theorem pX9_161 : FP RX9 161 9 20 (.boolean) := ⟨RX9, TX9, 23, tyX9, rfl, by decide, inlX9, List.mem_of_getElem? (i := 694) (by decide +kernel), tyX9_ok, nmX9, rfl, rfl⟩
theorem kX9_182 : Cond.methodLink RX9 182 yX9_ruleAt ∈ wsL_law := List.mem_of_getElem? (i := 695) (by decide +kernel)
theorem kX9_186 : Cond.methodLink RX9 186 yX9_apply ∈ wsL_law := List.mem_of_getElem? (i := 699) (by decide +kernel)
theorem nX9_173 : Cond.constant RX9 173 (1001000) ∈ wsL_law := List.mem_of_getElem? (i := 703) (by decide +kernel)
theorem nX9_174 : Cond.constant RX9 174 (1000001) ∈ wsL_law := List.mem_of_getElem? (i := 704) (by decide +kernel)
theorem kX9_169 : Cond.methodLink RX9 169 yX9_addPart ∈ wsL_law := List.mem_of_getElem? (i := 705) (by decide +kernel)
theorem kX9_165 : Cond.methodLink RX9 165 yX9_add ∈ wsL_law := List.mem_of_getElem? (i := 709) (by decide +kernel)
theorem kX9_175 : Cond.methodLink RX9 175 yX9_merge ∈ wsL_law := List.mem_of_getElem? (i := 713) (by decide +kernel)
theorem kL_104 : Cond.methodLink RL 104 yX8_machinePeak ∈ wsL_law := List.mem_of_getElem? (i := 717) (by decide +kernel)
theorem kX8_193 : Cond.methodLink RX8 193 yX2_peak ∈ wsL_law := List.mem_of_getElem? (i := 721) (by decide +kernel)
theorem kL_107 : Cond.methodLink RL 107 yX9_machinePeak ∈ wsL_law := List.mem_of_getElem? (i := 725) (by decide +kernel)
theorem kL_110 : Cond.methodLink RL 110 yX8_runScript ∈ wsL_law := List.mem_of_getElem? (i := 729) (by decide +kernel)
theorem nX8_200 : Cond.constantLong RX8 200 (1000) ∈ wsL_law := List.mem_of_getElem? (i := 733) (by decide +kernel)
theorem kX8_196 : Cond.methodLink RX8 196 yX8_withoutLowGroups ∈ wsL_law := List.mem_of_getElem? (i := 734) (by decide +kernel)
theorem kX8_202 : Cond.methodLink RX8 202 yX8_commandSucceeds ∈ wsL_law := List.mem_of_getElem? (i := 737) (by decide +kernel)
theorem kL_114 : Cond.methodLink RL 114 yX9_runScript ∈ wsL_law := List.mem_of_getElem? (i := 741) (by decide +kernel)
theorem nX9_195 : Cond.constantLong RX9 195 (1000) ∈ wsL_law := List.mem_of_getElem? (i := 745) (by decide +kernel)
theorem kX9_197 : Cond.methodLink RX9 197 yX9_thousands ∈ wsL_law := List.mem_of_getElem? (i := 746) (by decide +kernel)
theorem kX9_201 : Cond.methodLink RX9 201 yX9_command ∈ wsL_law := List.mem_of_getElem? (i := 749) (by decide +kernel)
theorem kL_115 : Cond.methodLink RL 115 yX8_observe ∈ wsL_law := List.mem_of_getElem? (i := 753) (by decide +kernel)
theorem kX8_205 : Cond.methodLink RX8 205 yX3_add ∈ wsL_law := List.mem_of_getElem? (i := 757) (by decide +kernel)
theorem kX3_22 : Cond.methodLink RX3 22 yX3_dropOldest ∈ wsL_law := List.mem_of_getElem? (i := 761) (by decide +kernel)
theorem kX8_208 : Cond.methodLink RX8 208 yX3_count ∈ wsL_law := List.mem_of_getElem? (i := 765) (by decide +kernel)
theorem kL_118 : Cond.methodLink RL 118 yX9_observe ∈ wsL_law := List.mem_of_getElem? (i := 769) (by decide +kernel)
theorem fX9_205 : FL RX9 205 9 11 := ⟨RX9, TX9, 23, tyX9, rfl, by decide, inlX9, List.mem_of_getElem? (i := 773) (by decide +kernel), tyX9_ok, nmX9⟩
theorem pX9_205 : FP RX9 205 9 11 (.int) := ⟨RX9, TX9, 23, tyX9, rfl, by decide, inlX9, List.mem_of_getElem? (i := 773) (by decide +kernel), tyX9_ok, nmX9, rfl, rfl⟩
theorem kL_119 : Cond.methodLink RL 119 yX8_forgetAfter ∈ wsL_law := List.mem_of_getElem? (i := 774) (by decide +kernel)
theorem kX8_209 : Cond.methodLink RX8 209 yX3_keepUpTo ∈ wsL_law := List.mem_of_getElem? (i := 778) (by decide +kernel)
theorem kL_122 : Cond.methodLink RL 122 yX9_forgetAfter ∈ wsL_law := List.mem_of_getElem? (i := 782) (by decide +kernel)
theorem kL_123 : Cond.methodLink RL 123 yX8_possibleStrategies ∈ wsL_law := List.mem_of_getElem? (i := 786) (by decide +kernel)
theorem kX8_212 : Cond.methodLink RX8 212 yX8_observationsHold ∈ wsL_law := List.mem_of_getElem? (i := 790) (by decide +kernel)
theorem kX8_227 : Cond.methodLink RX8 227 Lib.Math.min.name ∈ wsL_law := List.mem_of_getElem? (i := 794) (by decide +kernel)
theorem kX8_224 : Cond.methodLink RX8 224 yX3_greatestLimit ∈ wsL_law := List.mem_of_getElem? (i := 795) (by decide +kernel)
theorem kX3_25 : Cond.methodLink RX3 25 Lib.Math.max.name ∈ wsL_law := List.mem_of_getElem? (i := 799) (by decide +kernel)
theorem kX8_232 : Cond.methodLink RX8 232 yX3_allow ∈ wsL_law := List.mem_of_getElem? (i := 800) (by decide +kernel)
theorem kL_126 : Cond.methodLink RL 126 yX9_possibleStrategies ∈ wsL_law := List.mem_of_getElem? (i := 804) (by decide +kernel)
theorem kL_127 : Cond.methodLink RL 127 yX8_setSeed ∈ wsL_law := List.mem_of_getElem? (i := 808) (by decide +kernel)
theorem kL_131 : Cond.methodLink RL 131 yX9_setSeed ∈ wsL_law := List.mem_of_getElem? (i := 812) (by decide +kernel)
theorem fX9_208 : FL RX9 208 9 14 := ⟨RX9, TX9, 23, tyX9, rfl, by decide, inlX9, List.mem_of_getElem? (i := 816) (by decide +kernel), tyX9_ok, nmX9⟩
theorem pX9_208 : FP RX9 208 9 14 (.long) := ⟨RX9, TX9, 23, tyX9, rfl, by decide, inlX9, List.mem_of_getElem? (i := 816) (by decide +kernel), tyX9_ok, nmX9, rfl, rfl⟩
theorem kL_132 : Cond.methodLink RL 132 yX8_randomReduction ∈ wsL_law := List.mem_of_getElem? (i := 817) (by decide +kernel)
theorem kX8_215 : Cond.methodLink RX8 215 yX8_randomStepOnCopy ∈ wsL_law := List.mem_of_getElem? (i := 821) (by decide +kernel)
theorem nX8_235 : Cond.constantLong RX8 235 (6364136223846793005) ∈ wsL_law := List.mem_of_getElem? (i := 825) (by decide +kernel)
theorem nX8_237 : Cond.constantLong RX8 237 (1442695040888963407) ∈ wsL_law := List.mem_of_getElem? (i := 826) (by decide +kernel)
theorem kX8_239 : Cond.methodLink RX8 239 yX5_numberedRedex ∈ wsL_law := List.mem_of_getElem? (i := 827) (by decide +kernel)
theorem kL_135 : Cond.methodLink RL 135 yX9_randomReduction ∈ wsL_law := List.mem_of_getElem? (i := 830) (by decide +kernel)
theorem nX9_212 : Cond.constantLong RX9 212 (30) ∈ wsL_law := List.mem_of_getElem? (i := 834) (by decide +kernel)
theorem nX9_214 : Cond.constantLong RX9 214 (6364136223846793005) ∈ wsL_law := List.mem_of_getElem? (i := 835) (by decide +kernel)
theorem nX9_216 : Cond.constantLong RX9 216 (1442695040888963407) ∈ wsL_law := List.mem_of_getElem? (i := 836) (by decide +kernel)
theorem kX9_218 : Cond.methodLink RX9 218 yX9_redexNumber ∈ wsL_law := List.mem_of_getElem? (i := 837) (by decide +kernel)
theorem kL_136 : Cond.methodLink RL 136 yX8_save ∈ wsL_law := List.mem_of_getElem? (i := 840) (by decide +kernel)
theorem kL_139 : Cond.methodLink RL 139 yX9_save ∈ wsL_law := List.mem_of_getElem? (i := 844) (by decide +kernel)
theorem kL_140 : Cond.methodLink RL 140 yX8_restore ∈ wsL_law := List.mem_of_getElem? (i := 848) (by decide +kernel)
theorem kL_143 : Cond.methodLink RL 143 yX9_restore ∈ wsL_law := List.mem_of_getElem? (i := 852) (by decide +kernel)
-- yX8_init: no words of a call
-- yX6_init: no words of a call
-- yX4_init: no words of a call
-- yX5_init: no words of a call
-- yX2_init: no words of a call
-- yX0_init: no words of a call
-- yX1_init: no words of a call
-- yX7_init: no words of a call
-- yX3_init: no words of a call
theorem mX6_add : MV yX6_add cX6_add 2 (none) 1 := ⟨List.mem_of_getElem? (i := 107) (by decide +kernel), List.mem_of_getElem? (i := 15) (by decide +kernel), List.mem_of_getElem? (i := 105) (by decide +kernel), List.mem_of_getElem? (i := 106) (by decide +kernel), by decide +kernel, by decide +kernel, by decide +kernel⟩
-- yX9_init: no words of a call
theorem mX8_append : MV yX8_append cX8_append 2 ((some .int)) 1 := ⟨List.mem_of_getElem? (i := 132) (by decide +kernel), List.mem_of_getElem? (i := 2) (by decide +kernel), List.mem_of_getElem? (i := 130) (by decide +kernel), List.mem_of_getElem? (i := 131) (by decide +kernel), by decide +kernel, by decide +kernel, by decide +kernel⟩
theorem mX7_put : MV yX7_put cX7_put 2 ((some .boolean)) 1 := ⟨List.mem_of_getElem? (i := 136) (by decide +kernel), List.mem_of_getElem? (i := 39) (by decide +kernel), List.mem_of_getElem? (i := 134) (by decide +kernel), List.mem_of_getElem? (i := 135) (by decide +kernel), by decide +kernel, by decide +kernel, by decide +kernel⟩
theorem mX7_length : MV yX7_length cX7_length 1 ((some .int)) 0 := ⟨List.mem_of_getElem? (i := 140) (by decide +kernel), List.mem_of_getElem? (i := 39) (by decide +kernel), List.mem_of_getElem? (i := 138) (by decide +kernel), List.mem_of_getElem? (i := 139) (by decide +kernel), by decide +kernel, by decide +kernel, by decide +kernel⟩
theorem mX9_append : MV yX9_append cX9_append 2 ((some .int)) 1 := ⟨List.mem_of_getElem? (i := 144) (by decide +kernel), List.mem_of_getElem? (i := 5) (by decide +kernel), List.mem_of_getElem? (i := 142) (by decide +kernel), List.mem_of_getElem? (i := 143) (by decide +kernel), by decide +kernel, by decide +kernel, by decide +kernel⟩
theorem mX9_in : MS yX9_in cX9_in 6 ((some .boolean)) 3 := ⟨List.mem_of_getElem? (i := 150) (by decide +kernel), List.mem_of_getElem? (i := 5) (by decide +kernel), List.mem_of_getElem? (i := 149) (by decide +kernel), by decide +kernel, by decide +kernel, by decide +kernel⟩
theorem mX8_clearText : MV yX8_clearText cX8_clearText 2 ((some .int)) 0 := ⟨List.mem_of_getElem? (i := 154) (by decide +kernel), List.mem_of_getElem? (i := 2) (by decide +kernel), List.mem_of_getElem? (i := 152) (by decide +kernel), List.mem_of_getElem? (i := 153) (by decide +kernel), by decide +kernel, by decide +kernel, by decide +kernel⟩
theorem mX7_clear : MV yX7_clear cX7_clear 1 (none) 0 := ⟨List.mem_of_getElem? (i := 158) (by decide +kernel), List.mem_of_getElem? (i := 39) (by decide +kernel), List.mem_of_getElem? (i := 156) (by decide +kernel), List.mem_of_getElem? (i := 157) (by decide +kernel), by decide +kernel, by decide +kernel, by decide +kernel⟩
theorem mX9_clearText : MV yX9_clearText cX9_clearText 2 ((some .int)) 0 := ⟨List.mem_of_getElem? (i := 162) (by decide +kernel), List.mem_of_getElem? (i := 5) (by decide +kernel), List.mem_of_getElem? (i := 160) (by decide +kernel), List.mem_of_getElem? (i := 161) (by decide +kernel), by decide +kernel, by decide +kernel, by decide +kernel⟩
theorem mX8_errorPosition : MV yX8_errorPosition cX8_errorPosition 1 ((some .int)) 0 := ⟨List.mem_of_getElem? (i := 166) (by decide +kernel), List.mem_of_getElem? (i := 2) (by decide +kernel), List.mem_of_getElem? (i := 164) (by decide +kernel), List.mem_of_getElem? (i := 165) (by decide +kernel), by decide +kernel, by decide +kernel, by decide +kernel⟩
theorem mX7_firstError : MV yX7_firstError cX7_firstError 4 ((some .int)) 0 := ⟨List.mem_of_getElem? (i := 170) (by decide +kernel), List.mem_of_getElem? (i := 39) (by decide +kernel), List.mem_of_getElem? (i := 168) (by decide +kernel), List.mem_of_getElem? (i := 169) (by decide +kernel), by decide +kernel, by decide +kernel, by decide +kernel⟩
theorem mX7_tokenOf : MS yX7_tokenOf cX7_tokenOf 1 ((some .int)) 1 := ⟨List.mem_of_getElem? (i := 173) (by decide +kernel), List.mem_of_getElem? (i := 39) (by decide +kernel), List.mem_of_getElem? (i := 172) (by decide +kernel), by decide +kernel, by decide +kernel, by decide +kernel⟩
theorem mX8_parts : MS yX8_parts cX8_parts 1 ((some .int)) 1 := ⟨List.mem_of_getElem? (i := 175) (by decide +kernel), List.mem_of_getElem? (i := 2) (by decide +kernel), List.mem_of_getElem? (i := 174) (by decide +kernel), by decide +kernel, by decide +kernel, by decide +kernel⟩
theorem mX9_errorPosition : MV yX9_errorPosition cX9_errorPosition 4 ((some .int)) 0 := ⟨List.mem_of_getElem? (i := 179) (by decide +kernel), List.mem_of_getElem? (i := 5) (by decide +kernel), List.mem_of_getElem? (i := 177) (by decide +kernel), List.mem_of_getElem? (i := 178) (by decide +kernel), by decide +kernel, by decide +kernel, by decide +kernel⟩
theorem mX9_tokenOf : MS yX9_tokenOf cX9_tokenOf 1 ((some .int)) 1 := ⟨List.mem_of_getElem? (i := 182) (by decide +kernel), List.mem_of_getElem? (i := 5) (by decide +kernel), List.mem_of_getElem? (i := 181) (by decide +kernel), by decide +kernel, by decide +kernel, by decide +kernel⟩
theorem mX9_parts : MS yX9_parts cX9_parts 1 ((some .int)) 1 := ⟨List.mem_of_getElem? (i := 187) (by decide +kernel), List.mem_of_getElem? (i := 5) (by decide +kernel), List.mem_of_getElem? (i := 186) (by decide +kernel), by decide +kernel, by decide +kernel, by decide +kernel⟩
theorem mX8_load : MV yX8_load cX8_load 1 ((some .int)) 0 := ⟨List.mem_of_getElem? (i := 192) (by decide +kernel), List.mem_of_getElem? (i := 2) (by decide +kernel), List.mem_of_getElem? (i := 190) (by decide +kernel), List.mem_of_getElem? (i := 191) (by decide +kernel), by decide +kernel, by decide +kernel, by decide +kernel⟩
theorem mX7_writeTo : MV yX7_writeTo cX7_writeTo 3 (none) 1 := ⟨List.mem_of_getElem? (i := 196) (by decide +kernel), List.mem_of_getElem? (i := 39) (by decide +kernel), List.mem_of_getElem? (i := 194) (by decide +kernel), List.mem_of_getElem? (i := 195) (by decide +kernel), by decide +kernel, by decide +kernel, by decide +kernel⟩
theorem mX6_clear : MV yX6_clear cX6_clear 1 (none) 0 := ⟨List.mem_of_getElem? (i := 200) (by decide +kernel), List.mem_of_getElem? (i := 15) (by decide +kernel), List.mem_of_getElem? (i := 198) (by decide +kernel), List.mem_of_getElem? (i := 199) (by decide +kernel), by decide +kernel, by decide +kernel, by decide +kernel⟩
theorem mX1_forgetAll : MV yX1_forgetAll cX1_forgetAll 1 (none) 0 := ⟨List.mem_of_getElem? (i := 205) (by decide +kernel), List.mem_of_getElem? (i := 35) (by decide +kernel), List.mem_of_getElem? (i := 203) (by decide +kernel), List.mem_of_getElem? (i := 204) (by decide +kernel), by decide +kernel, by decide +kernel, by decide +kernel⟩
theorem mX6_length : MV yX6_length cX6_length 1 ((some .int)) 0 := ⟨List.mem_of_getElem? (i := 210) (by decide +kernel), List.mem_of_getElem? (i := 15) (by decide +kernel), List.mem_of_getElem? (i := 208) (by decide +kernel), List.mem_of_getElem? (i := 209) (by decide +kernel), by decide +kernel, by decide +kernel, by decide +kernel⟩
theorem mX9_load : MV yX9_load cX9_load 2 ((some .int)) 0 := ⟨List.mem_of_getElem? (i := 214) (by decide +kernel), List.mem_of_getElem? (i := 5) (by decide +kernel), List.mem_of_getElem? (i := 212) (by decide +kernel), List.mem_of_getElem? (i := 213) (by decide +kernel), by decide +kernel, by decide +kernel, by decide +kernel⟩
theorem mX8_size : MV yX8_size cX8_size 1 ((some .int)) 0 := ⟨List.mem_of_getElem? (i := 220) (by decide +kernel), List.mem_of_getElem? (i := 2) (by decide +kernel), List.mem_of_getElem? (i := 218) (by decide +kernel), List.mem_of_getElem? (i := 219) (by decide +kernel), by decide +kernel, by decide +kernel, by decide +kernel⟩
theorem mX9_size : MV yX9_size cX9_size 1 ((some .int)) 0 := ⟨List.mem_of_getElem? (i := 224) (by decide +kernel), List.mem_of_getElem? (i := 5) (by decide +kernel), List.mem_of_getElem? (i := 222) (by decide +kernel), List.mem_of_getElem? (i := 223) (by decide +kernel), by decide +kernel, by decide +kernel, by decide +kernel⟩
theorem mX8_tokenAt : MV yX8_tokenAt cX8_tokenAt 2 ((some .int)) 1 := ⟨List.mem_of_getElem? (i := 228) (by decide +kernel), List.mem_of_getElem? (i := 2) (by decide +kernel), List.mem_of_getElem? (i := 226) (by decide +kernel), List.mem_of_getElem? (i := 227) (by decide +kernel), by decide +kernel, by decide +kernel, by decide +kernel⟩
theorem mX6_has : MV yX6_has cX6_has 2 ((some .boolean)) 1 := ⟨List.mem_of_getElem? (i := 232) (by decide +kernel), List.mem_of_getElem? (i := 15) (by decide +kernel), List.mem_of_getElem? (i := 230) (by decide +kernel), List.mem_of_getElem? (i := 231) (by decide +kernel), by decide +kernel, by decide +kernel, by decide +kernel⟩
theorem mX6_token : MV yX6_token cX6_token 2 ((some .int)) 1 := ⟨List.mem_of_getElem? (i := 236) (by decide +kernel), List.mem_of_getElem? (i := 15) (by decide +kernel), List.mem_of_getElem? (i := 234) (by decide +kernel), List.mem_of_getElem? (i := 235) (by decide +kernel), by decide +kernel, by decide +kernel, by decide +kernel⟩
theorem mX9_tokenAt : MV yX9_tokenAt cX9_tokenAt 2 ((some .int)) 1 := ⟨List.mem_of_getElem? (i := 240) (by decide +kernel), List.mem_of_getElem? (i := 5) (by decide +kernel), List.mem_of_getElem? (i := 238) (by decide +kernel), List.mem_of_getElem? (i := 239) (by decide +kernel), by decide +kernel, by decide +kernel, by decide +kernel⟩
theorem mX8_nameAt : MV yX8_nameAt cX8_nameAt 4 ((some .int)) 1 := ⟨List.mem_of_getElem? (i := 244) (by decide +kernel), List.mem_of_getElem? (i := 2) (by decide +kernel), List.mem_of_getElem? (i := 242) (by decide +kernel), List.mem_of_getElem? (i := 243) (by decide +kernel), by decide +kernel, by decide +kernel, by decide +kernel⟩
theorem mX4_measure : MV yX4_measure cX4_measure 2 (none) 1 := ⟨List.mem_of_getElem? (i := 248) (by decide +kernel), List.mem_of_getElem? (i := 23) (by decide +kernel), List.mem_of_getElem? (i := 246) (by decide +kernel), List.mem_of_getElem? (i := 247) (by decide +kernel), by decide +kernel, by decide +kernel, by decide +kernel⟩
theorem mX4_measureEnds : MV yX4_measureEnds cX4_measureEnds 4 (none) 1 := ⟨List.mem_of_getElem? (i := 257) (by decide +kernel), List.mem_of_getElem? (i := 23) (by decide +kernel), List.mem_of_getElem? (i := 255) (by decide +kernel), List.mem_of_getElem? (i := 256) (by decide +kernel), by decide +kernel, by decide +kernel, by decide +kernel⟩
theorem mX4_endAt : MV yX4_endAt cX4_endAt 2 ((some .int)) 1 := ⟨List.mem_of_getElem? (i := 262) (by decide +kernel), List.mem_of_getElem? (i := 23) (by decide +kernel), List.mem_of_getElem? (i := 260) (by decide +kernel), List.mem_of_getElem? (i := 261) (by decide +kernel), by decide +kernel, by decide +kernel, by decide +kernel⟩
theorem mX4_measureDepths : MV yX4_measureDepths cX4_measureDepths 4 (none) 1 := ⟨List.mem_of_getElem? (i := 266) (by decide +kernel), List.mem_of_getElem? (i := 23) (by decide +kernel), List.mem_of_getElem? (i := 264) (by decide +kernel), List.mem_of_getElem? (i := 265) (by decide +kernel), by decide +kernel, by decide +kernel, by decide +kernel⟩
theorem mX4_setDepth : MV yX4_setDepth cX4_setDepth 3 (none) 2 := ⟨List.mem_of_getElem? (i := 270) (by decide +kernel), List.mem_of_getElem? (i := 23) (by decide +kernel), List.mem_of_getElem? (i := 268) (by decide +kernel), List.mem_of_getElem? (i := 269) (by decide +kernel), by decide +kernel, by decide +kernel, by decide +kernel⟩
theorem mX4_depthAt : MV yX4_depthAt cX4_depthAt 2 ((some .int)) 1 := ⟨List.mem_of_getElem? (i := 274) (by decide +kernel), List.mem_of_getElem? (i := 23) (by decide +kernel), List.mem_of_getElem? (i := 272) (by decide +kernel), List.mem_of_getElem? (i := 273) (by decide +kernel), by decide +kernel, by decide +kernel, by decide +kernel⟩
theorem mX9_nameAt : MV yX9_nameAt cX9_nameAt 4 ((some .int)) 1 := ⟨List.mem_of_getElem? (i := 278) (by decide +kernel), List.mem_of_getElem? (i := 5) (by decide +kernel), List.mem_of_getElem? (i := 276) (by decide +kernel), List.mem_of_getElem? (i := 277) (by decide +kernel), by decide +kernel, by decide +kernel, by decide +kernel⟩
theorem mX9_layDepths : MV yX9_layDepths cX9_layDepths 8 (none) 3 := ⟨List.mem_of_getElem? (i := 282) (by decide +kernel), List.mem_of_getElem? (i := 5) (by decide +kernel), List.mem_of_getElem? (i := 280) (by decide +kernel), List.mem_of_getElem? (i := 281) (by decide +kernel), by decide +kernel, by decide +kernel, by decide +kernel⟩
theorem mX9_isVariable : MS yX9_isVariable cX9_isVariable 1 ((some .boolean)) 1 := ⟨List.mem_of_getElem? (i := 285) (by decide +kernel), List.mem_of_getElem? (i := 5) (by decide +kernel), List.mem_of_getElem? (i := 284) (by decide +kernel), by decide +kernel, by decide +kernel, by decide +kernel⟩
theorem mX8_redexCount : MV yX8_redexCount cX8_redexCount 1 ((some .int)) 0 := ⟨List.mem_of_getElem? (i := 289) (by decide +kernel), List.mem_of_getElem? (i := 2) (by decide +kernel), List.mem_of_getElem? (i := 287) (by decide +kernel), List.mem_of_getElem? (i := 288) (by decide +kernel), by decide +kernel, by decide +kernel, by decide +kernel⟩
theorem mX5_countRedexes : MS yX5_countRedexes cX5_countRedexes 3 ((some .int)) 1 := ⟨List.mem_of_getElem? (i := 292) (by decide +kernel), List.mem_of_getElem? (i := 27) (by decide +kernel), List.mem_of_getElem? (i := 291) (by decide +kernel), by decide +kernel, by decide +kernel, by decide +kernel⟩
theorem mX5_isRedex : MS yX5_isRedex cX5_isRedex 2 ((some .boolean)) 2 := ⟨List.mem_of_getElem? (i := 296) (by decide +kernel), List.mem_of_getElem? (i := 27) (by decide +kernel), List.mem_of_getElem? (i := 295) (by decide +kernel), by decide +kernel, by decide +kernel, by decide +kernel⟩
theorem mX9_redexCount : MV yX9_redexCount cX9_redexCount 1 ((some .int)) 0 := ⟨List.mem_of_getElem? (i := 301) (by decide +kernel), List.mem_of_getElem? (i := 5) (by decide +kernel), List.mem_of_getElem? (i := 299) (by decide +kernel), List.mem_of_getElem? (i := 300) (by decide +kernel), by decide +kernel, by decide +kernel, by decide +kernel⟩
theorem mX9_redexes : MS yX9_redexes cX9_redexes 3 ((some .int)) 1 := ⟨List.mem_of_getElem? (i := 304) (by decide +kernel), List.mem_of_getElem? (i := 5) (by decide +kernel), List.mem_of_getElem? (i := 303) (by decide +kernel), by decide +kernel, by decide +kernel, by decide +kernel⟩
theorem mX9_isRedex : MS yX9_isRedex cX9_isRedex 2 ((some .boolean)) 2 := ⟨List.mem_of_getElem? (i := 307) (by decide +kernel), List.mem_of_getElem? (i := 5) (by decide +kernel), List.mem_of_getElem? (i := 306) (by decide +kernel), by decide +kernel, by decide +kernel, by decide +kernel⟩
theorem mX8_chosenRedex : MV yX8_chosenRedex cX8_chosenRedex 2 ((some .int)) 1 := ⟨List.mem_of_getElem? (i := 311) (by decide +kernel), List.mem_of_getElem? (i := 2) (by decide +kernel), List.mem_of_getElem? (i := 309) (by decide +kernel), List.mem_of_getElem? (i := 310) (by decide +kernel), by decide +kernel, by decide +kernel, by decide +kernel⟩
theorem mX8_isStrategy : MS yX8_isStrategy cX8_isStrategy 1 ((some .boolean)) 1 := ⟨List.mem_of_getElem? (i := 314) (by decide +kernel), List.mem_of_getElem? (i := 2) (by decide +kernel), List.mem_of_getElem? (i := 313) (by decide +kernel), by decide +kernel, by decide +kernel, by decide +kernel⟩
theorem mX5_choose : MS yX5_choose cX5_choose 2 ((some .int)) 2 := ⟨List.mem_of_getElem? (i := 317) (by decide +kernel), List.mem_of_getElem? (i := 27) (by decide +kernel), List.mem_of_getElem? (i := 316) (by decide +kernel), by decide +kernel, by decide +kernel, by decide +kernel⟩
theorem mX5_nextRedex : MS yX5_nextRedex cX5_nextRedex 3 ((some .int)) 2 := ⟨List.mem_of_getElem? (i := 320) (by decide +kernel), List.mem_of_getElem? (i := 27) (by decide +kernel), List.mem_of_getElem? (i := 319) (by decide +kernel), by decide +kernel, by decide +kernel, by decide +kernel⟩
theorem mX5_leftmostInnermost : MS yX5_leftmostInnermost cX5_leftmostInnermost 4 ((some .int)) 1 := ⟨List.mem_of_getElem? (i := 323) (by decide +kernel), List.mem_of_getElem? (i := 27) (by decide +kernel), List.mem_of_getElem? (i := 322) (by decide +kernel), by decide +kernel, by decide +kernel, by decide +kernel⟩
theorem mX5_lastRedex : MS yX5_lastRedex cX5_lastRedex 2 ((some .int)) 1 := ⟨List.mem_of_getElem? (i := 326) (by decide +kernel), List.mem_of_getElem? (i := 27) (by decide +kernel), List.mem_of_getElem? (i := 325) (by decide +kernel), by decide +kernel, by decide +kernel, by decide +kernel⟩
theorem mX5_weakHead : MS yX5_weakHead cX5_weakHead 2 ((some .int)) 1 := ⟨List.mem_of_getElem? (i := 329) (by decide +kernel), List.mem_of_getElem? (i := 27) (by decide +kernel), List.mem_of_getElem? (i := 328) (by decide +kernel), by decide +kernel, by decide +kernel, by decide +kernel⟩
theorem mX9_chosenRedex : MV yX9_chosenRedex cX9_chosenRedex 2 ((some .int)) 1 := ⟨List.mem_of_getElem? (i := 333) (by decide +kernel), List.mem_of_getElem? (i := 5) (by decide +kernel), List.mem_of_getElem? (i := 331) (by decide +kernel), List.mem_of_getElem? (i := 332) (by decide +kernel), by decide +kernel, by decide +kernel, by decide +kernel⟩
theorem mX9_choose : MS yX9_choose cX9_choose 7 ((some .int)) 2 := ⟨List.mem_of_getElem? (i := 337) (by decide +kernel), List.mem_of_getElem? (i := 5) (by decide +kernel), List.mem_of_getElem? (i := 336) (by decide +kernel), by decide +kernel, by decide +kernel, by decide +kernel⟩
theorem mX9_isInnermost : MS yX9_isInnermost cX9_isInnermost 4 ((some .boolean)) 2 := ⟨List.mem_of_getElem? (i := 340) (by decide +kernel), List.mem_of_getElem? (i := 5) (by decide +kernel), List.mem_of_getElem? (i := 339) (by decide +kernel), by decide +kernel, by decide +kernel, by decide +kernel⟩
theorem mX9_end : MS yX9_end cX9_end 4 ((some .int)) 2 := ⟨List.mem_of_getElem? (i := 343) (by decide +kernel), List.mem_of_getElem? (i := 5) (by decide +kernel), List.mem_of_getElem? (i := 342) (by decide +kernel), by decide +kernel, by decide +kernel, by decide +kernel⟩
theorem mX8_freeVariables : MV yX8_freeVariables cX8_freeVariables 4 ((some .int)) 0 := ⟨List.mem_of_getElem? (i := 347) (by decide +kernel), List.mem_of_getElem? (i := 2) (by decide +kernel), List.mem_of_getElem? (i := 345) (by decide +kernel), List.mem_of_getElem? (i := 346) (by decide +kernel), by decide +kernel, by decide +kernel, by decide +kernel⟩
theorem mX8_isVariable : MS yX8_isVariable cX8_isVariable 1 ((some .boolean)) 1 := ⟨List.mem_of_getElem? (i := 350) (by decide +kernel), List.mem_of_getElem? (i := 2) (by decide +kernel), List.mem_of_getElem? (i := 349) (by decide +kernel), by decide +kernel, by decide +kernel, by decide +kernel⟩
theorem mX9_freeVariables : MV yX9_freeVariables cX9_freeVariables 3 ((some .int)) 0 := ⟨List.mem_of_getElem? (i := 354) (by decide +kernel), List.mem_of_getElem? (i := 5) (by decide +kernel), List.mem_of_getElem? (i := 352) (by decide +kernel), List.mem_of_getElem? (i := 353) (by decide +kernel), by decide +kernel, by decide +kernel, by decide +kernel⟩
theorem mX8_step : MV yX8_step cX8_step 3 ((some .int)) 1 := ⟨List.mem_of_getElem? (i := 358) (by decide +kernel), List.mem_of_getElem? (i := 2) (by decide +kernel), List.mem_of_getElem? (i := 356) (by decide +kernel), List.mem_of_getElem? (i := 357) (by decide +kernel), by decide +kernel, by decide +kernel, by decide +kernel⟩
theorem mX6_copyFrom : MV yX6_copyFrom cX6_copyFrom 2 (none) 1 := ⟨List.mem_of_getElem? (i := 362) (by decide +kernel), List.mem_of_getElem? (i := 15) (by decide +kernel), List.mem_of_getElem? (i := 360) (by decide +kernel), List.mem_of_getElem? (i := 361) (by decide +kernel), by decide +kernel, by decide +kernel, by decide +kernel⟩
theorem mX5_contract : MV yX5_contract cX5_contract 5 ((some .boolean)) 2 := ⟨List.mem_of_getElem? (i := 370) (by decide +kernel), List.mem_of_getElem? (i := 27) (by decide +kernel), List.mem_of_getElem? (i := 368) (by decide +kernel), List.mem_of_getElem? (i := 369) (by decide +kernel), by decide +kernel, by decide +kernel, by decide +kernel⟩
theorem mX6_addRange : MV yX6_addRange cX6_addRange 5 (none) 3 := ⟨List.mem_of_getElem? (i := 377) (by decide +kernel), List.mem_of_getElem? (i := 15) (by decide +kernel), List.mem_of_getElem? (i := 375) (by decide +kernel), List.mem_of_getElem? (i := 376) (by decide +kernel), by decide +kernel, by decide +kernel, by decide +kernel⟩
theorem mX5_addContracted : MV yX5_addContracted cX5_addContracted 9 (none) 4 := ⟨List.mem_of_getElem? (i := 381) (by decide +kernel), List.mem_of_getElem? (i := 27) (by decide +kernel), List.mem_of_getElem? (i := 379) (by decide +kernel), List.mem_of_getElem? (i := 380) (by decide +kernel), by decide +kernel, by decide +kernel, by decide +kernel⟩
theorem mX6_isTooLarge : MV yX6_isTooLarge cX6_isTooLarge 1 ((some .boolean)) 0 := ⟨List.mem_of_getElem? (i := 386) (by decide +kernel), List.mem_of_getElem? (i := 15) (by decide +kernel), List.mem_of_getElem? (i := 384) (by decide +kernel), List.mem_of_getElem? (i := 385) (by decide +kernel), by decide +kernel, by decide +kernel, by decide +kernel⟩
theorem mX5_addShifted : MV yX5_addShifted cX5_addShifted 10 (none) 5 := ⟨List.mem_of_getElem? (i := 391) (by decide +kernel), List.mem_of_getElem? (i := 27) (by decide +kernel), List.mem_of_getElem? (i := 389) (by decide +kernel), List.mem_of_getElem? (i := 390) (by decide +kernel), by decide +kernel, by decide +kernel, by decide +kernel⟩
theorem mX5_takeResult : MV yX5_takeResult cX5_takeResult 2 ((some .boolean)) 1 := ⟨List.mem_of_getElem? (i := 395) (by decide +kernel), List.mem_of_getElem? (i := 27) (by decide +kernel), List.mem_of_getElem? (i := 393) (by decide +kernel), List.mem_of_getElem? (i := 394) (by decide +kernel), by decide +kernel, by decide +kernel, by decide +kernel⟩
theorem mX8_actWithCopy : MV yX8_actWithCopy cX8_actWithCopy 1 ((some .int)) 0 := ⟨List.mem_of_getElem? (i := 400) (by decide +kernel), List.mem_of_getElem? (i := 2) (by decide +kernel), List.mem_of_getElem? (i := 398) (by decide +kernel), List.mem_of_getElem? (i := 399) (by decide +kernel), by decide +kernel, by decide +kernel, by decide +kernel⟩
theorem mX1_remember : MV yX1_remember cX1_remember 4 (none) 1 := ⟨List.mem_of_getElem? (i := 404) (by decide +kernel), List.mem_of_getElem? (i := 35) (by decide +kernel), List.mem_of_getElem? (i := 402) (by decide +kernel), List.mem_of_getElem? (i := 403) (by decide +kernel), by decide +kernel, by decide +kernel, by decide +kernel⟩
theorem mX9_step : MV yX9_step cX9_step 3 ((some .int)) 1 := ⟨List.mem_of_getElem? (i := 411) (by decide +kernel), List.mem_of_getElem? (i := 5) (by decide +kernel), List.mem_of_getElem? (i := 409) (by decide +kernel), List.mem_of_getElem? (i := 410) (by decide +kernel), by decide +kernel, by decide +kernel, by decide +kernel⟩
theorem mX9_contract : MV yX9_contract cX9_contract 8 ((some .boolean)) 2 := ⟨List.mem_of_getElem? (i := 415) (by decide +kernel), List.mem_of_getElem? (i := 5) (by decide +kernel), List.mem_of_getElem? (i := 413) (by decide +kernel), List.mem_of_getElem? (i := 414) (by decide +kernel), by decide +kernel, by decide +kernel, by decide +kernel⟩
theorem mX9_put : MV yX9_put cX9_put 2 ((some .boolean)) 1 := ⟨List.mem_of_getElem? (i := 419) (by decide +kernel), List.mem_of_getElem? (i := 5) (by decide +kernel), List.mem_of_getElem? (i := 417) (by decide +kernel), List.mem_of_getElem? (i := 418) (by decide +kernel), by decide +kernel, by decide +kernel, by decide +kernel⟩
theorem mX9_putShifted : MV yX9_putShifted cX9_putShifted 8 ((some .boolean)) 4 := ⟨List.mem_of_getElem? (i := 423) (by decide +kernel), List.mem_of_getElem? (i := 5) (by decide +kernel), List.mem_of_getElem? (i := 421) (by decide +kernel), List.mem_of_getElem? (i := 422) (by decide +kernel), by decide +kernel, by decide +kernel, by decide +kernel⟩
theorem mX9_commit : MV yX9_commit cX9_commit 1 ((some .int)) 0 := ⟨List.mem_of_getElem? (i := 427) (by decide +kernel), List.mem_of_getElem? (i := 5) (by decide +kernel), List.mem_of_getElem? (i := 425) (by decide +kernel), List.mem_of_getElem? (i := 426) (by decide +kernel), by decide +kernel, by decide +kernel, by decide +kernel⟩
theorem mX9_remember : MV yX9_remember cX9_remember 2 (none) 0 := ⟨List.mem_of_getElem? (i := 431) (by decide +kernel), List.mem_of_getElem? (i := 5) (by decide +kernel), List.mem_of_getElem? (i := 429) (by decide +kernel), List.mem_of_getElem? (i := 430) (by decide +kernel), by decide +kernel, by decide +kernel, by decide +kernel⟩
theorem mX9_assign : MS yX9_assign cX9_assign 3 (none) 2 := ⟨List.mem_of_getElem? (i := 434) (by decide +kernel), List.mem_of_getElem? (i := 5) (by decide +kernel), List.mem_of_getElem? (i := 433) (by decide +kernel), by decide +kernel, by decide +kernel, by decide +kernel⟩
theorem mX8_run : MV yX8_run cX8_run 4 ((some .int)) 2 := ⟨List.mem_of_getElem? (i := 438) (by decide +kernel), List.mem_of_getElem? (i := 2) (by decide +kernel), List.mem_of_getElem? (i := 436) (by decide +kernel), List.mem_of_getElem? (i := 437) (by decide +kernel), by decide +kernel, by decide +kernel, by decide +kernel⟩
theorem mX5_perform : MV yX5_perform cX5_perform 5 ((some .int)) 3 := ⟨List.mem_of_getElem? (i := 442) (by decide +kernel), List.mem_of_getElem? (i := 27) (by decide +kernel), List.mem_of_getElem? (i := 440) (by decide +kernel), List.mem_of_getElem? (i := 441) (by decide +kernel), by decide +kernel, by decide +kernel, by decide +kernel⟩
theorem mX9_run : MV yX9_run cX9_run 3 ((some .int)) 2 := ⟨List.mem_of_getElem? (i := 448) (by decide +kernel), List.mem_of_getElem? (i := 5) (by decide +kernel), List.mem_of_getElem? (i := 446) (by decide +kernel), List.mem_of_getElem? (i := 447) (by decide +kernel), by decide +kernel, by decide +kernel, by decide +kernel⟩
theorem mX9_runOn : MV yX9_runOn cX9_runOn 6 ((some .int)) 3 := ⟨List.mem_of_getElem? (i := 453) (by decide +kernel), List.mem_of_getElem? (i := 5) (by decide +kernel), List.mem_of_getElem? (i := 451) (by decide +kernel), List.mem_of_getElem? (i := 452) (by decide +kernel), by decide +kernel, by decide +kernel, by decide +kernel⟩
theorem mX8_abstractTerm : MV yX8_abstractTerm cX8_abstractTerm 1 ((some .int)) 0 := ⟨List.mem_of_getElem? (i := 457) (by decide +kernel), List.mem_of_getElem? (i := 2) (by decide +kernel), List.mem_of_getElem? (i := 455) (by decide +kernel), List.mem_of_getElem? (i := 456) (by decide +kernel), by decide +kernel, by decide +kernel, by decide +kernel⟩
theorem mX6_wrapInAbstraction : MV yX6_wrapInAbstraction cX6_wrapInAbstraction 1 ((some .boolean)) 0 := ⟨List.mem_of_getElem? (i := 461) (by decide +kernel), List.mem_of_getElem? (i := 15) (by decide +kernel), List.mem_of_getElem? (i := 459) (by decide +kernel), List.mem_of_getElem? (i := 460) (by decide +kernel), by decide +kernel, by decide +kernel, by decide +kernel⟩
theorem mX9_abstractTerm : MV yX9_abstractTerm cX9_abstractTerm 1 ((some .int)) 0 := ⟨List.mem_of_getElem? (i := 465) (by decide +kernel), List.mem_of_getElem? (i := 5) (by decide +kernel), List.mem_of_getElem? (i := 463) (by decide +kernel), List.mem_of_getElem? (i := 464) (by decide +kernel), by decide +kernel, by decide +kernel, by decide +kernel⟩
theorem mX9_putBehind : MV yX9_putBehind cX9_putBehind 5 ((some .boolean)) 2 := ⟨List.mem_of_getElem? (i := 469) (by decide +kernel), List.mem_of_getElem? (i := 5) (by decide +kernel), List.mem_of_getElem? (i := 467) (by decide +kernel), List.mem_of_getElem? (i := 468) (by decide +kernel), by decide +kernel, by decide +kernel, by decide +kernel⟩
theorem mX8_applyTo : MV yX8_applyTo cX8_applyTo 3 ((some .int)) 1 := ⟨List.mem_of_getElem? (i := 473) (by decide +kernel), List.mem_of_getElem? (i := 2) (by decide +kernel), List.mem_of_getElem? (i := 471) (by decide +kernel), List.mem_of_getElem? (i := 472) (by decide +kernel), by decide +kernel, by decide +kernel, by decide +kernel⟩
theorem mX8_isSlot : MS yX8_isSlot cX8_isSlot 1 ((some .boolean)) 1 := ⟨List.mem_of_getElem? (i := 476) (by decide +kernel), List.mem_of_getElem? (i := 2) (by decide +kernel), List.mem_of_getElem? (i := 475) (by decide +kernel), by decide +kernel, by decide +kernel, by decide +kernel⟩
theorem mX8_slotTerm : MV yX8_slotTerm cX8_slotTerm 2 ((some (.object "SubstitutionMachine$Term"))) 1 := ⟨List.mem_of_getElem? (i := 480) (by decide +kernel), List.mem_of_getElem? (i := 2) (by decide +kernel), List.mem_of_getElem? (i := 478) (by decide +kernel), List.mem_of_getElem? (i := 479) (by decide +kernel), by decide +kernel, by decide +kernel, by decide +kernel⟩
theorem mX9_applyTo : MV yX9_applyTo cX9_applyTo 4 ((some .int)) 1 := ⟨List.mem_of_getElem? (i := 486) (by decide +kernel), List.mem_of_getElem? (i := 5) (by decide +kernel), List.mem_of_getElem? (i := 484) (by decide +kernel), List.mem_of_getElem? (i := 485) (by decide +kernel), by decide +kernel, by decide +kernel, by decide +kernel⟩
theorem mX9_takeSlot : MV yX9_takeSlot cX9_takeSlot 4 (none) 2 := ⟨List.mem_of_getElem? (i := 490) (by decide +kernel), List.mem_of_getElem? (i := 5) (by decide +kernel), List.mem_of_getElem? (i := 488) (by decide +kernel), List.mem_of_getElem? (i := 489) (by decide +kernel), by decide +kernel, by decide +kernel, by decide +kernel⟩
theorem mX8_substitute : MV yX8_substitute cX8_substitute 4 ((some .int)) 2 := ⟨List.mem_of_getElem? (i := 494) (by decide +kernel), List.mem_of_getElem? (i := 2) (by decide +kernel), List.mem_of_getElem? (i := 492) (by decide +kernel), List.mem_of_getElem? (i := 493) (by decide +kernel), by decide +kernel, by decide +kernel, by decide +kernel⟩
theorem mX5_replaceFree : MV yX5_replaceFree cX5_replaceFree 7 ((some .boolean)) 3 := ⟨List.mem_of_getElem? (i := 498) (by decide +kernel), List.mem_of_getElem? (i := 27) (by decide +kernel), List.mem_of_getElem? (i := 496) (by decide +kernel), List.mem_of_getElem? (i := 497) (by decide +kernel), by decide +kernel, by decide +kernel, by decide +kernel⟩
theorem mX9_substitute : MV yX9_substitute cX9_substitute 6 ((some .int)) 2 := ⟨List.mem_of_getElem? (i := 502) (by decide +kernel), List.mem_of_getElem? (i := 5) (by decide +kernel), List.mem_of_getElem? (i := 500) (by decide +kernel), List.mem_of_getElem? (i := 501) (by decide +kernel), by decide +kernel, by decide +kernel, by decide +kernel⟩
theorem mX8_undo : MV yX8_undo cX8_undo 1 ((some .int)) 0 := ⟨List.mem_of_getElem? (i := 507) (by decide +kernel), List.mem_of_getElem? (i := 2) (by decide +kernel), List.mem_of_getElem? (i := 505) (by decide +kernel), List.mem_of_getElem? (i := 506) (by decide +kernel), by decide +kernel, by decide +kernel, by decide +kernel⟩
theorem mX1_takeBack : MV yX1_takeBack cX1_takeBack 4 ((some .boolean)) 1 := ⟨List.mem_of_getElem? (i := 511) (by decide +kernel), List.mem_of_getElem? (i := 35) (by decide +kernel), List.mem_of_getElem? (i := 509) (by decide +kernel), List.mem_of_getElem? (i := 510) (by decide +kernel), by decide +kernel, by decide +kernel, by decide +kernel⟩
theorem mX1_count : MV yX1_count cX1_count 1 ((some .int)) 0 := ⟨List.mem_of_getElem? (i := 517) (by decide +kernel), List.mem_of_getElem? (i := 35) (by decide +kernel), List.mem_of_getElem? (i := 515) (by decide +kernel), List.mem_of_getElem? (i := 516) (by decide +kernel), by decide +kernel, by decide +kernel, by decide +kernel⟩
theorem mX9_undo : MV yX9_undo cX9_undo 2 ((some .int)) 0 := ⟨List.mem_of_getElem? (i := 521) (by decide +kernel), List.mem_of_getElem? (i := 5) (by decide +kernel), List.mem_of_getElem? (i := 519) (by decide +kernel), List.mem_of_getElem? (i := 520) (by decide +kernel), by decide +kernel, by decide +kernel, by decide +kernel⟩
theorem mX8_stepsOfRun : MV yX8_stepsOfRun cX8_stepsOfRun 3 ((some .int)) 2 := ⟨List.mem_of_getElem? (i := 525) (by decide +kernel), List.mem_of_getElem? (i := 2) (by decide +kernel), List.mem_of_getElem? (i := 523) (by decide +kernel), List.mem_of_getElem? (i := 524) (by decide +kernel), by decide +kernel, by decide +kernel, by decide +kernel⟩
theorem mX8_isPrediction : MS yX8_isPrediction cX8_isPrediction 2 ((some .boolean)) 2 := ⟨List.mem_of_getElem? (i := 528) (by decide +kernel), List.mem_of_getElem? (i := 2) (by decide +kernel), List.mem_of_getElem? (i := 527) (by decide +kernel), by decide +kernel, by decide +kernel, by decide +kernel⟩
theorem mX8_performOnCopy : MV yX8_performOnCopy cX8_performOnCopy 3 ((some .int)) 2 := ⟨List.mem_of_getElem? (i := 532) (by decide +kernel), List.mem_of_getElem? (i := 2) (by decide +kernel), List.mem_of_getElem? (i := 530) (by decide +kernel), List.mem_of_getElem? (i := 531) (by decide +kernel), by decide +kernel, by decide +kernel, by decide +kernel⟩
theorem mX9_stepsOfRun : MV yX9_stepsOfRun cX9_stepsOfRun 3 ((some .int)) 2 := ⟨List.mem_of_getElem? (i := 536) (by decide +kernel), List.mem_of_getElem? (i := 5) (by decide +kernel), List.mem_of_getElem? (i := 534) (by decide +kernel), List.mem_of_getElem? (i := 535) (by decide +kernel), by decide +kernel, by decide +kernel, by decide +kernel⟩
theorem mX8_sizeAfterRun : MV yX8_sizeAfterRun cX8_sizeAfterRun 3 ((some .int)) 2 := ⟨List.mem_of_getElem? (i := 541) (by decide +kernel), List.mem_of_getElem? (i := 2) (by decide +kernel), List.mem_of_getElem? (i := 539) (by decide +kernel), List.mem_of_getElem? (i := 540) (by decide +kernel), by decide +kernel, by decide +kernel, by decide +kernel⟩
theorem mX9_sizeAfterRun : MV yX9_sizeAfterRun cX9_sizeAfterRun 3 ((some .int)) 2 := ⟨List.mem_of_getElem? (i := 545) (by decide +kernel), List.mem_of_getElem? (i := 5) (by decide +kernel), List.mem_of_getElem? (i := 543) (by decide +kernel), List.mem_of_getElem? (i := 544) (by decide +kernel), by decide +kernel, by decide +kernel, by decide +kernel⟩
theorem mX8_normalSize : MV yX8_normalSize cX8_normalSize 1 ((some .int)) 0 := ⟨List.mem_of_getElem? (i := 549) (by decide +kernel), List.mem_of_getElem? (i := 2) (by decide +kernel), List.mem_of_getElem? (i := 547) (by decide +kernel), List.mem_of_getElem? (i := 548) (by decide +kernel), by decide +kernel, by decide +kernel, by decide +kernel⟩
theorem mX8_normaliseInto : MV yX8_normaliseInto cX8_normaliseInto 3 ((some .boolean)) 2 := ⟨List.mem_of_getElem? (i := 553) (by decide +kernel), List.mem_of_getElem? (i := 2) (by decide +kernel), List.mem_of_getElem? (i := 551) (by decide +kernel), List.mem_of_getElem? (i := 552) (by decide +kernel), by decide +kernel, by decide +kernel, by decide +kernel⟩
theorem mX9_normalSize : MV yX9_normalSize cX9_normalSize 1 ((some .int)) 0 := ⟨List.mem_of_getElem? (i := 558) (by decide +kernel), List.mem_of_getElem? (i := 5) (by decide +kernel), List.mem_of_getElem? (i := 556) (by decide +kernel), List.mem_of_getElem? (i := 557) (by decide +kernel), by decide +kernel, by decide +kernel, by decide +kernel⟩
theorem mX9_normalize : MV yX9_normalize cX9_normalize 2 ((some .boolean)) 1 := ⟨List.mem_of_getElem? (i := 562) (by decide +kernel), List.mem_of_getElem? (i := 5) (by decide +kernel), List.mem_of_getElem? (i := 560) (by decide +kernel), List.mem_of_getElem? (i := 561) (by decide +kernel), by decide +kernel, by decide +kernel, by decide +kernel⟩
theorem mX8_normalTokenAt : MV yX8_normalTokenAt cX8_normalTokenAt 2 ((some .int)) 1 := ⟨List.mem_of_getElem? (i := 566) (by decide +kernel), List.mem_of_getElem? (i := 2) (by decide +kernel), List.mem_of_getElem? (i := 564) (by decide +kernel), List.mem_of_getElem? (i := 565) (by decide +kernel), by decide +kernel, by decide +kernel, by decide +kernel⟩
theorem mX9_normalTokenAt : MV yX9_normalTokenAt cX9_normalTokenAt 2 ((some .int)) 1 := ⟨List.mem_of_getElem? (i := 570) (by decide +kernel), List.mem_of_getElem? (i := 5) (by decide +kernel), List.mem_of_getElem? (i := 568) (by decide +kernel), List.mem_of_getElem? (i := 569) (by decide +kernel), by decide +kernel, by decide +kernel, by decide +kernel⟩
theorem mX8_isEquivalent : MV yX8_isEquivalent cX8_isEquivalent 3 ((some .int)) 1 := ⟨List.mem_of_getElem? (i := 574) (by decide +kernel), List.mem_of_getElem? (i := 2) (by decide +kernel), List.mem_of_getElem? (i := 572) (by decide +kernel), List.mem_of_getElem? (i := 573) (by decide +kernel), by decide +kernel, by decide +kernel, by decide +kernel⟩
theorem mX6_hasSameTokens : MV yX6_hasSameTokens cX6_hasSameTokens 3 ((some .boolean)) 1 := ⟨List.mem_of_getElem? (i := 578) (by decide +kernel), List.mem_of_getElem? (i := 15) (by decide +kernel), List.mem_of_getElem? (i := 576) (by decide +kernel), List.mem_of_getElem? (i := 577) (by decide +kernel), by decide +kernel, by decide +kernel, by decide +kernel⟩
theorem mX9_isEquivalent : MV yX9_isEquivalent cX9_isEquivalent 4 ((some .int)) 1 := ⟨List.mem_of_getElem? (i := 582) (by decide +kernel), List.mem_of_getElem? (i := 5) (by decide +kernel), List.mem_of_getElem? (i := 580) (by decide +kernel), List.mem_of_getElem? (i := 581) (by decide +kernel), by decide +kernel, by decide +kernel, by decide +kernel⟩
theorem mX8_machineSteps : MV yX8_machineSteps cX8_machineSteps 3 ((some .int)) 2 := ⟨List.mem_of_getElem? (i := 586) (by decide +kernel), List.mem_of_getElem? (i := 2) (by decide +kernel), List.mem_of_getElem? (i := 584) (by decide +kernel), List.mem_of_getElem? (i := 585) (by decide +kernel), by decide +kernel, by decide +kernel, by decide +kernel⟩
theorem mX2_work : MV yX2_work cX2_work 5 ((some .boolean)) 2 := ⟨List.mem_of_getElem? (i := 590) (by decide +kernel), List.mem_of_getElem? (i := 31) (by decide +kernel), List.mem_of_getElem? (i := 588) (by decide +kernel), List.mem_of_getElem? (i := 589) (by decide +kernel), by decide +kernel, by decide +kernel, by decide +kernel⟩
theorem mX2_start : MV yX2_start cX2_start 3 (none) 1 := ⟨List.mem_of_getElem? (i := 597) (by decide +kernel), List.mem_of_getElem? (i := 31) (by decide +kernel), List.mem_of_getElem? (i := 595) (by decide +kernel), List.mem_of_getElem? (i := 596) (by decide +kernel), by decide +kernel, by decide +kernel, by decide +kernel⟩
theorem mX0_clear : MV yX0_clear cX0_clear 1 (none) 0 := ⟨List.mem_of_getElem? (i := 601) (by decide +kernel), List.mem_of_getElem? (i := 72) (by decide +kernel), List.mem_of_getElem? (i := 599) (by decide +kernel), List.mem_of_getElem? (i := 600) (by decide +kernel), by decide +kernel, by decide +kernel, by decide +kernel⟩
theorem mX0_add : MV yX0_add cX0_add 2 (none) 1 := ⟨List.mem_of_getElem? (i := 607) (by decide +kernel), List.mem_of_getElem? (i := 72) (by decide +kernel), List.mem_of_getElem? (i := 605) (by decide +kernel), List.mem_of_getElem? (i := 606) (by decide +kernel), by decide +kernel, by decide +kernel, by decide +kernel⟩
theorem mX0_put : MV yX0_put cX0_put 4 (none) 3 := ⟨List.mem_of_getElem? (i := 611) (by decide +kernel), List.mem_of_getElem? (i := 72) (by decide +kernel), List.mem_of_getElem? (i := 609) (by decide +kernel), List.mem_of_getElem? (i := 610) (by decide +kernel), by decide +kernel, by decide +kernel, by decide +kernel⟩
theorem mX0_length : MV yX0_length cX0_length 1 ((some .int)) 0 := ⟨List.mem_of_getElem? (i := 615) (by decide +kernel), List.mem_of_getElem? (i := 72) (by decide +kernel), List.mem_of_getElem? (i := 613) (by decide +kernel), List.mem_of_getElem? (i := 614) (by decide +kernel), by decide +kernel, by decide +kernel, by decide +kernel⟩
theorem mX2_firstPlace : MV yX2_firstPlace cX2_firstPlace 3 ((some .int)) 1 := ⟨List.mem_of_getElem? (i := 619) (by decide +kernel), List.mem_of_getElem? (i := 31) (by decide +kernel), List.mem_of_getElem? (i := 617) (by decide +kernel), List.mem_of_getElem? (i := 618) (by decide +kernel), by decide +kernel, by decide +kernel, by decide +kernel⟩
theorem mX2_ruleAt : MV yX2_ruleAt cX2_ruleAt 5 ((some .int)) 2 := ⟨List.mem_of_getElem? (i := 623) (by decide +kernel), List.mem_of_getElem? (i := 31) (by decide +kernel), List.mem_of_getElem? (i := 621) (by decide +kernel), List.mem_of_getElem? (i := 622) (by decide +kernel), by decide +kernel, by decide +kernel, by decide +kernel⟩
theorem mX0_token : MV yX0_token cX0_token 2 ((some .int)) 1 := ⟨List.mem_of_getElem? (i := 627) (by decide +kernel), List.mem_of_getElem? (i := 72) (by decide +kernel), List.mem_of_getElem? (i := 625) (by decide +kernel), List.mem_of_getElem? (i := 626) (by decide +kernel), by decide +kernel, by decide +kernel, by decide +kernel⟩
theorem mX2_rewrite : MV yX2_rewrite cX2_rewrite 4 (none) 2 := ⟨List.mem_of_getElem? (i := 631) (by decide +kernel), List.mem_of_getElem? (i := 31) (by decide +kernel), List.mem_of_getElem? (i := 629) (by decide +kernel), List.mem_of_getElem? (i := 630) (by decide +kernel), by decide +kernel, by decide +kernel, by decide +kernel⟩
theorem mX0_addRange : MV yX0_addRange cX0_addRange 5 (none) 3 := ⟨List.mem_of_getElem? (i := 635) (by decide +kernel), List.mem_of_getElem? (i := 72) (by decide +kernel), List.mem_of_getElem? (i := 633) (by decide +kernel), List.mem_of_getElem? (i := 634) (by decide +kernel), by decide +kernel, by decide +kernel, by decide +kernel⟩
theorem mX2_writeBeta : MV yX2_writeBeta cX2_writeBeta 2 (none) 1 := ⟨List.mem_of_getElem? (i := 640) (by decide +kernel), List.mem_of_getElem? (i := 31) (by decide +kernel), List.mem_of_getElem? (i := 638) (by decide +kernel), List.mem_of_getElem? (i := 639) (by decide +kernel), by decide +kernel, by decide +kernel, by decide +kernel⟩
theorem mX0_addClosure : MV yX0_addClosure cX0_addClosure 3 (none) 2 := ⟨List.mem_of_getElem? (i := 644) (by decide +kernel), List.mem_of_getElem? (i := 72) (by decide +kernel), List.mem_of_getElem? (i := 642) (by decide +kernel), List.mem_of_getElem? (i := 643) (by decide +kernel), by decide +kernel, by decide +kernel, by decide +kernel⟩
theorem mX0_behind : MV yX0_behind cX0_behind 5 ((some .int)) 2 := ⟨List.mem_of_getElem? (i := 648) (by decide +kernel), List.mem_of_getElem? (i := 72) (by decide +kernel), List.mem_of_getElem? (i := 646) (by decide +kernel), List.mem_of_getElem? (i := 647) (by decide +kernel), by decide +kernel, by decide +kernel, by decide +kernel⟩
theorem mX0_entriesAt : MV yX0_entriesAt cX0_entriesAt 2 ((some .int)) 1 := ⟨List.mem_of_getElem? (i := 653) (by decide +kernel), List.mem_of_getElem? (i := 72) (by decide +kernel), List.mem_of_getElem? (i := 651) (by decide +kernel), List.mem_of_getElem? (i := 652) (by decide +kernel), by decide +kernel, by decide +kernel, by decide +kernel⟩
theorem mX2_writeApply : MV yX2_writeApply cX2_writeApply 7 (none) 1 := ⟨List.mem_of_getElem? (i := 657) (by decide +kernel), List.mem_of_getElem? (i := 31) (by decide +kernel), List.mem_of_getElem? (i := 655) (by decide +kernel), List.mem_of_getElem? (i := 656) (by decide +kernel), by decide +kernel, by decide +kernel, by decide +kernel⟩
theorem mX0_shiftAt : MV yX0_shiftAt cX0_shiftAt 2 ((some .int)) 1 := ⟨List.mem_of_getElem? (i := 662) (by decide +kernel), List.mem_of_getElem? (i := 72) (by decide +kernel), List.mem_of_getElem? (i := 660) (by decide +kernel), List.mem_of_getElem? (i := 661) (by decide +kernel), by decide +kernel, by decide +kernel, by decide +kernel⟩
theorem mX2_writeAbstract : MV yX2_writeAbstract cX2_writeAbstract 6 (none) 1 := ⟨List.mem_of_getElem? (i := 666) (by decide +kernel), List.mem_of_getElem? (i := 31) (by decide +kernel), List.mem_of_getElem? (i := 664) (by decide +kernel), List.mem_of_getElem? (i := 665) (by decide +kernel), by decide +kernel, by decide +kernel, by decide +kernel⟩
theorem mX0_isTooLarge : MV yX0_isTooLarge cX0_isTooLarge 1 ((some .boolean)) 0 := ⟨List.mem_of_getElem? (i := 670) (by decide +kernel), List.mem_of_getElem? (i := 72) (by decide +kernel), List.mem_of_getElem? (i := 668) (by decide +kernel), List.mem_of_getElem? (i := 669) (by decide +kernel), by decide +kernel, by decide +kernel, by decide +kernel⟩
theorem mX2_writeLookup : MV yX2_writeLookup cX2_writeLookup 5 (none) 1 := ⟨List.mem_of_getElem? (i := 674) (by decide +kernel), List.mem_of_getElem? (i := 31) (by decide +kernel), List.mem_of_getElem? (i := 672) (by decide +kernel), List.mem_of_getElem? (i := 673) (by decide +kernel), by decide +kernel, by decide +kernel, by decide +kernel⟩
theorem mX2_writeMerge : MV yX2_writeMerge cX2_writeMerge 12 (none) 1 := ⟨List.mem_of_getElem? (i := 678) (by decide +kernel), List.mem_of_getElem? (i := 31) (by decide +kernel), List.mem_of_getElem? (i := 676) (by decide +kernel), List.mem_of_getElem? (i := 677) (by decide +kernel), by decide +kernel, by decide +kernel, by decide +kernel⟩
theorem mX2_applications : MV yX2_applications cX2_applications 2 ((some .int)) 1 := ⟨List.mem_of_getElem? (i := 683) (by decide +kernel), List.mem_of_getElem? (i := 31) (by decide +kernel), List.mem_of_getElem? (i := 681) (by decide +kernel), List.mem_of_getElem? (i := 682) (by decide +kernel), by decide +kernel, by decide +kernel, by decide +kernel⟩
theorem mX9_machineSteps : MV yX9_machineSteps cX9_machineSteps 3 ((some .int)) 2 := ⟨List.mem_of_getElem? (i := 687) (by decide +kernel), List.mem_of_getElem? (i := 5) (by decide +kernel), List.mem_of_getElem? (i := 685) (by decide +kernel), List.mem_of_getElem? (i := 686) (by decide +kernel), by decide +kernel, by decide +kernel, by decide +kernel⟩
theorem mX9_machine : MV yX9_machine cX9_machine 6 ((some .boolean)) 1 := ⟨List.mem_of_getElem? (i := 692) (by decide +kernel), List.mem_of_getElem? (i := 5) (by decide +kernel), List.mem_of_getElem? (i := 690) (by decide +kernel), List.mem_of_getElem? (i := 691) (by decide +kernel), by decide +kernel, by decide +kernel, by decide +kernel⟩
theorem mX9_ruleAt : MV yX9_ruleAt cX9_ruleAt 4 ((some .int)) 2 := ⟨List.mem_of_getElem? (i := 698) (by decide +kernel), List.mem_of_getElem? (i := 5) (by decide +kernel), List.mem_of_getElem? (i := 696) (by decide +kernel), List.mem_of_getElem? (i := 697) (by decide +kernel), by decide +kernel, by decide +kernel, by decide +kernel⟩
theorem mX9_apply : MV yX9_apply cX9_apply 12 (none) 2 := ⟨List.mem_of_getElem? (i := 702) (by decide +kernel), List.mem_of_getElem? (i := 5) (by decide +kernel), List.mem_of_getElem? (i := 700) (by decide +kernel), List.mem_of_getElem? (i := 701) (by decide +kernel), by decide +kernel, by decide +kernel, by decide +kernel⟩
theorem mX9_addPart : MV yX9_addPart cX9_addPart 4 (none) 2 := ⟨List.mem_of_getElem? (i := 708) (by decide +kernel), List.mem_of_getElem? (i := 5) (by decide +kernel), List.mem_of_getElem? (i := 706) (by decide +kernel), List.mem_of_getElem? (i := 707) (by decide +kernel), by decide +kernel, by decide +kernel, by decide +kernel⟩
theorem mX9_add : MV yX9_add cX9_add 2 (none) 1 := ⟨List.mem_of_getElem? (i := 712) (by decide +kernel), List.mem_of_getElem? (i := 5) (by decide +kernel), List.mem_of_getElem? (i := 710) (by decide +kernel), List.mem_of_getElem? (i := 711) (by decide +kernel), by decide +kernel, by decide +kernel, by decide +kernel⟩
theorem mX9_merge : MV yX9_merge cX9_merge 13 (none) 4 := ⟨List.mem_of_getElem? (i := 716) (by decide +kernel), List.mem_of_getElem? (i := 5) (by decide +kernel), List.mem_of_getElem? (i := 714) (by decide +kernel), List.mem_of_getElem? (i := 715) (by decide +kernel), by decide +kernel, by decide +kernel, by decide +kernel⟩
theorem mX8_machinePeak : MV yX8_machinePeak cX8_machinePeak 2 ((some .int)) 1 := ⟨List.mem_of_getElem? (i := 720) (by decide +kernel), List.mem_of_getElem? (i := 2) (by decide +kernel), List.mem_of_getElem? (i := 718) (by decide +kernel), List.mem_of_getElem? (i := 719) (by decide +kernel), by decide +kernel, by decide +kernel, by decide +kernel⟩
theorem mX2_peak : MV yX2_peak cX2_peak 1 ((some .int)) 0 := ⟨List.mem_of_getElem? (i := 724) (by decide +kernel), List.mem_of_getElem? (i := 31) (by decide +kernel), List.mem_of_getElem? (i := 722) (by decide +kernel), List.mem_of_getElem? (i := 723) (by decide +kernel), by decide +kernel, by decide +kernel, by decide +kernel⟩
theorem mX9_machinePeak : MV yX9_machinePeak cX9_machinePeak 2 ((some .int)) 1 := ⟨List.mem_of_getElem? (i := 728) (by decide +kernel), List.mem_of_getElem? (i := 5) (by decide +kernel), List.mem_of_getElem? (i := 726) (by decide +kernel), List.mem_of_getElem? (i := 727) (by decide +kernel), by decide +kernel, by decide +kernel, by decide +kernel⟩
theorem mX8_runScript : MV yX8_runScript cX8_runScript 6 ((some .int)) 2 := ⟨List.mem_of_getElem? (i := 732) (by decide +kernel), List.mem_of_getElem? (i := 2) (by decide +kernel), List.mem_of_getElem? (i := 730) (by decide +kernel), List.mem_of_getElem? (i := 731) (by decide +kernel), by decide +kernel, by decide +kernel, by decide +kernel⟩
theorem mX8_withoutLowGroups : MS yX8_withoutLowGroups cX8_withoutLowGroups 6 ((some .long)) 2 := ⟨List.mem_of_getElem? (i := 736) (by decide +kernel), List.mem_of_getElem? (i := 2) (by decide +kernel), List.mem_of_getElem? (i := 735) (by decide +kernel), by decide +kernel, by decide +kernel, by decide +kernel⟩
theorem mX8_commandSucceeds : MV yX8_commandSucceeds cX8_commandSucceeds 4 ((some .boolean)) 1 := ⟨List.mem_of_getElem? (i := 740) (by decide +kernel), List.mem_of_getElem? (i := 2) (by decide +kernel), List.mem_of_getElem? (i := 738) (by decide +kernel), List.mem_of_getElem? (i := 739) (by decide +kernel), by decide +kernel, by decide +kernel, by decide +kernel⟩
theorem mX9_runScript : MV yX9_runScript cX9_runScript 6 ((some .int)) 2 := ⟨List.mem_of_getElem? (i := 744) (by decide +kernel), List.mem_of_getElem? (i := 5) (by decide +kernel), List.mem_of_getElem? (i := 742) (by decide +kernel), List.mem_of_getElem? (i := 743) (by decide +kernel), by decide +kernel, by decide +kernel, by decide +kernel⟩
theorem mX9_thousands : MS yX9_thousands cX9_thousands 4 ((some .long)) 1 := ⟨List.mem_of_getElem? (i := 748) (by decide +kernel), List.mem_of_getElem? (i := 5) (by decide +kernel), List.mem_of_getElem? (i := 747) (by decide +kernel), by decide +kernel, by decide +kernel, by decide +kernel⟩
theorem mX9_command : MV yX9_command cX9_command 8 ((some .boolean)) 3 := ⟨List.mem_of_getElem? (i := 752) (by decide +kernel), List.mem_of_getElem? (i := 5) (by decide +kernel), List.mem_of_getElem? (i := 750) (by decide +kernel), List.mem_of_getElem? (i := 751) (by decide +kernel), by decide +kernel, by decide +kernel, by decide +kernel⟩
theorem mX8_observe : MV yX8_observe cX8_observe 3 ((some .int)) 2 := ⟨List.mem_of_getElem? (i := 756) (by decide +kernel), List.mem_of_getElem? (i := 2) (by decide +kernel), List.mem_of_getElem? (i := 754) (by decide +kernel), List.mem_of_getElem? (i := 755) (by decide +kernel), by decide +kernel, by decide +kernel, by decide +kernel⟩
theorem mX3_add : MV yX3_add cX3_add 3 (none) 2 := ⟨List.mem_of_getElem? (i := 760) (by decide +kernel), List.mem_of_getElem? (i := 43) (by decide +kernel), List.mem_of_getElem? (i := 758) (by decide +kernel), List.mem_of_getElem? (i := 759) (by decide +kernel), by decide +kernel, by decide +kernel, by decide +kernel⟩
theorem mX3_dropOldest : MV yX3_dropOldest cX3_dropOldest 2 (none) 0 := ⟨List.mem_of_getElem? (i := 764) (by decide +kernel), List.mem_of_getElem? (i := 43) (by decide +kernel), List.mem_of_getElem? (i := 762) (by decide +kernel), List.mem_of_getElem? (i := 763) (by decide +kernel), by decide +kernel, by decide +kernel, by decide +kernel⟩
theorem mX3_count : MV yX3_count cX3_count 1 ((some .int)) 0 := ⟨List.mem_of_getElem? (i := 768) (by decide +kernel), List.mem_of_getElem? (i := 43) (by decide +kernel), List.mem_of_getElem? (i := 766) (by decide +kernel), List.mem_of_getElem? (i := 767) (by decide +kernel), by decide +kernel, by decide +kernel, by decide +kernel⟩
theorem mX9_observe : MV yX9_observe cX9_observe 4 ((some .int)) 2 := ⟨List.mem_of_getElem? (i := 772) (by decide +kernel), List.mem_of_getElem? (i := 5) (by decide +kernel), List.mem_of_getElem? (i := 770) (by decide +kernel), List.mem_of_getElem? (i := 771) (by decide +kernel), by decide +kernel, by decide +kernel, by decide +kernel⟩
theorem mX8_forgetAfter : MV yX8_forgetAfter cX8_forgetAfter 2 ((some .int)) 1 := ⟨List.mem_of_getElem? (i := 777) (by decide +kernel), List.mem_of_getElem? (i := 2) (by decide +kernel), List.mem_of_getElem? (i := 775) (by decide +kernel), List.mem_of_getElem? (i := 776) (by decide +kernel), by decide +kernel, by decide +kernel, by decide +kernel⟩
theorem mX3_keepUpTo : MV yX3_keepUpTo cX3_keepUpTo 4 (none) 1 := ⟨List.mem_of_getElem? (i := 781) (by decide +kernel), List.mem_of_getElem? (i := 43) (by decide +kernel), List.mem_of_getElem? (i := 779) (by decide +kernel), List.mem_of_getElem? (i := 780) (by decide +kernel), by decide +kernel, by decide +kernel, by decide +kernel⟩
theorem mX9_forgetAfter : MV yX9_forgetAfter cX9_forgetAfter 4 ((some .int)) 1 := ⟨List.mem_of_getElem? (i := 785) (by decide +kernel), List.mem_of_getElem? (i := 5) (by decide +kernel), List.mem_of_getElem? (i := 783) (by decide +kernel), List.mem_of_getElem? (i := 784) (by decide +kernel), by decide +kernel, by decide +kernel, by decide +kernel⟩
theorem mX8_possibleStrategies : MV yX8_possibleStrategies cX8_possibleStrategies 3 ((some .int)) 0 := ⟨List.mem_of_getElem? (i := 789) (by decide +kernel), List.mem_of_getElem? (i := 2) (by decide +kernel), List.mem_of_getElem? (i := 787) (by decide +kernel), List.mem_of_getElem? (i := 788) (by decide +kernel), by decide +kernel, by decide +kernel, by decide +kernel⟩
theorem mX8_observationsHold : MV yX8_observationsHold cX8_observationsHold 4 ((some .boolean)) 1 := ⟨List.mem_of_getElem? (i := 793) (by decide +kernel), List.mem_of_getElem? (i := 2) (by decide +kernel), List.mem_of_getElem? (i := 791) (by decide +kernel), List.mem_of_getElem? (i := 792) (by decide +kernel), by decide +kernel, by decide +kernel, by decide +kernel⟩
theorem mX3_greatestLimit : MV yX3_greatestLimit cX3_greatestLimit 3 ((some .int)) 0 := ⟨List.mem_of_getElem? (i := 798) (by decide +kernel), List.mem_of_getElem? (i := 43) (by decide +kernel), List.mem_of_getElem? (i := 796) (by decide +kernel), List.mem_of_getElem? (i := 797) (by decide +kernel), by decide +kernel, by decide +kernel, by decide +kernel⟩
theorem mX3_allow : MV yX3_allow cX3_allow 4 ((some .boolean)) 2 := ⟨List.mem_of_getElem? (i := 803) (by decide +kernel), List.mem_of_getElem? (i := 43) (by decide +kernel), List.mem_of_getElem? (i := 801) (by decide +kernel), List.mem_of_getElem? (i := 802) (by decide +kernel), by decide +kernel, by decide +kernel, by decide +kernel⟩
theorem mX9_possibleStrategies : MV yX9_possibleStrategies cX9_possibleStrategies 5 ((some .int)) 0 := ⟨List.mem_of_getElem? (i := 807) (by decide +kernel), List.mem_of_getElem? (i := 5) (by decide +kernel), List.mem_of_getElem? (i := 805) (by decide +kernel), List.mem_of_getElem? (i := 806) (by decide +kernel), by decide +kernel, by decide +kernel, by decide +kernel⟩
theorem mX8_setSeed : MV yX8_setSeed cX8_setSeed 5 ((some .long)) 1 := ⟨List.mem_of_getElem? (i := 811) (by decide +kernel), List.mem_of_getElem? (i := 2) (by decide +kernel), List.mem_of_getElem? (i := 809) (by decide +kernel), List.mem_of_getElem? (i := 810) (by decide +kernel), by decide +kernel, by decide +kernel, by decide +kernel⟩
theorem mX9_setSeed : MV yX9_setSeed cX9_setSeed 5 ((some .long)) 1 := ⟨List.mem_of_getElem? (i := 815) (by decide +kernel), List.mem_of_getElem? (i := 5) (by decide +kernel), List.mem_of_getElem? (i := 813) (by decide +kernel), List.mem_of_getElem? (i := 814) (by decide +kernel), by decide +kernel, by decide +kernel, by decide +kernel⟩
theorem mX8_randomReduction : MV yX8_randomReduction cX8_randomReduction 4 ((some .int)) 1 := ⟨List.mem_of_getElem? (i := 820) (by decide +kernel), List.mem_of_getElem? (i := 2) (by decide +kernel), List.mem_of_getElem? (i := 818) (by decide +kernel), List.mem_of_getElem? (i := 819) (by decide +kernel), by decide +kernel, by decide +kernel, by decide +kernel⟩
theorem mX8_randomStepOnCopy : MV yX8_randomStepOnCopy cX8_randomStepOnCopy 3 (none) 0 := ⟨List.mem_of_getElem? (i := 824) (by decide +kernel), List.mem_of_getElem? (i := 2) (by decide +kernel), List.mem_of_getElem? (i := 822) (by decide +kernel), List.mem_of_getElem? (i := 823) (by decide +kernel), by decide +kernel, by decide +kernel, by decide +kernel⟩
theorem mX5_numberedRedex : MS yX5_numberedRedex cX5_numberedRedex 4 ((some .int)) 2 := ⟨List.mem_of_getElem? (i := 829) (by decide +kernel), List.mem_of_getElem? (i := 27) (by decide +kernel), List.mem_of_getElem? (i := 828) (by decide +kernel), by decide +kernel, by decide +kernel, by decide +kernel⟩
theorem mX9_randomReduction : MV yX9_randomReduction cX9_randomReduction 6 ((some .int)) 1 := ⟨List.mem_of_getElem? (i := 833) (by decide +kernel), List.mem_of_getElem? (i := 5) (by decide +kernel), List.mem_of_getElem? (i := 831) (by decide +kernel), List.mem_of_getElem? (i := 832) (by decide +kernel), by decide +kernel, by decide +kernel, by decide +kernel⟩
theorem mX9_redexNumber : MS yX9_redexNumber cX9_redexNumber 4 ((some .int)) 2 := ⟨List.mem_of_getElem? (i := 839) (by decide +kernel), List.mem_of_getElem? (i := 5) (by decide +kernel), List.mem_of_getElem? (i := 838) (by decide +kernel), by decide +kernel, by decide +kernel, by decide +kernel⟩
theorem mX8_save : MV yX8_save cX8_save 2 ((some .int)) 1 := ⟨List.mem_of_getElem? (i := 843) (by decide +kernel), List.mem_of_getElem? (i := 2) (by decide +kernel), List.mem_of_getElem? (i := 841) (by decide +kernel), List.mem_of_getElem? (i := 842) (by decide +kernel), by decide +kernel, by decide +kernel, by decide +kernel⟩
theorem mX9_save : MV yX9_save cX9_save 3 ((some .int)) 1 := ⟨List.mem_of_getElem? (i := 847) (by decide +kernel), List.mem_of_getElem? (i := 5) (by decide +kernel), List.mem_of_getElem? (i := 845) (by decide +kernel), List.mem_of_getElem? (i := 846) (by decide +kernel), by decide +kernel, by decide +kernel, by decide +kernel⟩
theorem mX8_restore : MV yX8_restore cX8_restore 3 ((some .int)) 1 := ⟨List.mem_of_getElem? (i := 851) (by decide +kernel), List.mem_of_getElem? (i := 2) (by decide +kernel), List.mem_of_getElem? (i := 849) (by decide +kernel), List.mem_of_getElem? (i := 850) (by decide +kernel), by decide +kernel, by decide +kernel, by decide +kernel⟩
theorem mX9_restore : MV yX9_restore cX9_restore 2 ((some .int)) 1 := ⟨List.mem_of_getElem? (i := 855) (by decide +kernel), List.mem_of_getElem? (i := 5) (by decide +kernel), List.mem_of_getElem? (i := 853) (by decide +kernel), List.mem_of_getElem? (i := 854) (by decide +kernel), by decide +kernel, by decide +kernel, by decide +kernel⟩
theorem q_min1 : Cond.static Lib.Math.min.name ∈ wsL_law := List.mem_of_getElem? (i := 250) (by decide +kernel)
theorem q_max1 : Cond.static Lib.Math.max.name ∈ wsL_law := List.mem_of_getElem? (i := 592) (by decide +kernel)
theorem q_min2 : Cond.code Lib.Math.min.name Lib.Math.min.code 2 (some .int) ∈ wsL_law := List.mem_of_getElem? (i := 252) (by decide +kernel)
theorem q_max2 : Cond.code Lib.Math.max.name Lib.Math.max.code 2 (some .int) ∈ wsL_law := List.mem_of_getElem? (i := 593) (by decide +kernel)
theorem q_math1 : Cond.initialized "java/lang/Math" ∈ wsL_law := List.mem_of_getElem? (i := 251) (by decide +kernel)
theorem q_cp1 : Cond.native arraycopyName ∈ wsL_law := List.mem_of_getElem? (i := 364) (by decide +kernel)
theorem q_cp2 : Cond.static arraycopyName ∈ wsL_law := List.mem_of_getElem? (i := 365) (by decide +kernel)
theorem q_cp3 : Cond.initialized "java/lang/System" ∈ wsL_law := List.mem_of_getElem? (i := 366) (by decide +kernel)
end
