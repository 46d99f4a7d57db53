section
-- ===== PART A: goes FIRST, ahead of the names: the tables' words, and 'selects' of the private methods out of them =====
/-- a private method of a class that the tables say can be made, by its rows of tables_1 -/
def lw_okq (q : MethodName × Nat) : Prop := (q.1.cls ≠ "java/lang/invoke/MethodHandle" ∧ q.1.cls ≠ "java/lang/invoke/VarHandle") ∧ Cond.instantiable q.1.cls q.2 ∈ tables_1 ∧ Cond.privateMethod q.1 ∈ tables_1 ∧ Cond.instanceMethod q.1 ∈ tables_1
theorem lw_p0 : lw_okq (⟨"CoffinWays", "found", "(I)I"⟩, 13) := ⟨⟨by decide +kernel, by decide +kernel⟩, List.mem_of_getElem? (i := 18) (by decide +kernel), List.mem_of_getElem? (i := 320) (by decide +kernel), List.mem_of_getElem? (i := 321) (by decide +kernel)⟩
theorem lw_p1 : lw_okq (⟨"CoffinWays", "unfound", "(I)I"⟩, 13) := ⟨⟨by decide +kernel, by decide +kernel⟩, List.mem_of_getElem? (i := 18) (by decide +kernel), List.mem_of_getElem? (i := 329) (by decide +kernel), List.mem_of_getElem? (i := 330) (by decide +kernel)⟩
theorem lw_p2 : lw_okq (⟨"CoffinWays$Tape", "take", "()V"⟩, 8) := ⟨⟨by decide +kernel, by decide +kernel⟩, List.mem_of_getElem? (i := 48) (by decide +kernel), List.mem_of_getElem? (i := 387) (by decide +kernel), List.mem_of_getElem? (i := 388) (by decide +kernel)⟩
theorem lw_p3 : lw_okq (⟨"CoffinWays$Tape", "takeNumber", "()V"⟩, 8) := ⟨⟨by decide +kernel, by decide +kernel⟩, List.mem_of_getElem? (i := 48) (by decide +kernel), List.mem_of_getElem? (i := 394) (by decide +kernel), List.mem_of_getElem? (i := 395) (by decide +kernel)⟩
theorem lw_p4 : lw_okq (⟨"CoffinWays$Tape", "readLaw", "(LCoffinWays$Parish;)Z"⟩, 8) := ⟨⟨by decide +kernel, by decide +kernel⟩, List.mem_of_getElem? (i := 48) (by decide +kernel), List.mem_of_getElem? (i := 398) (by decide +kernel), List.mem_of_getElem? (i := 399) (by decide +kernel)⟩
theorem lw_p5 : lw_okq (⟨"CoffinWays$Tape", "takes", "(I)Z"⟩, 8) := ⟨⟨by decide +kernel, by decide +kernel⟩, List.mem_of_getElem? (i := 48) (by decide +kernel), List.mem_of_getElem? (i := 402) (by decide +kernel), List.mem_of_getElem? (i := 403) (by decide +kernel)⟩
theorem lw_p6 : lw_okq (⟨"CoffinWays$Tape", "fails", "(I)Z"⟩, 8) := ⟨⟨by decide +kernel, by decide +kernel⟩, List.mem_of_getElem? (i := 48) (by decide +kernel), List.mem_of_getElem? (i := 406) (by decide +kernel), List.mem_of_getElem? (i := 407) (by decide +kernel)⟩
theorem lw_p7 : lw_okq (⟨"CoffinWays$Tape", "isNumber", "(II)Z"⟩, 8) := ⟨⟨by decide +kernel, by decide +kernel⟩, List.mem_of_getElem? (i := 48) (by decide +kernel), List.mem_of_getElem? (i := 410) (by decide +kernel), List.mem_of_getElem? (i := 411) (by decide +kernel)⟩
theorem lw_p8 : lw_okq (⟨"CoffinWays$Tape", "readPath", "(LCoffinWays$Parish;)Z"⟩, 8) := ⟨⟨by decide +kernel, by decide +kernel⟩, List.mem_of_getElem? (i := 48) (by decide +kernel), List.mem_of_getElem? (i := 414) (by decide +kernel), List.mem_of_getElem? (i := 415) (by decide +kernel)⟩
theorem lw_p9 : lw_okq (⟨"CoffinWays$Tape", "readWitness", "(LCoffinWays$Parish;)Z"⟩, 8) := ⟨⟨by decide +kernel, by decide +kernel⟩, List.mem_of_getElem? (i := 48) (by decide +kernel), List.mem_of_getElem? (i := 433) (by decide +kernel), List.mem_of_getElem? (i := 434) (by decide +kernel)⟩
theorem lw_p10 : lw_okq (⟨"CoffinWays", "forgetActs", "()V"⟩, 13) := ⟨⟨by decide +kernel, by decide +kernel⟩, List.mem_of_getElem? (i := 18) (by decide +kernel), List.mem_of_getElem? (i := 447) (by decide +kernel), List.mem_of_getElem? (i := 448) (by decide +kernel)⟩
theorem lw_p11 : lw_okq (⟨"CoffinWays$Coffin", "measure", "(LCoffinWays$Parish;I)V"⟩, 8) := ⟨⟨by decide +kernel, by decide +kernel⟩, List.mem_of_getElem? (i := 205) (by decide +kernel), List.mem_of_getElem? (i := 487) (by decide +kernel), List.mem_of_getElem? (i := 488) (by decide +kernel)⟩
theorem lw_p12 : lw_okq (⟨"CoffinWays$Coffin", "shorten", "(III)Z"⟩, 8) := ⟨⟨by decide +kernel, by decide +kernel⟩, List.mem_of_getElem? (i := 205) (by decide +kernel), List.mem_of_getElem? (i := 494) (by decide +kernel), List.mem_of_getElem? (i := 495) (by decide +kernel)⟩
theorem lw_p13 : lw_okq (⟨"CoffinWays$Coffin", "nextField", "(LCoffinWays$Parish;II)I"⟩, 8) := ⟨⟨by decide +kernel, by decide +kernel⟩, List.mem_of_getElem? (i := 205) (by decide +kernel), List.mem_of_getElem? (i := 498) (by decide +kernel), List.mem_of_getElem? (i := 499) (by decide +kernel)⟩
theorem lw_p14 : lw_okq (⟨"CoffinWays", "keepAct", "()V"⟩, 13) := ⟨⟨by decide +kernel, by decide +kernel⟩, List.mem_of_getElem? (i := 18) (by decide +kernel), List.mem_of_getElem? (i := 503) (by decide +kernel), List.mem_of_getElem? (i := 504) (by decide +kernel)⟩
theorem lw_p15 : lw_okq (⟨"CoffinWays", "newWays", "(I)I"⟩, 13) := ⟨⟨by decide +kernel, by decide +kernel⟩, List.mem_of_getElem? (i := 18) (by decide +kernel), List.mem_of_getElem? (i := 686) (by decide +kernel), List.mem_of_getElem? (i := 687) (by decide +kernel)⟩
def lw_privs_1 : List (MethodName × Nat) := [(⟨"CoffinWays", "found", "(I)I"⟩, 13), (⟨"CoffinWays", "unfound", "(I)I"⟩, 13), (⟨"CoffinWays$Tape", "take", "()V"⟩, 8), (⟨"CoffinWays$Tape", "takeNumber", "()V"⟩, 8), (⟨"CoffinWays$Tape", "readLaw", "(LCoffinWays$Parish;)Z"⟩, 8), (⟨"CoffinWays$Tape", "takes", "(I)Z"⟩, 8), (⟨"CoffinWays$Tape", "fails", "(I)Z"⟩, 8), (⟨"CoffinWays$Tape", "isNumber", "(II)Z"⟩, 8), (⟨"CoffinWays$Tape", "readPath", "(LCoffinWays$Parish;)Z"⟩, 8), (⟨"CoffinWays$Tape", "readWitness", "(LCoffinWays$Parish;)Z"⟩, 8), (⟨"CoffinWays", "forgetActs", "()V"⟩, 13), (⟨"CoffinWays$Coffin", "measure", "(LCoffinWays$Parish;I)V"⟩, 8), (⟨"CoffinWays$Coffin", "shorten", "(III)Z"⟩, 8), (⟨"CoffinWays$Coffin", "nextField", "(LCoffinWays$Parish;II)I"⟩, 8), (⟨"CoffinWays", "keepAct", "()V"⟩, 13), (⟨"CoffinWays", "newWays", "(I)I"⟩, 13)]
theorem lw_r1 : ∀ q ∈ lw_privs_1, lw_okq q := List.forall_mem_cons.mpr ⟨lw_p0, List.forall_mem_cons.mpr ⟨lw_p1, List.forall_mem_cons.mpr ⟨lw_p2, List.forall_mem_cons.mpr ⟨lw_p3, List.forall_mem_cons.mpr ⟨lw_p4, List.forall_mem_cons.mpr ⟨lw_p5, List.forall_mem_cons.mpr ⟨lw_p6, List.forall_mem_cons.mpr ⟨lw_p7, List.forall_mem_cons.mpr ⟨lw_p8, List.forall_mem_cons.mpr ⟨lw_p9, List.forall_mem_cons.mpr ⟨lw_p10, List.forall_mem_cons.mpr ⟨lw_p11, List.forall_mem_cons.mpr ⟨lw_p12, List.forall_mem_cons.mpr ⟨lw_p13, List.forall_mem_cons.mpr ⟨lw_p14, List.forall_mem_cons.mpr ⟨lw_p15, fun _ h => absurd h List.not_mem_nil⟩⟩⟩⟩⟩⟩⟩⟩⟩⟩⟩⟩⟩⟩⟩⟩
theorem lw_p16 : lw_okq (⟨"CoffinWays", "fittingKinds", "(I[III)I"⟩, 13) := ⟨⟨by decide +kernel, by decide +kernel⟩, List.mem_of_getElem? (i := 18) (by decide +kernel), List.mem_of_getElem? (i := 706) (by decide +kernel), List.mem_of_getElem? (i := 707) (by decide +kernel)⟩
theorem lw_p17 : lw_okq (⟨"CoffinWays$Coffin", "countWithin", "(LCoffinWays$Parish;)V"⟩, 8) := ⟨⟨by decide +kernel, by decide +kernel⟩, List.mem_of_getElem? (i := 205) (by decide +kernel), List.mem_of_getElem? (i := 730) (by decide +kernel), List.mem_of_getElem? (i := 731) (by decide +kernel)⟩
theorem lw_p18 : lw_okq (⟨"CoffinWays$Coffin", "fillPowers", "(I)V"⟩, 8) := ⟨⟨by decide +kernel, by decide +kernel⟩, List.mem_of_getElem? (i := 205) (by decide +kernel), List.mem_of_getElem? (i := 734) (by decide +kernel), List.mem_of_getElem? (i := 735) (by decide +kernel)⟩
theorem lw_p19 : lw_okq (⟨"CoffinWays$Coffin", "casesJoined", "(II)J"⟩, 8) := ⟨⟨by decide +kernel, by decide +kernel⟩, List.mem_of_getElem? (i := 205) (by decide +kernel), List.mem_of_getElem? (i := 738) (by decide +kernel), List.mem_of_getElem? (i := 739) (by decide +kernel)⟩
theorem lw_p20 : lw_okq (⟨"CoffinWays$Coffin", "casesParted", "(II)J"⟩, 8) := ⟨⟨by decide +kernel, by decide +kernel⟩, List.mem_of_getElem? (i := 205) (by decide +kernel), List.mem_of_getElem? (i := 742) (by decide +kernel), List.mem_of_getElem? (i := 743) (by decide +kernel)⟩
theorem lw_p21 : lw_okq (⟨"CoffinWaysModel", "finding", "(I)I"⟩, 27) := ⟨⟨by decide +kernel, by decide +kernel⟩, List.mem_of_getElem? (i := 848) (by decide +kernel), List.mem_of_getElem? (i := 950) (by decide +kernel), List.mem_of_getElem? (i := 951) (by decide +kernel)⟩
theorem lw_p22 : lw_okq (⟨"CoffinWaysModel", "begin", "()V"⟩, 27) := ⟨⟨by decide +kernel, by decide +kernel⟩, List.mem_of_getElem? (i := 848) (by decide +kernel), List.mem_of_getElem? (i := 981) (by decide +kernel), List.mem_of_getElem? (i := 982) (by decide +kernel)⟩
theorem lw_p23 : lw_okq (⟨"CoffinWaysModel", "nextToken", "()V"⟩, 27) := ⟨⟨by decide +kernel, by decide +kernel⟩, List.mem_of_getElem? (i := 848) (by decide +kernel), List.mem_of_getElem? (i := 985) (by decide +kernel), List.mem_of_getElem? (i := 986) (by decide +kernel)⟩
theorem lw_p24 : lw_okq (⟨"CoffinWaysModel", "isLetter", "(I)Z"⟩, 27) := ⟨⟨by decide +kernel, by decide +kernel⟩, List.mem_of_getElem? (i := 848) (by decide +kernel), List.mem_of_getElem? (i := 994) (by decide +kernel), List.mem_of_getElem? (i := 995) (by decide +kernel)⟩
theorem lw_p25 : lw_okq (⟨"CoffinWaysModel", "must", "(Z)V"⟩, 27) := ⟨⟨by decide +kernel, by decide +kernel⟩, List.mem_of_getElem? (i := 848) (by decide +kernel), List.mem_of_getElem? (i := 998) (by decide +kernel), List.mem_of_getElem? (i := 999) (by decide +kernel)⟩
theorem lw_p26 : lw_okq (⟨"CoffinWaysModel", "bad", "(I)V"⟩, 27) := ⟨⟨by decide +kernel, by decide +kernel⟩, List.mem_of_getElem? (i := 848) (by decide +kernel), List.mem_of_getElem? (i := 1002) (by decide +kernel), List.mem_of_getElem? (i := 1003) (by decide +kernel)⟩
theorem lw_p27 : lw_okq (⟨"CoffinWaysModel", "number", "(II)I"⟩, 27) := ⟨⟨by decide +kernel, by decide +kernel⟩, List.mem_of_getElem? (i := 848) (by decide +kernel), List.mem_of_getElem? (i := 1006) (by decide +kernel), List.mem_of_getElem? (i := 1007) (by decide +kernel)⟩
theorem lw_p28 : lw_okq (⟨"CoffinWaysModel", "mustSign", "(I)V"⟩, 27) := ⟨⟨by decide +kernel, by decide +kernel⟩, List.mem_of_getElem? (i := 848) (by decide +kernel), List.mem_of_getElem? (i := 1010) (by decide +kernel), List.mem_of_getElem? (i := 1011) (by decide +kernel)⟩
theorem lw_p29 : lw_okq (⟨"CoffinWaysModel", "readPath", "()V"⟩, 27) := ⟨⟨by decide +kernel, by decide +kernel⟩, List.mem_of_getElem? (i := 848) (by decide +kernel), List.mem_of_getElem? (i := 1014) (by decide +kernel), List.mem_of_getElem? (i := 1015) (by decide +kernel)⟩
theorem lw_p30 : lw_okq (⟨"CoffinWaysModel", "isTold", "(IJ)Z"⟩, 27) := ⟨⟨by decide +kernel, by decide +kernel⟩, List.mem_of_getElem? (i := 848) (by decide +kernel), List.mem_of_getElem? (i := 1018) (by decide +kernel), List.mem_of_getElem? (i := 1019) (by decide +kernel)⟩
theorem lw_p31 : lw_okq (⟨"CoffinWaysModel", "readWitness", "()V"⟩, 27) := ⟨⟨by decide +kernel, by decide +kernel⟩, List.mem_of_getElem? (i := 848) (by decide +kernel), List.mem_of_getElem? (i := 1025) (by decide +kernel), List.mem_of_getElem? (i := 1026) (by decide +kernel)⟩
def lw_privs_2 : List (MethodName × Nat) := [(⟨"CoffinWays", "fittingKinds", "(I[III)I"⟩, 13), (⟨"CoffinWays$Coffin", "countWithin", "(LCoffinWays$Parish;)V"⟩, 8), (⟨"CoffinWays$Coffin", "fillPowers", "(I)V"⟩, 8), (⟨"CoffinWays$Coffin", "casesJoined", "(II)J"⟩, 8), (⟨"CoffinWays$Coffin", "casesParted", "(II)J"⟩, 8), (⟨"CoffinWaysModel", "finding", "(I)I"⟩, 27), (⟨"CoffinWaysModel", "begin", "()V"⟩, 27), (⟨"CoffinWaysModel", "nextToken", "()V"⟩, 27), (⟨"CoffinWaysModel", "isLetter", "(I)Z"⟩, 27), (⟨"CoffinWaysModel", "must", "(Z)V"⟩, 27), (⟨"CoffinWaysModel", "bad", "(I)V"⟩, 27), (⟨"CoffinWaysModel", "number", "(II)I"⟩, 27), (⟨"CoffinWaysModel", "mustSign", "(I)V"⟩, 27), (⟨"CoffinWaysModel", "readPath", "()V"⟩, 27), (⟨"CoffinWaysModel", "isTold", "(IJ)Z"⟩, 27), (⟨"CoffinWaysModel", "readWitness", "()V"⟩, 27)]
theorem lw_r2 : ∀ q ∈ lw_privs_2, lw_okq q := List.forall_mem_cons.mpr ⟨lw_p16, List.forall_mem_cons.mpr ⟨lw_p17, List.forall_mem_cons.mpr ⟨lw_p18, List.forall_mem_cons.mpr ⟨lw_p19, List.forall_mem_cons.mpr ⟨lw_p20, List.forall_mem_cons.mpr ⟨lw_p21, List.forall_mem_cons.mpr ⟨lw_p22, List.forall_mem_cons.mpr ⟨lw_p23, List.forall_mem_cons.mpr ⟨lw_p24, List.forall_mem_cons.mpr ⟨lw_p25, List.forall_mem_cons.mpr ⟨lw_p26, List.forall_mem_cons.mpr ⟨lw_p27, List.forall_mem_cons.mpr ⟨lw_p28, List.forall_mem_cons.mpr ⟨lw_p29, List.forall_mem_cons.mpr ⟨lw_p30, List.forall_mem_cons.mpr ⟨lw_p31, fun _ h => absurd h List.not_mem_nil⟩⟩⟩⟩⟩⟩⟩⟩⟩⟩⟩⟩⟩⟩⟩⟩
theorem lw_p32 : lw_okq (⟨"CoffinWaysModel", "failed", "()Z"⟩, 27) := ⟨⟨by decide +kernel, by decide +kernel⟩, List.mem_of_getElem? (i := 848) (by decide +kernel), List.mem_of_getElem? (i := 1029) (by decide +kernel), List.mem_of_getElem? (i := 1030) (by decide +kernel)⟩
theorem lw_p33 : lw_okq (⟨"CoffinWaysModel", "isThere", "()Z"⟩, 27) := ⟨⟨by decide +kernel, by decide +kernel⟩, List.mem_of_getElem? (i := 848) (by decide +kernel), List.mem_of_getElem? (i := 1038) (by decide +kernel), List.mem_of_getElem? (i := 1039) (by decide +kernel)⟩
theorem lw_p34 : lw_okq (⟨"CoffinWaysModel", "isBurial", "(II)Z"⟩, 27) := ⟨⟨by decide +kernel, by decide +kernel⟩, List.mem_of_getElem? (i := 848) (by decide +kernel), List.mem_of_getElem? (i := 1046) (by decide +kernel), List.mem_of_getElem? (i := 1047) (by decide +kernel)⟩
theorem lw_p35 : lw_okq (⟨"CoffinWaysModel", "layWay", "(II)V"⟩, 27) := ⟨⟨by decide +kernel, by decide +kernel⟩, List.mem_of_getElem? (i := 848) (by decide +kernel), List.mem_of_getElem? (i := 1050) (by decide +kernel), List.mem_of_getElem? (i := 1051) (by decide +kernel)⟩
theorem lw_p36 : lw_okq (⟨"CoffinWaysModel", "allPaths", "()I"⟩, 27) := ⟨⟨by decide +kernel, by decide +kernel⟩, List.mem_of_getElem? (i := 848) (by decide +kernel), List.mem_of_getElem? (i := 1054) (by decide +kernel), List.mem_of_getElem? (i := 1055) (by decide +kernel)⟩
theorem lw_p37 : lw_okq (⟨"CoffinWaysModel", "layFars", "(I)V"⟩, 27) := ⟨⟨by decide +kernel, by decide +kernel⟩, List.mem_of_getElem? (i := 848) (by decide +kernel), List.mem_of_getElem? (i := 1058) (by decide +kernel), List.mem_of_getElem? (i := 1059) (by decide +kernel)⟩
theorem lw_p38 : lw_okq (⟨"CoffinWaysModel", "other", "(II)I"⟩, 27) := ⟨⟨by decide +kernel, by decide +kernel⟩, List.mem_of_getElem? (i := 848) (by decide +kernel), List.mem_of_getElem? (i := 1065) (by decide +kernel), List.mem_of_getElem? (i := 1066) (by decide +kernel)⟩
theorem lw_p39 : lw_okq (⟨"CoffinWaysModel", "keep", "()V"⟩, 27) := ⟨⟨by decide +kernel, by decide +kernel⟩, List.mem_of_getElem? (i := 848) (by decide +kernel), List.mem_of_getElem? (i := 1069) (by decide +kernel), List.mem_of_getElem? (i := 1070) (by decide +kernel)⟩
theorem lw_p40 : lw_okq (⟨"CoffinWaysModel", "see", "([I)V"⟩, 27) := ⟨⟨by decide +kernel, by decide +kernel⟩, List.mem_of_getElem? (i := 848) (by decide +kernel), List.mem_of_getElem? (i := 1073) (by decide +kernel), List.mem_of_getElem? (i := 1074) (by decide +kernel)⟩
theorem lw_p41 : lw_okq (⟨"CoffinWaysModel", "sees", "(III)I"⟩, 27) := ⟨⟨by decide +kernel, by decide +kernel⟩, List.mem_of_getElem? (i := 848) (by decide +kernel), List.mem_of_getElem? (i := 1086) (by decide +kernel), List.mem_of_getElem? (i := 1087) (by decide +kernel)⟩
theorem lw_p42 : lw_okq (⟨"CoffinWaysModel", "pathsAt", "(I)I"⟩, 27) := ⟨⟨by decide +kernel, by decide +kernel⟩, List.mem_of_getElem? (i := 848) (by decide +kernel), List.mem_of_getElem? (i := 1090) (by decide +kernel), List.mem_of_getElem? (i := 1091) (by decide +kernel)⟩
theorem lw_p43 : lw_okq (⟨"CoffinWaysModel", "isPath", "(I)Z"⟩, 27) := ⟨⟨by decide +kernel, by decide +kernel⟩, List.mem_of_getElem? (i := 848) (by decide +kernel), List.mem_of_getElem? (i := 1115) (by decide +kernel), List.mem_of_getElem? (i := 1116) (by decide +kernel)⟩
theorem lw_p44 : lw_okq (⟨"CoffinWaysModel", "isWitness", "(I)Z"⟩, 27) := ⟨⟨by decide +kernel, by decide +kernel⟩, List.mem_of_getElem? (i := 848) (by decide +kernel), List.mem_of_getElem? (i := 1123) (by decide +kernel), List.mem_of_getElem? (i := 1124) (by decide +kernel)⟩
theorem lw_p45 : lw_okq (⟨"CoffinWaysModel", "layThen", "()V"⟩, 27) := ⟨⟨by decide +kernel, by decide +kernel⟩, List.mem_of_getElem? (i := 848) (by decide +kernel), List.mem_of_getElem? (i := 1149) (by decide +kernel), List.mem_of_getElem? (i := 1150) (by decide +kernel)⟩
theorem lw_p46 : lw_okq (⟨"CoffinWaysModel", "comesThrough", "(II)Z"⟩, 27) := ⟨⟨by decide +kernel, by decide +kernel⟩, List.mem_of_getElem? (i := 848) (by decide +kernel), List.mem_of_getElem? (i := 1168) (by decide +kernel), List.mem_of_getElem? (i := 1169) (by decide +kernel)⟩
theorem lw_p47 : lw_okq (⟨"CoffinWaysModel", "makesBy", "(I)I"⟩, 27) := ⟨⟨by decide +kernel, by decide +kernel⟩, List.mem_of_getElem? (i := 848) (by decide +kernel), List.mem_of_getElem? (i := 1184) (by decide +kernel), List.mem_of_getElem? (i := 1185) (by decide +kernel)⟩
def lw_privs_3 : List (MethodName × Nat) := [(⟨"CoffinWaysModel", "failed", "()Z"⟩, 27), (⟨"CoffinWaysModel", "isThere", "()Z"⟩, 27), (⟨"CoffinWaysModel", "isBurial", "(II)Z"⟩, 27), (⟨"CoffinWaysModel", "layWay", "(II)V"⟩, 27), (⟨"CoffinWaysModel", "allPaths", "()I"⟩, 27), (⟨"CoffinWaysModel", "layFars", "(I)V"⟩, 27), (⟨"CoffinWaysModel", "other", "(II)I"⟩, 27), (⟨"CoffinWaysModel", "keep", "()V"⟩, 27), (⟨"CoffinWaysModel", "see", "([I)V"⟩, 27), (⟨"CoffinWaysModel", "sees", "(III)I"⟩, 27), (⟨"CoffinWaysModel", "pathsAt", "(I)I"⟩, 27), (⟨"CoffinWaysModel", "isPath", "(I)Z"⟩, 27), (⟨"CoffinWaysModel", "isWitness", "(I)Z"⟩, 27), (⟨"CoffinWaysModel", "layThen", "()V"⟩, 27), (⟨"CoffinWaysModel", "comesThrough", "(II)Z"⟩, 27), (⟨"CoffinWaysModel", "makesBy", "(I)I"⟩, 27)]
theorem lw_r3 : ∀ q ∈ lw_privs_3, lw_okq q := List.forall_mem_cons.mpr ⟨lw_p32, List.forall_mem_cons.mpr ⟨lw_p33, List.forall_mem_cons.mpr ⟨lw_p34, List.forall_mem_cons.mpr ⟨lw_p35, List.forall_mem_cons.mpr ⟨lw_p36, List.forall_mem_cons.mpr ⟨lw_p37, List.forall_mem_cons.mpr ⟨lw_p38, List.forall_mem_cons.mpr ⟨lw_p39, List.forall_mem_cons.mpr ⟨lw_p40, List.forall_mem_cons.mpr ⟨lw_p41, List.forall_mem_cons.mpr ⟨lw_p42, List.forall_mem_cons.mpr ⟨lw_p43, List.forall_mem_cons.mpr ⟨lw_p44, List.forall_mem_cons.mpr ⟨lw_p45, List.forall_mem_cons.mpr ⟨lw_p46, List.forall_mem_cons.mpr ⟨lw_p47, fun _ h => absurd h List.not_mem_nil⟩⟩⟩⟩⟩⟩⟩⟩⟩⟩⟩⟩⟩⟩⟩⟩
theorem lw_p48 : lw_okq (⟨"CoffinWaysModel", "waysBehind", "(I)I"⟩, 27) := ⟨⟨by decide +kernel, by decide +kernel⟩, List.mem_of_getElem? (i := 848) (by decide +kernel), List.mem_of_getElem? (i := 1188) (by decide +kernel), List.mem_of_getElem? (i := 1189) (by decide +kernel)⟩
theorem lw_p49 : lw_okq (⟨"CoffinWaysModel", "sizeOf", "(I)I"⟩, 27) := ⟨⟨by decide +kernel, by decide +kernel⟩, List.mem_of_getElem? (i := 848) (by decide +kernel), List.mem_of_getElem? (i := 1251) (by decide +kernel), List.mem_of_getElem? (i := 1252) (by decide +kernel)⟩
theorem lw_p50 : lw_okq (⟨"CoffinWaysModel", "strangerSize", "(I)I"⟩, 27) := ⟨⟨by decide +kernel, by decide +kernel⟩, List.mem_of_getElem? (i := 848) (by decide +kernel), List.mem_of_getElem? (i := 1255) (by decide +kernel), List.mem_of_getElem? (i := 1256) (by decide +kernel)⟩
theorem lw_p51 : lw_okq (⟨"CoffinWaysModel", "began", "(I)V"⟩, 27) := ⟨⟨by decide +kernel, by decide +kernel⟩, List.mem_of_getElem? (i := 848) (by decide +kernel), List.mem_of_getElem? (i := 1259) (by decide +kernel), List.mem_of_getElem? (i := 1260) (by decide +kernel)⟩
theorem lw_p52 : lw_okq (⟨"CoffinWaysModel", "plainSize", "(I)I"⟩, 27) := ⟨⟨by decide +kernel, by decide +kernel⟩, List.mem_of_getElem? (i := 848) (by decide +kernel), List.mem_of_getElem? (i := 1263) (by decide +kernel), List.mem_of_getElem? (i := 1264) (by decide +kernel)⟩
theorem lw_p53 : lw_okq (⟨"CoffinWaysModel", "markOf", "(I)I"⟩, 27) := ⟨⟨by decide +kernel, by decide +kernel⟩, List.mem_of_getElem? (i := 848) (by decide +kernel), List.mem_of_getElem? (i := 1267) (by decide +kernel), List.mem_of_getElem? (i := 1268) (by decide +kernel)⟩
def lw_privs_4 : List (MethodName × Nat) := [(⟨"CoffinWaysModel", "waysBehind", "(I)I"⟩, 27), (⟨"CoffinWaysModel", "sizeOf", "(I)I"⟩, 27), (⟨"CoffinWaysModel", "strangerSize", "(I)I"⟩, 27), (⟨"CoffinWaysModel", "began", "(I)V"⟩, 27), (⟨"CoffinWaysModel", "plainSize", "(I)I"⟩, 27), (⟨"CoffinWaysModel", "markOf", "(I)I"⟩, 27)]
theorem lw_r4 : ∀ q ∈ lw_privs_4, lw_okq q := List.forall_mem_cons.mpr ⟨lw_p48, List.forall_mem_cons.mpr ⟨lw_p49, List.forall_mem_cons.mpr ⟨lw_p50, List.forall_mem_cons.mpr ⟨lw_p51, List.forall_mem_cons.mpr ⟨lw_p52, List.forall_mem_cons.mpr ⟨lw_p53, fun _ h => absurd h List.not_mem_nil⟩⟩⟩⟩⟩⟩
def lw_privs : List (MethodName × Nat) := lw_privs_1 ++ (lw_privs_2 ++ (lw_privs_3 ++ (lw_privs_4)))
def lw_tbl : List Cond := k2_sels lw_privs ++ tables_1
theorem lw_privs_ok : ∀ q ∈ lw_privs, lw_okq q := by
  show ∀ q ∈ lw_privs_1 ++ (lw_privs_2 ++ (lw_privs_3 ++ (lw_privs_4))), lw_okq q
  exact List.forall_mem_append.mpr ⟨lw_r1, List.forall_mem_append.mpr ⟨lw_r2, List.forall_mem_append.mpr ⟨lw_r3, lw_r4⟩⟩⟩
-- ===== end of PART A
end
section
/-! ===== BEGIN words of one list among another's, by their places ===== -/
theorem goodIn_r {big : List Cond} (ws : List Cond) (ps : List Nat) (hp : ws = ps.filterMap (fun i => big[i]?)) (h : ws.all goodWord = true) : GoodIn big ws := by
  intro w hw
  have h1 := List.all_eq_true.mp h w hw
  rw [hp] at hw
  obtain ⟨i, -, hi⟩ := List.mem_filterMap.mp hw
  have hm : w ∈ big := by first | exact List.mem_of_getElem? hi | exact List.getElem?_mem hi
  exact ⟨hm, good_of_word h1⟩
theorem goodIn_app {big a b : List Cond} (ha : GoodIn big a) (hb : GoodIn big b) : GoodIn big (a ++ b) := fun w h => (List.mem_append.mp h).elim (ha w) (hb w)
theorem goodIn_ca {big a b : List Cond} {c : Cond} (ha : GoodIn big (c :: a)) (hb : GoodIn big b) : GoodIn big (c :: (a ++ b)) := fun w h => (List.mem_cons.mp h).elim (fun e => ha w (List.mem_cons.mpr (Or.inl e))) (fun h => (List.mem_append.mp h).elim (fun h => ha w (List.mem_cons.mpr (Or.inr h))) (hb w))
theorem goodIn_sub {big ws : List Cond} (hm : ∀ w ∈ ws, w ∈ big) (h : ws.all goodWord = true) : GoodIn big ws := fun w hw => ⟨hm w hw, good_of_word (List.all_eq_true.mp h w hw)⟩
/-! ===== END ===== -/

/-! ===== BEGIN printed: names, fields, word lists, decode rows ===== -/
def RX0 : String := "CoffinWays$Asked"
def TX0 : u_T := fun k => match k with
  | 0 => ("CoffinWays$Asked", "number", "I", false)
  | 1 => ("CoffinWays$Asked", "age", "I", false)
  | 2 => ("CoffinWays$Asked", "sworn", "I", false)
  | 3 => ("CoffinWays$Asked", "traced", "I", false)
  | _ => ("CoffinWays$Asked", "bodies", "[I", true)
def tyX0 : Nat → FieldType := fun k => match k with
  | 0 => .int
  | 1 => .int
  | 2 => .int
  | 3 => .int
  | _ => .array .int
abbrev wsX00 : List Cond := u_ws RX0 TX0 5
theorem nmX0 : ∀ a, a < 5 → ∀ b, b < 5 → a ≠ b → (TX0 a).2.1 ≠ (TX0 b).2.1 := by decide +kernel
theorem tyX0_ok : ∀ k, k < 5 → parseFieldDescriptor (TX0 k).2.2.1 = some (tyX0 k) := by decide +kernel
abbrev cX0_init : ByteArray := prog_2_method_1_code
def yX0_init : MethodName := ⟨RX0, "<init>", "()V"⟩
abbrev cX0_begin : ByteArray := prog_2_method_2_code
def yX0_begin : MethodName := ⟨RX0, "begin", "(I)V"⟩
def RX1 : String := "CoffinWays$Child"
def TX1 : u_T := fun k => match k with
  | _ => ("", "", "", false)
def tyX1 : Nat → FieldType := fun k => match k with
  | _ => .int
abbrev wsX10 : List Cond := u_ws RX1 TX1 0
theorem nmX1 : ∀ a, a < 0 → ∀ b, b < 0 → a ≠ b → (TX1 a).2.1 ≠ (TX1 b).2.1 := by decide +kernel
theorem tyX1_ok : ∀ k, k < 0 → parseFieldDescriptor (TX1 k).2.2.1 = some (tyX1 k) := by decide +kernel
abbrev cX1_init : ByteArray := prog_3_method_1_code
def yX1_init : MethodName := ⟨RX1, "<init>", "()V"⟩
abbrev cX1_span : ByteArray := prog_3_method_2_code
def yX1_span : MethodName := ⟨RX1, "span", "(I)I"⟩
abbrev cX1_sees : ByteArray := prog_3_method_3_code
def yX1_sees : MethodName := ⟨RX1, "sees", "(LCoffinWays$Parish;ILCoffinWays$Coffin;)I"⟩
abbrev cX1_size : ByteArray := prog_3_method_4_code
def yX1_size : MethodName := ⟨RX1, "size", "(LCoffinWays$Asked;)I"⟩
abbrev cX1_mark : ByteArray := prog_3_method_5_code
def yX1_mark : MethodName := ⟨RX1, "mark", "(LCoffinWays$Asked;)I"⟩
def RX2 : String := "CoffinWays$Coffin"
def TX2 : u_T := fun k => match k with
  | 0 => ("CoffinWays$Coffin", "length", "I", false)
  | 1 => ("CoffinWays$Coffin", "route", "I", false)
  | 2 => ("CoffinWays$Coffin", "first", "I", false)
  | 3 => ("CoffinWays$Coffin", "far", "[I", true)
  | 4 => ("CoffinWays$Coffin", "within", "[I", true)
  | 5 => ("CoffinWays$Coffin", "joined", "[J", true)
  | 6 => ("CoffinWays$Coffin", "tens", "[J", true)
  | _ => ("CoffinWays$Coffin", "powers", "[J", true)
def tyX2 : Nat → FieldType := fun k => match k with
  | 0 => .int
  | 1 => .int
  | 2 => .int
  | 3 => .array .int
  | 4 => .array .int
  | 5 => .array .long
  | 6 => .array .long
  | _ => .array .long
abbrev wsX20 : List Cond := u_ws RX2 TX2 8
theorem nmX2 : ∀ a, a < 8 → ∀ b, b < 8 → a ≠ b → (TX2 a).2.1 ≠ (TX2 b).2.1 := by decide +kernel
theorem tyX2_ok : ∀ k, k < 8 → parseFieldDescriptor (TX2 k).2.2.1 = some (tyX2 k) := by decide +kernel
abbrev cX2_init : ByteArray := prog_4_method_1_code
def yX2_init : MethodName := ⟨RX2, "<init>", "()V"⟩
abbrev cX2_isBurial : ByteArray := prog_4_method_2_code
def yX2_isBurial : MethodName := ⟨RX2, "isBurial", "(LCoffinWays$Parish;I)Z"⟩
abbrev cX2_carry : ByteArray := prog_4_method_3_code
def yX2_carry : MethodName := ⟨RX2, "carry", "(LCoffinWays$Parish;II)Z"⟩
abbrev cX2_measure : ByteArray := prog_4_method_4_code
def yX2_measure : MethodName := ⟨RX2, "measure", "(LCoffinWays$Parish;I)V"⟩
abbrev cX2_shorten : ByteArray := prog_4_method_5_code
def yX2_shorten : MethodName := ⟨RX2, "shorten", "(III)Z"⟩
abbrev cX2_nextField : ByteArray := prog_4_method_6_code
def yX2_nextField : MethodName := ⟨RX2, "nextField", "(LCoffinWays$Parish;II)I"⟩
abbrev cX2_fewestGates : ByteArray := prog_4_method_7_code
def yX2_fewestGates : MethodName := ⟨RX2, "fewestGates", "(LCoffinWays$Parish;II)I"⟩
abbrev cX2_between : ByteArray := prog_4_method_8_code
def yX2_between : MethodName := ⟨RX2, "between", "(LCoffinWays$Parish;II)I"⟩
abbrev cX2_casesThrough : ByteArray := prog_4_method_9_code
def yX2_casesThrough : MethodName := ⟨RX2, "casesThrough", "(LCoffinWays$Parish;II)J"⟩
abbrev cX2_casesJoined : ByteArray := prog_4_method_10_code
def yX2_casesJoined : MethodName := ⟨RX2, "casesJoined", "(II)J"⟩
abbrev cX2_casesParted : ByteArray := prog_4_method_11_code
def yX2_casesParted : MethodName := ⟨RX2, "casesParted", "(II)J"⟩
abbrev cX2_countWithin : ByteArray := prog_4_method_12_code
def yX2_countWithin : MethodName := ⟨RX2, "countWithin", "(LCoffinWays$Parish;)V"⟩
abbrev cX2_fillPowers : ByteArray := prog_4_method_13_code
def yX2_fillPowers : MethodName := ⟨RX2, "fillPowers", "(I)V"⟩
def RX3 : String := "CoffinWays$Farmer"
def TX3 : u_T := fun k => match k with
  | _ => ("", "", "", false)
def tyX3 : Nat → FieldType := fun k => match k with
  | _ => .int
abbrev wsX30 : List Cond := u_ws RX3 TX3 0
theorem nmX3 : ∀ a, a < 0 → ∀ b, b < 0 → a ≠ b → (TX3 a).2.1 ≠ (TX3 b).2.1 := by decide +kernel
theorem tyX3_ok : ∀ k, k < 0 → parseFieldDescriptor (TX3 k).2.2.1 = some (tyX3 k) := by decide +kernel
abbrev cX3_init : ByteArray := prog_5_method_1_code
def yX3_init : MethodName := ⟨RX3, "<init>", "()V"⟩
abbrev cX3_sees : ByteArray := prog_5_method_2_code
def yX3_sees : MethodName := ⟨RX3, "sees", "(LCoffinWays$Parish;ILCoffinWays$Coffin;)I"⟩
abbrev cX3_mark : ByteArray := prog_5_method_3_code
def yX3_mark : MethodName := ⟨RX3, "mark", "(LCoffinWays$Asked;)I"⟩
def RX4 : String := "CoffinWays$Neighbour"
def TX4 : u_T := fun k => match k with
  | _ => ("", "", "", false)
def tyX4 : Nat → FieldType := fun k => match k with
  | _ => .int
abbrev wsX40 : List Cond := u_ws RX4 TX4 0
theorem nmX4 : ∀ a, a < 0 → ∀ b, b < 0 → a ≠ b → (TX4 a).2.1 ≠ (TX4 b).2.1 := by decide +kernel
theorem tyX4_ok : ∀ k, k < 0 → parseFieldDescriptor (TX4 k).2.2.1 = some (tyX4 k) := by decide +kernel
abbrev cX4_init : ByteArray := prog_6_method_1_code
def yX4_init : MethodName := ⟨RX4, "<init>", "()V"⟩
abbrev cX4_sees : ByteArray := prog_6_method_2_code
def yX4_sees : MethodName := ⟨RX4, "sees", "(LCoffinWays$Parish;ILCoffinWays$Coffin;)I"⟩
abbrev cX4_size : ByteArray := prog_6_method_3_code
def yX4_size : MethodName := ⟨RX4, "size", "(LCoffinWays$Asked;)I"⟩
abbrev cX4_mark : ByteArray := prog_6_method_4_code
def yX4_mark : MethodName := ⟨RX4, "mark", "(LCoffinWays$Asked;)I"⟩
def RX5 : String := "CoffinWays$Parish"
def TX5 : u_T := fun k => match k with
  | 0 => ("CoffinWays$Parish", "kinds", "[LCoffinWays$Witness;", true)
  | 1 => ("CoffinWays$Parish", "there", "Z", false)
  | 2 => ("CoffinWays$Parish", "church", "I", false)
  | 3 => ("CoffinWays$Parish", "lives", "I", false)
  | 4 => ("CoffinWays$Parish", "year", "I", false)
  | 5 => ("CoffinWays$Parish", "paths", "I", false)
  | 6 => ("CoffinWays$Parish", "witnesses", "I", false)
  | 7 => ("CoffinWays$Parish", "gates", "I", false)
  | 8 => ("CoffinWays$Parish", "starts", "[I", true)
  | 9 => ("CoffinWays$Parish", "ends", "[I", true)
  | 10 => ("CoffinWays$Parish", "longs", "[I", true)
  | 11 => ("CoffinWays$Parish", "sorts", "[I", true)
  | 12 => ("CoffinWays$Parish", "homes", "[I", true)
  | 13 => ("CoffinWays$Parish", "ages", "[I", true)
  | _ => ("CoffinWays$Parish", "saw", "[I", true)
def tyX5 : Nat → FieldType := fun k => match k with
  | 0 => .array (.object "CoffinWays$Witness")
  | 1 => .boolean
  | 2 => .int
  | 3 => .int
  | 4 => .int
  | 5 => .int
  | 6 => .int
  | 7 => .int
  | 8 => .array .int
  | 9 => .array .int
  | 10 => .array .int
  | 11 => .array .int
  | 12 => .array .int
  | 13 => .array .int
  | _ => .array .int
abbrev wsX50 : List Cond := u_ws RX5 TX5 15
theorem nmX5 : ∀ a, a < 15 → ∀ b, b < 15 → a ≠ b → (TX5 a).2.1 ≠ (TX5 b).2.1 := by decide +kernel
theorem tyX5_ok : ∀ k, k < 15 → parseFieldDescriptor (TX5 k).2.2.1 = some (tyX5 k) := by decide +kernel
abbrev cX5_init : ByteArray := prog_7_method_1_code
def yX5_init : MethodName := ⟨RX5, "<init>", "([LCoffinWays$Witness;)V"⟩
abbrev cX5_clear : ByteArray := prog_7_method_2_code
def yX5_clear : MethodName := ⟨RX5, "clear", "()V"⟩
abbrev cX5_become : ByteArray := prog_7_method_3_code
def yX5_become : MethodName := ⟨RX5, "become", "(LCoffinWays$Parish;)V"⟩
abbrev cX5_save : ByteArray := prog_7_method_4_code
def yX5_save : MethodName := ⟨RX5, "save", "([I)V"⟩
abbrev cX5_load : ByteArray := prog_7_method_5_code
def yX5_load : MethodName := ⟨RX5, "load", "([I)V"⟩
abbrev cX5_addPath : ByteArray := prog_7_method_6_code
def yX5_addPath : MethodName := ⟨RX5, "addPath", "(III)V"⟩
abbrev cX5_addWitness : ByteArray := prog_7_method_7_code
def yX5_addWitness : MethodName := ⟨RX5, "addWitness", "(III)V"⟩
abbrev cX5_hasPath : ByteArray := prog_7_method_8_code
def yX5_hasPath : MethodName := ⟨RX5, "hasPath", "(I)Z"⟩
abbrev cX5_hasWitness : ByteArray := prog_7_method_9_code
def yX5_hasWitness : MethodName := ⟨RX5, "hasWitness", "(I)Z"⟩
abbrev cX5_isJoined : ByteArray := prog_7_method_10_code
def yX5_isJoined : MethodName := ⟨RX5, "isJoined", "(II)Z"⟩
abbrev cX5_allPaths : ByteArray := prog_7_method_11_code
def yX5_allPaths : MethodName := ⟨RX5, "allPaths", "()I"⟩
abbrev cX5_open : ByteArray := prog_7_method_12_code
def yX5_open : MethodName := ⟨RX5, "open", "()I"⟩
abbrev cX5_pathsAt : ByteArray := prog_7_method_13_code
def yX5_pathsAt : MethodName := ⟨RX5, "pathsAt", "(I)I"⟩
abbrev cX5_isAlive : ByteArray := prog_7_method_14_code
def yX5_isAlive : MethodName := ⟨RX5, "isAlive", "(I)Z"⟩
abbrev cX5_swears : ByteArray := prog_7_method_15_code
def yX5_swears : MethodName := ⟨RX5, "swears", "(I)I"⟩
abbrev cX5_living : ByteArray := prog_7_method_16_code
def yX5_living : MethodName := ⟨RX5, "living", "()I"⟩
abbrev cX5_swearing : ByteArray := prog_7_method_17_code
def yX5_swearing : MethodName := ⟨RX5, "swearing", "(I)I"⟩
abbrev cX5_sworn : ByteArray := prog_7_method_18_code
def yX5_sworn : MethodName := ⟨RX5, "sworn", "(I)I"⟩
abbrev cX5_ways : ByteArray := prog_7_method_19_code
def yX5_ways : MethodName := ⟨RX5, "ways", "()I"⟩
abbrev cX5_seenBy : ByteArray := prog_7_method_20_code
def yX5_seenBy : MethodName := ⟨RX5, "seenBy", "(ILCoffinWays$Coffin;)I"⟩
abbrev cX5_waysBehind : ByteArray := prog_7_method_21_code
def yX5_waysBehind : MethodName := ⟨RX5, "waysBehind", "(LCoffinWays$Coffin;)I"⟩
abbrev cX5_see : ByteArray := prog_7_method_22_code
def yX5_see : MethodName := ⟨RX5, "see", "(LCoffinWays$Coffin;)V"⟩
abbrev cX5_pass : ByteArray := prog_7_method_23_code
def yX5_pass : MethodName := ⟨RX5, "pass", "()V"⟩
def RX6 : String := "CoffinWays$Rows"
def TX6 : u_T := fun k => match k with
  | 0 => ("CoffinWays$Rows", "items", "[[I", true)
  | 1 => ("CoffinWays$Rows", "lanes", "[I", true)
  | _ => ("CoffinWays$Rows", "sizes", "[I", true)
def tyX6 : Nat → FieldType := fun k => match k with
  | 0 => .array (.array .int)
  | 1 => .array .int
  | _ => .array .int
abbrev wsX60 : List Cond := u_ws RX6 TX6 3
theorem nmX6 : ∀ a, a < 3 → ∀ b, b < 3 → a ≠ b → (TX6 a).2.1 ≠ (TX6 b).2.1 := by decide +kernel
theorem tyX6_ok : ∀ k, k < 3 → parseFieldDescriptor (TX6 k).2.2.1 = some (tyX6 k) := by decide +kernel
abbrev cX6_init : ByteArray := prog_8_method_1_code
def yX6_init : MethodName := ⟨RX6, "<init>", "()V"⟩
abbrev cX6_isMissing : ByteArray := prog_8_method_2_code
def yX6_isMissing : MethodName := ⟨RX6, "isMissing", "(I)Z"⟩
abbrev cX6_has : ByteArray := prog_8_method_3_code
def yX6_has : MethodName := ⟨RX6, "has", "(III)Z"⟩
abbrev cX6_amiss : ByteArray := prog_8_method_4_code
def yX6_amiss : MethodName := ⟨RX6, "amiss", "(III)I"⟩
abbrev cX6_lay : ByteArray := prog_8_method_5_code
def yX6_lay : MethodName := ⟨RX6, "lay", "(III)V"⟩
abbrev cX6_put : ByteArray := prog_8_method_6_code
def yX6_put : MethodName := ⟨RX6, "put", "(III)I"⟩
abbrev cX6_standing : ByteArray := prog_8_method_7_code
def yX6_standing : MethodName := ⟨RX6, "standing", "()I"⟩
def RX7 : String := "CoffinWays$Smith"
def TX7 : u_T := fun k => match k with
  | _ => ("", "", "", false)
def tyX7 : Nat → FieldType := fun k => match k with
  | _ => .int
abbrev wsX70 : List Cond := u_ws RX7 TX7 0
theorem nmX7 : ∀ a, a < 0 → ∀ b, b < 0 → a ≠ b → (TX7 a).2.1 ≠ (TX7 b).2.1 := by decide +kernel
theorem tyX7_ok : ∀ k, k < 0 → parseFieldDescriptor (TX7 k).2.2.1 = some (tyX7 k) := by decide +kernel
abbrev cX7_init : ByteArray := prog_9_method_1_code
def yX7_init : MethodName := ⟨RX7, "<init>", "()V"⟩
abbrev cX7_sees : ByteArray := prog_9_method_2_code
def yX7_sees : MethodName := ⟨RX7, "sees", "(LCoffinWays$Parish;ILCoffinWays$Coffin;)I"⟩
abbrev cX7_keeps : ByteArray := prog_9_method_3_code
def yX7_keeps : MethodName := ⟨RX7, "keeps", "(II)I"⟩
abbrev cX7_size : ByteArray := prog_9_method_4_code
def yX7_size : MethodName := ⟨RX7, "size", "(LCoffinWays$Asked;)I"⟩
def RX8 : String := "CoffinWays$Stranger"
def TX8 : u_T := fun k => match k with
  | _ => ("", "", "", false)
def tyX8 : Nat → FieldType := fun k => match k with
  | _ => .int
abbrev wsX80 : List Cond := u_ws RX8 TX8 0
theorem nmX8 : ∀ a, a < 0 → ∀ b, b < 0 → a ≠ b → (TX8 a).2.1 ≠ (TX8 b).2.1 := by decide +kernel
theorem tyX8_ok : ∀ k, k < 0 → parseFieldDescriptor (TX8 k).2.2.1 = some (tyX8 k) := by decide +kernel
abbrev cX8_init : ByteArray := prog_10_method_1_code
def yX8_init : MethodName := ⟨RX8, "<init>", "()V"⟩
abbrev cX8_sees : ByteArray := prog_10_method_2_code
def yX8_sees : MethodName := ⟨RX8, "sees", "(LCoffinWays$Parish;ILCoffinWays$Coffin;)I"⟩
abbrev cX8_keeps : ByteArray := prog_10_method_3_code
def yX8_keeps : MethodName := ⟨RX8, "keeps", "(II)I"⟩
abbrev cX8_size : ByteArray := prog_10_method_4_code
def yX8_size : MethodName := ⟨RX8, "size", "(LCoffinWays$Asked;)I"⟩
abbrev cX8_mark : ByteArray := prog_10_method_5_code
def yX8_mark : MethodName := ⟨RX8, "mark", "(LCoffinWays$Asked;)I"⟩
def RX9 : String := "CoffinWays$Tape"
def TX9 : u_T := fun k => match k with
  | 0 => ("CoffinWays$Tape", "bytes", "[I", true)
  | 1 => ("CoffinWays$Tape", "size", "I", false)
  | 2 => ("CoffinWays$Tape", "fault", "I", false)
  | 3 => ("CoffinWays$Tape", "place", "I", false)
  | 4 => ("CoffinWays$Tape", "at", "I", false)
  | 5 => ("CoffinWays$Tape", "token", "I", false)
  | 6 => ("CoffinWays$Tape", "value", "I", false)
  | _ => ("CoffinWays$Tape", "next", "I", false)
def tyX9 : Nat → FieldType := fun k => match k with
  | 0 => .array .int
  | 1 => .int
  | 2 => .int
  | 3 => .int
  | 4 => .int
  | 5 => .int
  | 6 => .int
  | _ => .int
abbrev wsX90 : List Cond := u_ws RX9 TX9 8
theorem nmX9 : ∀ a, a < 8 → ∀ b, b < 8 → a ≠ b → (TX9 a).2.1 ≠ (TX9 b).2.1 := by decide +kernel
theorem tyX9_ok : ∀ k, k < 8 → parseFieldDescriptor (TX9 k).2.2.1 = some (tyX9 k) := by decide +kernel
abbrev cX9_init : ByteArray := prog_11_method_1_code
def yX9_init : MethodName := ⟨RX9, "<init>", "()V"⟩
abbrev cX9_append : ByteArray := prog_11_method_2_code
def yX9_append : MethodName := ⟨RX9, "append", "(I)V"⟩
abbrev cX9_read : ByteArray := prog_11_method_3_code
def yX9_read : MethodName := ⟨RX9, "read", "(LCoffinWays$Parish;)Z"⟩
abbrev cX9_readLaw : ByteArray := prog_11_method_4_code
def yX9_readLaw : MethodName := ⟨RX9, "readLaw", "(LCoffinWays$Parish;)Z"⟩
abbrev cX9_readPath : ByteArray := prog_11_method_5_code
def yX9_readPath : MethodName := ⟨RX9, "readPath", "(LCoffinWays$Parish;)Z"⟩
abbrev cX9_readWitness : ByteArray := prog_11_method_6_code
def yX9_readWitness : MethodName := ⟨RX9, "readWitness", "(LCoffinWays$Parish;)Z"⟩
abbrev cX9_sortOf : ByteArray := prog_11_method_7_code
def yX9_sortOf : MethodName := ⟨RX9, "sortOf", "(I)I"⟩
abbrev cX9_fails : ByteArray := prog_11_method_8_code
def yX9_fails : MethodName := ⟨RX9, "fails", "(I)Z"⟩
abbrev cX9_takes : ByteArray := prog_11_method_9_code
def yX9_takes : MethodName := ⟨RX9, "takes", "(I)Z"⟩
abbrev cX9_isNumber : ByteArray := prog_11_method_10_code
def yX9_isNumber : MethodName := ⟨RX9, "isNumber", "(II)Z"⟩
abbrev cX9_take : ByteArray := prog_11_method_11_code
def yX9_take : MethodName := ⟨RX9, "take", "()V"⟩
abbrev cX9_takeNumber : ByteArray := prog_11_method_12_code
def yX9_takeNumber : MethodName := ⟨RX9, "takeNumber", "()V"⟩
abbrev cX9_isFigure : ByteArray := prog_11_method_13_code
def yX9_isFigure : MethodName := ⟨RX9, "isFigure", "(I)Z"⟩
def RX10 : String := "CoffinWays$Witness"
def TX10 : u_T := fun k => match k with
  | _ => ("", "", "", false)
def tyX10 : Nat → FieldType := fun k => match k with
  | _ => .int
abbrev wsX100 : List Cond := u_ws RX10 TX10 0
theorem nmX10 : ∀ a, a < 0 → ∀ b, b < 0 → a ≠ b → (TX10 a).2.1 ≠ (TX10 b).2.1 := by decide +kernel
theorem tyX10_ok : ∀ k, k < 0 → parseFieldDescriptor (TX10 k).2.2.1 = some (tyX10 k) := by decide +kernel
abbrev cX10_init : ByteArray := prog_12_method_1_code
def yX10_init : MethodName := ⟨RX10, "<init>", "()V"⟩
abbrev cX10_span : ByteArray := prog_12_method_2_code
def yX10_span : MethodName := ⟨RX10, "span", "(I)I"⟩
abbrev cX10_sees : ByteArray := prog_12_method_3_code
def yX10_sees : MethodName := ⟨RX10, "sees", "(LCoffinWays$Parish;ILCoffinWays$Coffin;)I"⟩
abbrev cX10_keeps : ByteArray := prog_12_method_4_code
def yX10_keeps : MethodName := ⟨RX10, "keeps", "(II)I"⟩
abbrev cX10_size : ByteArray := prog_12_method_5_code
def yX10_size : MethodName := ⟨RX10, "size", "(LCoffinWays$Asked;)I"⟩
abbrev cX10_mark : ByteArray := prog_12_method_6_code
def yX10_mark : MethodName := ⟨RX10, "mark", "(LCoffinWays$Asked;)I"⟩
def RX11 : String := "CoffinWays"
def TX11 : u_T := fun k => match k with
  | 0 => ("CoffinWays", "rows", "LCoffinWays$Rows;", true)
  | 1 => ("CoffinWays", "tape", "LCoffinWays$Tape;", true)
  | 2 => ("CoffinWays", "kinds", "[LCoffinWays$Witness;", true)
  | 3 => ("CoffinWays", "now", "LCoffinWays$Parish;", true)
  | 4 => ("CoffinWays", "draft", "LCoffinWays$Parish;", true)
  | 5 => ("CoffinWays", "images", "[LCoffinWays$Parish;", true)
  | 6 => ("CoffinWays", "acts", "[[I", true)
  | 7 => ("CoffinWays", "actsKept", "I", false)
  | 8 => ("CoffinWays", "nextAct", "I", false)
  | 9 => ("CoffinWays", "coffin", "LCoffinWays$Coffin;", true)
  | 10 => ("CoffinWays", "asked", "LCoffinWays$Asked;", true)
  | 11 => ("CoffinWays", "sawAs", "[I", true)
  | _ => ("CoffinWays", "finding", "I", false)
def tyX11 : Nat → FieldType := fun k => match k with
  | 0 => .object "CoffinWays$Rows"
  | 1 => .object "CoffinWays$Tape"
  | 2 => .array (.object "CoffinWays$Witness")
  | 3 => .object "CoffinWays$Parish"
  | 4 => .object "CoffinWays$Parish"
  | 5 => .array (.object "CoffinWays$Parish")
  | 6 => .array (.array .int)
  | 7 => .int
  | 8 => .int
  | 9 => .object "CoffinWays$Coffin"
  | 10 => .object "CoffinWays$Asked"
  | 11 => .array .int
  | _ => .int
abbrev wsX110 : List Cond := u_ws RX11 TX11 13
theorem nmX11 : ∀ a, a < 13 → ∀ b, b < 13 → a ≠ b → (TX11 a).2.1 ≠ (TX11 b).2.1 := by decide +kernel
theorem tyX11_ok : ∀ k, k < 13 → parseFieldDescriptor (TX11 k).2.2.1 = some (tyX11 k) := by decide +kernel
abbrev cX11_init : ByteArray := prog_1_method_1_code
def yX11_init : MethodName := ⟨RX11, "<init>", "()V"⟩
abbrev cX11_row : ByteArray := prog_1_method_2_code
def yX11_row : MethodName := ⟨RX11, "row", "(III)I"⟩
abbrev cX11_set : ByteArray := prog_1_method_3_code
def yX11_set : MethodName := ⟨RX11, "set", "(III)I"⟩
abbrev cX11_copy : ByteArray := prog_1_method_4_code
def yX11_copy : MethodName := ⟨RX11, "copy", "(IIIII)I"⟩
abbrev cX11_drop : ByteArray := prog_1_method_5_code
def yX11_drop : MethodName := ⟨RX11, "drop", "(I)I"⟩
abbrev cX11_feed : ByteArray := prog_1_method_6_code
def yX11_feed : MethodName := ⟨RX11, "feed", "(I)I"⟩
abbrev cX11_parish : ByteArray := prog_1_method_7_code
def yX11_parish : MethodName := ⟨RX11, "parish", "()I"⟩
abbrev cX11_fault : ByteArray := prog_1_method_8_code
def yX11_fault : MethodName := ⟨RX11, "fault", "()I"⟩
abbrev cX11_undo : ByteArray := prog_1_method_9_code
def yX11_undo : MethodName := ⟨RX11, "undo", "()I"⟩
abbrev cX11_bury : ByteArray := prog_1_method_10_code
def yX11_bury : MethodName := ⟨RX11, "bury", "(I)I"⟩
abbrev cX11_years : ByteArray := prog_1_method_11_code
def yX11_years : MethodName := ⟨RX11, "years", "(I)I"⟩
abbrev cX11_lock : ByteArray := prog_1_method_12_code
def yX11_lock : MethodName := ⟨RX11, "lock", "(II)I"⟩
abbrev cX11_follow : ByteArray := prog_1_method_13_code
def yX11_follow : MethodName := ⟨RX11, "follow", "(I)I"⟩
abbrev cX11_witness : ByteArray := prog_1_method_14_code
def yX11_witness : MethodName := ⟨RX11, "witness", "(II)I"⟩
abbrev cX11_path : ByteArray := prog_1_method_15_code
def yX11_path : MethodName := ⟨RX11, "path", "(II)I"⟩
abbrev cX11_stand : ByteArray := prog_1_method_16_code
def yX11_stand : MethodName := ⟨RX11, "stand", "(I)I"⟩
abbrev cX11_ahead : ByteArray := prog_1_method_17_code
def yX11_ahead : MethodName := ⟨RX11, "ahead", "(I)I"⟩
abbrev cX11_lost : ByteArray := prog_1_method_18_code
def yX11_lost : MethodName := ⟨RX11, "lost", "(I)I"⟩
abbrev cX11_goes : ByteArray := prog_1_method_19_code
def yX11_goes : MethodName := ⟨RX11, "goes", "(II)I"⟩
abbrev cX11_stop : ByteArray := prog_1_method_20_code
def yX11_stop : MethodName := ⟨RX11, "stop", "(II)I"⟩
abbrev cX11_must : ByteArray := prog_1_method_21_code
def yX11_must : MethodName := ⟨RX11, "must", "(I)I"⟩
abbrev cX11_live : ByteArray := prog_1_method_22_code
def yX11_live : MethodName := ⟨RX11, "live", "(II)I"⟩
abbrev cX11_makes : ByteArray := prog_1_method_23_code
def yX11_makes : MethodName := ⟨RX11, "makes", "(I)I"⟩
abbrev cX11_best : ByteArray := prog_1_method_24_code
def yX11_best : MethodName := ⟨RX11, "best", "(I)I"⟩
abbrev cX11_from : ByteArray := prog_1_method_25_code
def yX11_from : MethodName := ⟨RX11, "from", "(II)I"⟩
abbrev cX11_who : ByteArray := prog_1_method_26_code
def yX11_who : MethodName := ⟨RX11, "who", "(IIII)I"⟩
abbrev cX11_far : ByteArray := prog_1_method_27_code
def yX11_far : MethodName := ⟨RX11, "far", "(I)I"⟩
abbrev cX11_pairs : ByteArray := prog_1_method_28_code
def yX11_pairs : MethodName := ⟨RX11, "pairs", "()I"⟩
abbrev cX11_locked : ByteArray := prog_1_method_29_code
def yX11_locked : MethodName := ⟨RX11, "locked", "(III)J"⟩
abbrev cX11_drawn : ByteArray := prog_1_method_30_code
def yX11_drawn : MethodName := ⟨RX11, "drawn", "(III)I"⟩
abbrev cX11_image : ByteArray := prog_1_method_31_code
def yX11_image : MethodName := ⟨RX11, "image", "(I)I"⟩
abbrev cX11_restore : ByteArray := prog_1_method_32_code
def yX11_restore : MethodName := ⟨RX11, "restore", "(I)I"⟩
abbrev cX11_kind : ByteArray := prog_1_method_33_code
def yX11_kind : MethodName := ⟨RX11, "kind", "(I)I"⟩
abbrev cX11_as : ByteArray := prog_1_method_34_code
def yX11_as : MethodName := ⟨RX11, "as", "(II)I"⟩
abbrev cX11_ask : ByteArray := prog_1_method_35_code
def yX11_ask : MethodName := ⟨RX11, "ask", "(II)I"⟩
abbrev cX11_trace : ByteArray := prog_1_method_36_code
def yX11_trace : MethodName := ⟨RX11, "trace", "(I)I"⟩
abbrev cX11_count : ByteArray := prog_1_method_37_code
def yX11_count : MethodName := ⟨RX11, "count", "(I)I"⟩
abbrev cX11_status : ByteArray := prog_1_method_38_code
def yX11_status : MethodName := ⟨RX11, "status", "()I"⟩
abbrev cX11_found : ByteArray := prog_1_method_39_code
def yX11_found : MethodName := ⟨RX11, "found", "(I)I"⟩
abbrev cX11_unfound : ByteArray := prog_1_method_40_code
def yX11_unfound : MethodName := ⟨RX11, "unfound", "(I)I"⟩
abbrev cX11_keepAct : ByteArray := prog_1_method_41_code
def yX11_keepAct : MethodName := ⟨RX11, "keepAct", "()V"⟩
abbrev cX11_forgetActs : ByteArray := prog_1_method_42_code
def yX11_forgetActs : MethodName := ⟨RX11, "forgetActs", "()V"⟩
abbrev cX11_newWays : ByteArray := prog_1_method_43_code
def yX11_newWays : MethodName := ⟨RX11, "newWays", "(I)I"⟩
abbrev cX11_fittingKinds : ByteArray := prog_1_method_44_code
def yX11_fittingKinds : MethodName := ⟨RX11, "fittingKinds", "(I[III)I"⟩
abbrev cX11_isRow : ByteArray := prog_1_method_45_code
def yX11_isRow : MethodName := ⟨RX11, "isRow", "(I)Z"⟩
abbrev cX11_isField : ByteArray := prog_1_method_46_code
def yX11_isField : MethodName := ⟨RX11, "isField", "(I)Z"⟩
abbrev cX11_isOneOfTwo : ByteArray := prog_1_method_47_code
def yX11_isOneOfTwo : MethodName := ⟨RX11, "isOneOfTwo", "(I)Z"⟩
abbrev cX11_isOfKind : ByteArray := prog_1_method_48_code
def yX11_isOfKind : MethodName := ⟨RX11, "isOfKind", "(LCoffinWays$Witness;I)Z"⟩
abbrev cX11_bitOf : ByteArray := prog_1_method_49_code
def yX11_bitOf : MethodName := ⟨RX11, "bitOf", "(II)I"⟩
abbrev cX11_commonDivisor : ByteArray := prog_1_method_50_code
def yX11_commonDivisor : MethodName := ⟨RX11, "commonDivisor", "(JJ)J"⟩
def RX12 : String := "CoffinWaysModel"
def TX12 : u_T := fun k => match k with
  | 0 => ("CoffinWaysModel", "thrown", "I", false)
  | 1 => ("CoffinWaysModel", "status", "I", false)
  | 2 => ("CoffinWaysModel", "lane", "[I", true)
  | 3 => ("CoffinWaysModel", "many", "[I", true)
  | 4 => ("CoffinWaysModel", "item", "[I", true)
  | 5 => ("CoffinWaysModel", "parish", "[I", true)
  | 6 => ("CoffinWaysModel", "fresh", "[I", true)
  | 7 => ("CoffinWaysModel", "then", "[I", true)
  | 8 => ("CoffinWaysModel", "was", "[I", true)
  | 9 => ("CoffinWaysModel", "acts", "I", false)
  | 10 => ("CoffinWaysModel", "tape", "[I", true)
  | 11 => ("CoffinWaysModel", "taped", "I", false)
  | 12 => ("CoffinWaysModel", "cursor", "I", false)
  | 13 => ("CoffinWaysModel", "start", "I", false)
  | 14 => ("CoffinWaysModel", "token", "I", false)
  | 15 => ("CoffinWaysModel", "value", "I", false)
  | 16 => ("CoffinWaysModel", "fault", "I", false)
  | 17 => ("CoffinWaysModel", "faultAt", "I", false)
  | 18 => ("CoffinWaysModel", "latest", "I", false)
  | 19 => ("CoffinWaysModel", "fars", "[I", true)
  | 20 => ("CoffinWaysModel", "way", "I", false)
  | 21 => ("CoffinWaysModel", "begins", "I", false)
  | 22 => ("CoffinWaysModel", "length", "I", false)
  | 23 => ("CoffinWaysModel", "isKept", "[Z", true)
  | 24 => ("CoffinWaysModel", "kept", "[I", true)
  | 25 => ("CoffinWaysModel", "trace", "[I", true)
  | _ => ("CoffinWaysModel", "traced", "I", false)
def tyX12 : Nat → FieldType := fun k => match k with
  | 0 => .int
  | 1 => .int
  | 2 => .array .int
  | 3 => .array .int
  | 4 => .array .int
  | 5 => .array .int
  | 6 => .array .int
  | 7 => .array .int
  | 8 => .array .int
  | 9 => .int
  | 10 => .array .int
  | 11 => .int
  | 12 => .int
  | 13 => .int
  | 14 => .int
  | 15 => .int
  | 16 => .int
  | 17 => .int
  | 18 => .int
  | 19 => .array .int
  | 20 => .int
  | 21 => .int
  | 22 => .int
  | 23 => .array .boolean
  | 24 => .array .int
  | 25 => .array .int
  | _ => .int
abbrev wsX120 : List Cond := u_ws RX12 TX12 27
theorem nmX12 : ∀ a, a < 27 → ∀ b, b < 27 → a ≠ b → (TX12 a).2.1 ≠ (TX12 b).2.1 := by decide +kernel
theorem tyX12_ok : ∀ k, k < 27 → parseFieldDescriptor (TX12 k).2.2.1 = some (tyX12 k) := by decide +kernel
abbrev cX12_init : ByteArray := prog_14_method_1_code
def yX12_init : MethodName := ⟨RX12, "<init>", "()V"⟩
abbrev cX12_in : ByteArray := prog_14_method_3_code
def yX12_in : MethodName := ⟨RX12, "in", "(JJJ)Z"⟩
abbrev cX12_finding : ByteArray := prog_14_method_4_code
def yX12_finding : MethodName := ⟨RX12, "finding", "(I)I"⟩
abbrev cX12_isRow : ByteArray := prog_14_method_5_code
def yX12_isRow : MethodName := ⟨RX12, "isRow", "(I)Z"⟩
abbrev cX12_row : ByteArray := prog_14_method_6_code
def yX12_row : MethodName := ⟨RX12, "row", "(III)I"⟩
abbrev cX12_set : ByteArray := prog_14_method_7_code
def yX12_set : MethodName := ⟨RX12, "set", "(III)I"⟩
abbrev cX12_copy : ByteArray := prog_14_method_8_code
def yX12_copy : MethodName := ⟨RX12, "copy", "(IIIII)I"⟩
abbrev cX12_drop : ByteArray := prog_14_method_9_code
def yX12_drop : MethodName := ⟨RX12, "drop", "(I)I"⟩
abbrev cX12_feed : ByteArray := prog_14_method_10_code
def yX12_feed : MethodName := ⟨RX12, "feed", "(I)I"⟩
abbrev cX12_bad : ByteArray := prog_14_method_11_code
def yX12_bad : MethodName := ⟨RX12, "bad", "(I)V"⟩
abbrev cX12_nextToken : ByteArray := prog_14_method_12_code
def yX12_nextToken : MethodName := ⟨RX12, "nextToken", "()V"⟩
abbrev cX12_must : ByteArray := prog_14_method_13_code
def yX12_must : MethodName := ⟨RX12, "must", "(Z)V"⟩
abbrev cX12_isLetter : ByteArray := prog_14_method_14_code
def yX12_isLetter : MethodName := ⟨RX12, "isLetter", "(I)Z"⟩
abbrev cX12_number : ByteArray := prog_14_method_15_code
def yX12_number : MethodName := ⟨RX12, "number", "(II)I"⟩
abbrev cX12_mustSign : ByteArray := prog_14_method_16_code
def yX12_mustSign : MethodName := ⟨RX12, "mustSign", "(I)V"⟩
abbrev cX12_begin : ByteArray := prog_14_method_17_code
def yX12_begin : MethodName := ⟨RX12, "begin", "()V"⟩
abbrev cX12_failed : ByteArray := prog_14_method_18_code
def yX12_failed : MethodName := ⟨RX12, "failed", "()Z"⟩
abbrev cX12_fault : ByteArray := prog_14_method_19_code
def yX12_fault : MethodName := ⟨RX12, "fault", "()I"⟩
abbrev cX12_kindBy : ByteArray := prog_14_method_20_code
def yX12_kindBy : MethodName := ⟨RX12, "kindBy", "(I)I"⟩
abbrev cX12_isTold : ByteArray := prog_14_method_21_code
def yX12_isTold : MethodName := ⟨RX12, "isTold", "(IJ)Z"⟩
abbrev cX12_readPath : ByteArray := prog_14_method_22_code
def yX12_readPath : MethodName := ⟨RX12, "readPath", "()V"⟩
abbrev cX12_readWitness : ByteArray := prog_14_method_23_code
def yX12_readWitness : MethodName := ⟨RX12, "readWitness", "()V"⟩
abbrev cX12_parish : ByteArray := prog_14_method_24_code
def yX12_parish : MethodName := ⟨RX12, "parish", "()I"⟩
abbrev cX12_isThere : ByteArray := prog_14_method_25_code
def yX12_isThere : MethodName := ⟨RX12, "isThere", "()Z"⟩
abbrev cX12_isField : ByteArray := prog_14_method_26_code
def yX12_isField : MethodName := ⟨RX12, "isField", "(J)Z"⟩
abbrev cX12_isPath : ByteArray := prog_14_method_27_code
def yX12_isPath : MethodName := ⟨RX12, "isPath", "(I)Z"⟩
abbrev cX12_isWitness : ByteArray := prog_14_method_28_code
def yX12_isWitness : MethodName := ⟨RX12, "isWitness", "(I)Z"⟩
abbrev cX12_has : ByteArray := prog_14_method_29_code
def yX12_has : MethodName := ⟨RX12, "has", "(II)Z"⟩
abbrev cX12_bits : ByteArray := prog_14_method_30_code
def yX12_bits : MethodName := ⟨RX12, "bits", "(I)I"⟩
abbrev cX12_allPaths : ByteArray := prog_14_method_31_code
def yX12_allPaths : MethodName := ⟨RX12, "allPaths", "()I"⟩
abbrev cX12_other : ByteArray := prog_14_method_32_code
def yX12_other : MethodName := ⟨RX12, "other", "(II)I"⟩
abbrev cX12_layFars : ByteArray := prog_14_method_33_code
def yX12_layFars : MethodName := ⟨RX12, "layFars", "(I)V"⟩
abbrev cX12_layWay : ByteArray := prog_14_method_34_code
def yX12_layWay : MethodName := ⟨RX12, "layWay", "(II)V"⟩
abbrev cX12_isBurial : ByteArray := prog_14_method_35_code
def yX12_isBurial : MethodName := ⟨RX12, "isBurial", "(II)Z"⟩
abbrev cX12_pathsAt : ByteArray := prog_14_method_36_code
def yX12_pathsAt : MethodName := ⟨RX12, "pathsAt", "(I)I"⟩
abbrev cX12_sees : ByteArray := prog_14_method_37_code
def yX12_sees : MethodName := ⟨RX12, "sees", "(III)I"⟩
abbrev cX12_of : ByteArray := prog_14_method_38_code
def yX12_of : MethodName := ⟨RX12, "of", "([III)I"⟩
abbrev cX12_livesBy : ByteArray := prog_14_method_39_code
def yX12_livesBy : MethodName := ⟨RX12, "livesBy", "([III)Z"⟩
abbrev cX12_lives : ByteArray := prog_14_method_40_code
def yX12_lives : MethodName := ⟨RX12, "lives", "([II)Z"⟩
abbrev cX12_swears : ByteArray := prog_14_method_41_code
def yX12_swears : MethodName := ⟨RX12, "swears", "([II)I"⟩
abbrev cX12_waysOf : ByteArray := prog_14_method_42_code
def yX12_waysOf : MethodName := ⟨RX12, "waysOf", "([I)I"⟩
abbrev cX12_living : ByteArray := prog_14_method_43_code
def yX12_living : MethodName := ⟨RX12, "living", "([I)I"⟩
abbrev cX12_see : ByteArray := prog_14_method_44_code
def yX12_see : MethodName := ⟨RX12, "see", "([I)V"⟩
abbrev cX12_year : ByteArray := prog_14_method_45_code
def yX12_year : MethodName := ⟨RX12, "year", "([I)V"⟩
abbrev cX12_layThen : ByteArray := prog_14_method_46_code
def yX12_layThen : MethodName := ⟨RX12, "layThen", "()V"⟩
abbrev cX12_keep : ByteArray := prog_14_method_47_code
def yX12_keep : MethodName := ⟨RX12, "keep", "()V"⟩
abbrev cX12_bury : ByteArray := prog_14_method_48_code
def yX12_bury : MethodName := ⟨RX12, "bury", "(I)I"⟩
abbrev cX12_years : ByteArray := prog_14_method_49_code
def yX12_years : MethodName := ⟨RX12, "years", "(I)I"⟩
abbrev cX12_lock : ByteArray := prog_14_method_50_code
def yX12_lock : MethodName := ⟨RX12, "lock", "(II)I"⟩
abbrev cX12_follow : ByteArray := prog_14_method_51_code
def yX12_follow : MethodName := ⟨RX12, "follow", "(I)I"⟩
abbrev cX12_undo : ByteArray := prog_14_method_52_code
def yX12_undo : MethodName := ⟨RX12, "undo", "()I"⟩
abbrev cX12_witness : ByteArray := prog_14_method_53_code
def yX12_witness : MethodName := ⟨RX12, "witness", "(II)I"⟩
abbrev cX12_path : ByteArray := prog_14_method_54_code
def yX12_path : MethodName := ⟨RX12, "path", "(II)I"⟩
abbrev cX12_stand : ByteArray := prog_14_method_55_code
def yX12_stand : MethodName := ⟨RX12, "stand", "(I)I"⟩
abbrev cX12_ahead : ByteArray := prog_14_method_56_code
def yX12_ahead : MethodName := ⟨RX12, "ahead", "(I)I"⟩
abbrev cX12_lost : ByteArray := prog_14_method_57_code
def yX12_lost : MethodName := ⟨RX12, "lost", "(I)I"⟩
abbrev cX12_goes : ByteArray := prog_14_method_58_code
def yX12_goes : MethodName := ⟨RX12, "goes", "(II)I"⟩
abbrev cX12_comesThrough : ByteArray := prog_14_method_59_code
def yX12_comesThrough : MethodName := ⟨RX12, "comesThrough", "(II)Z"⟩
abbrev cX12_stop : ByteArray := prog_14_method_60_code
def yX12_stop : MethodName := ⟨RX12, "stop", "(II)I"⟩
abbrev cX12_must_ : ByteArray := prog_14_method_61_code
def yX12_must_ : MethodName := ⟨RX12, "must", "(I)I"⟩
abbrev cX12_live : ByteArray := prog_14_method_62_code
def yX12_live : MethodName := ⟨RX12, "live", "(II)I"⟩
abbrev cX12_waysBehind : ByteArray := prog_14_method_63_code
def yX12_waysBehind : MethodName := ⟨RX12, "waysBehind", "(I)I"⟩
abbrev cX12_makesBy : ByteArray := prog_14_method_64_code
def yX12_makesBy : MethodName := ⟨RX12, "makesBy", "(I)I"⟩
abbrev cX12_makes : ByteArray := prog_14_method_65_code
def yX12_makes : MethodName := ⟨RX12, "makes", "(I)I"⟩
abbrev cX12_best : ByteArray := prog_14_method_66_code
def yX12_best : MethodName := ⟨RX12, "best", "(I)I"⟩
abbrev cX12_from : ByteArray := prog_14_method_67_code
def yX12_from : MethodName := ⟨RX12, "from", "(II)I"⟩
abbrev cX12_who : ByteArray := prog_14_method_68_code
def yX12_who : MethodName := ⟨RX12, "who", "(IIII)I"⟩
abbrev cX12_far : ByteArray := prog_14_method_69_code
def yX12_far : MethodName := ⟨RX12, "far", "(I)I"⟩
abbrev cX12_pairs : ByteArray := prog_14_method_70_code
def yX12_pairs : MethodName := ⟨RX12, "pairs", "()I"⟩
abbrev cX12_locked : ByteArray := prog_14_method_71_code
def yX12_locked : MethodName := ⟨RX12, "locked", "(III)J"⟩
abbrev cX12_drawn : ByteArray := prog_14_method_72_code
def yX12_drawn : MethodName := ⟨RX12, "drawn", "(III)I"⟩
abbrev cX12_image : ByteArray := prog_14_method_73_code
def yX12_image : MethodName := ⟨RX12, "image", "(I)I"⟩
abbrev cX12_restore : ByteArray := prog_14_method_74_code
def yX12_restore : MethodName := ⟨RX12, "restore", "(I)I"⟩
abbrev cX12_isOf : ByteArray := prog_14_method_75_code
def yX12_isOf : MethodName := ⟨RX12, "isOf", "(II)Z"⟩
abbrev cX12_kind : ByteArray := prog_14_method_76_code
def yX12_kind : MethodName := ⟨RX12, "kind", "(I)I"⟩
abbrev cX12_as : ByteArray := prog_14_method_77_code
def yX12_as : MethodName := ⟨RX12, "as", "(II)I"⟩
abbrev cX12_began : ByteArray := prog_14_method_78_code
def yX12_began : MethodName := ⟨RX12, "began", "(I)V"⟩
abbrev cX12_plainSize : ByteArray := prog_14_method_79_code
def yX12_plainSize : MethodName := ⟨RX12, "plainSize", "(I)I"⟩
abbrev cX12_strangerSize : ByteArray := prog_14_method_80_code
def yX12_strangerSize : MethodName := ⟨RX12, "strangerSize", "(I)I"⟩
abbrev cX12_markOf : ByteArray := prog_14_method_81_code
def yX12_markOf : MethodName := ⟨RX12, "markOf", "(I)I"⟩
abbrev cX12_sizeOf : ByteArray := prog_14_method_82_code
def yX12_sizeOf : MethodName := ⟨RX12, "sizeOf", "(I)I"⟩
abbrev cX12_ask : ByteArray := prog_14_method_83_code
def yX12_ask : MethodName := ⟨RX12, "ask", "(II)I"⟩
abbrev cX12_trace : ByteArray := prog_14_method_84_code
def yX12_trace : MethodName := ⟨RX12, "trace", "(I)I"⟩
abbrev cX12_count : ByteArray := prog_14_method_85_code
def yX12_count : MethodName := ⟨RX12, "count", "(I)I"⟩
abbrev cX12_status : ByteArray := prog_14_method_86_code
def yX12_status : MethodName := ⟨RX12, "status", "()I"⟩
def RJ6 : String := "java/lang/Integer"
def TJ6 : u_T := fun k => match k with
  | _ => ("", "", "", false)
def tyJ6 : Nat → FieldType := fun k => match k with
  | _ => .int
abbrev wsJ60 : List Cond := u_ws RJ6 TJ6 0
theorem nmJ6 : ∀ a, a < 0 → ∀ b, b < 0 → a ≠ b → (TJ6 a).2.1 ≠ (TJ6 b).2.1 := by decide +kernel
theorem tyJ6_ok : ∀ k, k < 0 → parseFieldDescriptor (TJ6 k).2.2.1 = some (tyJ6 k) := by decide +kernel
abbrev cJ6_bitCount_0f7a4 : ByteArray := prog_15_method_49_code
def yJ6_bitCount_0f7a4 : MethodName := ⟨RJ6, "bitCount", "(I)I"⟩
def RJ9 : String := "java/lang/Math"
def TJ9 : u_T := fun k => match k with
  | _ => ("", "", "", false)
def tyJ9 : Nat → FieldType := fun k => match k with
  | _ => .int
abbrev wsJ90 : List Cond := u_ws RJ9 TJ9 0
theorem nmJ9 : ∀ a, a < 0 → ∀ b, b < 0 → a ≠ b → (TJ9 a).2.1 ≠ (TJ9 b).2.1 := by decide +kernel
theorem tyJ9_ok : ∀ k, k < 0 → parseFieldDescriptor (TJ9 k).2.2.1 = some (tyJ9 k) := by decide +kernel
abbrev cJ9_min_7cf53 : ByteArray := prog_16_method_69_code
def yJ9_min_7cf53 : MethodName := ⟨RJ9, "min", "(II)I"⟩
def RJ10 : String := "java/lang/System"
def TJ10 : u_T := fun k => match k with
  | _ => ("", "", "", false)
def tyJ10 : Nat → FieldType := fun k => match k with
  | _ => .int
abbrev wsJ100 : List Cond := u_ws RJ10 TJ10 0
theorem nmJ10 : ∀ a, a < 0 → ∀ b, b < 0 → a ≠ b → (TJ10 a).2.1 ≠ (TJ10 b).2.1 := by decide +kernel
theorem tyJ10_ok : ∀ k, k < 0 → parseFieldDescriptor (TJ10 k).2.2.1 = some (tyJ10 k) := by decide +kernel
def RL : String := "CoffinWaysLaw"
abbrev cL_law : ByteArray := code
def yL_law : MethodName := ⟨RL, "law", "([I)Z"⟩
abbrev vwCl : List vw_C := [(RX0, TX0, 5), (RX1, TX1, 0), (RX2, TX2, 8), (RX3, TX3, 0), (RX4, TX4, 0), (RX5, TX5, 15), (RX6, TX6, 3), (RX7, TX7, 0), (RX8, TX8, 0), (RX9, TX9, 8), (RX10, TX10, 0), (RX11, TX11, 13), (RX12, TX12, 27)]
end
section
def va_AOA (t : FieldType) (U : State) : Prop := (Cond.arrayOver (.array t)).before #[] U = true
theorem va_AOA.use {t : FieldType} {A : Array Value} {U : State} (h : va_AOA t U) : (Cond.arrayOver (.array t)).before A U = true := h
/-! ===== BEGIN new T[n][m]: the outer array a place, the inner ones among the pooled ===== -/
/-- f, but v at every address of l -/
def vr_up {α : Type} (f : Nat → α) (l : List Nat) (v : α) : Nat → α := fun a => if a ∈ l then v else f a
theorem vr_up_in {α : Type} {f : Nat → α} {l : List Nat} {v : α} {a : Nat} (h : a ∈ l) : vr_up f l v a = v := if_pos h
theorem vr_up_ne {α : Type} {f : Nat → α} {l : List Nat} {v : α} {a : Nat} (h : a ∉ l) : vr_up f l v a = f a := if_neg h
theorem vr_rows {L l : List Nat} {f : Nat → va_E} {e : va_E} (h : ∀ a, a ∈ l → a ∉ L) : va_pl L f ++ l.map (fun a => (a, e)) = va_pl (L ++ l) (vr_up f l e) := by
  unfold va_pl
  rw [List.map_append]
  congr 1
  · apply List.map_congr_left
    intro a ha
    rw [vr_up_ne (fun q => h a q ha)]
  · apply List.map_congr_left
    intro a ha
    rw [vr_up_in ha]
theorem vr_lay {X rows : va_W} {x : Nat × va_E} {pl : va_W} {D : va_G} {cl : List vw_C} {H : Heap} (hP : va_P D cl (((X ++ pl) ++ [x]) ++ rows) H) : va_P D cl ((X ++ [x]) ++ (pl ++ rows)) H := by
  rw [List.append_assoc (X ++ pl)] at hP
  have h := va_P.swap hP
  rw [← List.append_assoc X] at h
  have h2 := va_P.swap h
  rw [List.append_assoc (X ++ [x])] at h2
  exact h2
theorem vr_layD {X rows : va_W} {x : Nat × va_E} {pl : va_W} {A : Nat → Prop} (hD : va_D A (((X ++ pl) ++ [x]) ++ rows)) : va_D A ((X ++ [x]) ++ (pl ++ rows)) := by
  rw [List.append_assoc (X ++ pl)] at hD
  have h := va_D.swap hD
  rw [← List.append_assoc X] at h
  have h2 := va_D.swap h
  rw [List.append_assoc (X ++ [x])] at h2
  exact h2
theorem vr_outer (c : ClassId) (N h0 : Nat) : ∀ i : Nat, Jvm.Free.Multi.outerC c N h0 i = arrV c N (fun j => va_rf (if j < i then some (h0 + 1 + j) else none))
  | 0 => by
    show ({ cls := c, slots := Array.replicate N .null, vm := .none } : Cell) = _
    rw [arrV_new]
    refine congrArg (arrV c N) (funext fun j => ?_)
    simp [va_rf]
  | i + 1 => by
    show (Jvm.Free.Multi.outerC c N h0 i).setSlot i (.ref (h0 + 1 + i)) = _
    rw [vr_outer c N h0 i, arrV_store]
    refine congrArg (arrV c N) (funext fun j => ?_)
    by_cases e : j = i
    · subst e
      simp [updV, va_rf]
    · by_cases h : j < i
      · simp [updV, e, h, Nat.lt_succ_of_lt h]
      · simp [updV, e, h, show ¬ j < i + 1 by omega]
section VGM
variable {p : Program} {l : Launch} {e : Env} {R : Room} {s : State} {m : MethodId} {args : Array Value} {below : List Frame} {meth : Method} {c : Code} {H : Heap} {locs : List Loc} {cells slots : Nat} {Q : State → Prop}
variable {cc : ByteArray} {pc : Nat} {ls : Array Slot} {rest : List Value} {D : va_G} {cl : List vw_C} {A : Nat → Prop} {a : Nat} {tys : List (ClassId × FieldType)} {ws : va_W} {H0 : Heap}
theorem va_mna {X : va_W} {L : List Nat} {f : Nat → va_E} {cc : ByteArray} (hexec : p.tables.exec = Jvm.exec) (hb : c.code = cc) {own : String} {index : Nat} {ty : FieldType} {cy : ClassId} (hown : s.vm.findClass own = some m.cls) (hclink : (Cond.classLink own index ("[" ++ (FieldType.array ty).toString)).before args s = true) (hover : va_AOA ty s) (harr : (Cond.arrayClass ty).before args s = true) (hcy : s.vm.findClass (FieldType.array ty).toString = some cy)
    (hK : va_K D cl tys s) (hP : va_P D cl (X ++ va_pl L f) H) (hD : va_D A (X ++ va_pl L f)) (hS : va_S A H0 H locs) (hA : ∀ q, H0.size ≤ q → A q) {n k : Int32} {N' K' : Nat} {z : vp_A} (hn : ¬ n < 0) (hk : ¬ k < 0) (hN : n.toNatClampNeg = N') (hM : k.toNatClampNeg = K')
    (hb1 : N' * 4 ≤ 536870912) (hb2 : K' * componentBytes ty ≤ 536870912) (hb3 : K' ≤ 536870912) (hdf : fits ty (defaultValue ty) = true) (hdd : (defaultValue ty).isDefault = true) (hcells : cells + (1 + N') ≤ R.cells) (hslots : slots + (N' + N' * K') ≤ R.slots) (hz : ∀ c : ClassId, Jvm.Free.Multi.innerC c K' (defaultValue ty) = vp_cell c z) (hdg : decode cc pc = .ok (.multianewarray index 2, 4))
    (kk : ∀ (q : Nat) (r : Nat → Nat) (cA : ClassId) (H1 : Heap), (∀ i j : Nat, i < N' → j < N' → r i = r j → i = j) → (∀ i : Nat, i < N' → r i ∉ L) → va_K D cl (tys ++ [(cA, .array ty)]) s →
      va_P D cl ((X ++ [(q, .inl (cA, N', .inr (.inr (.inr (.inr (fun i => if i < N' then some (r i) else none))))))]) ++ va_pl (L ++ (List.range N').map r) (vr_up f ((List.range N').map r) (.inl (cy, z)))) H1 → va_D A ((X ++ [(q, .inl (cA, N', .inr (.inr (.inr (.inr (fun i => if i < N' then some (r i) else none))))))]) ++ va_pl (L ++ (List.range N').map r) (vr_up f ((List.range N').map r) (.inl (cy, z)))) → va_S A H0 H1 locs →
      W p l e R s m args below meth c H1 locs (cells + 1 + N') (slots + N' + N' * K') Q (F0 m (pc + 4) ls (.ref q :: rest))) : W p l e R s m args below meth c H locs cells slots Q (F0 m pc ls (.int k :: .int n :: rest)) := by
  subst hN
  subst hM
  intro T hT Xs
  obtain ⟨vm₁, cA, comp, -, fA, fC, hO, -, X', step⟩ := Xs.multianewarray2F hexec hown hclink (va_AOA.use hover) harr (g := F0 m pc ls (.int k :: .int n :: rest)) rfl (by rw [hb]; exact hdg) rfl hn hk hb1 hb2 hb3 hdf hdd hcells hslots
  have ec : some cy = some comp := hcy.symm.trans fC
  cases ec
  generalize hF : Jvm.Free.Multi.fill (T.setVm vm₁) cA cy n.toNatClampNeg k.toNatClampNeg (defaultValue ty) n.toNatClampNeg = F at X' step
  have hTh : (T.setVm vm₁).heap = H := hT
  obtain ⟨f1, f2, -, -⟩ := Jvm.Free.Multi.fill_facts (T.setVm vm₁) cA cy n.toNatClampNeg k.toNatClampNeg (defaultValue ty) n.toNatClampNeg
  rw [hF, hTh] at f1 f2
  have hold : ∀ x : Nat, x < H.size → F.heap[x]? = H[x]? := fun x hx => by
    have := Jvm.Free.Multi.fill_old (T.setVm vm₁) cA cy n.toNatClampNeg k.toNatClampNeg (defaultValue ty) (a := x) (by rw [hTh]; exact hx) n.toNatClampNeg
    rw [hF, hTh] at this
    exact this
  have hrow : ∀ j : Nat, j < n.toNatClampNeg → F.heap[H.size + 1 + j]? = some (vp_cell cy z) := fun j hj => by
    have := Jvm.Free.Multi.fill_inner (T.setVm vm₁) cA cy n.toNatClampNeg k.toNatClampNeg (defaultValue ty) n.toNatClampNeg j hj
    rw [hF, hTh, hz] at this
    exact this
  have hout : Jvm.Free.Multi.outerC cA n.toNatClampNeg H.size n.toNatClampNeg = vp_cell cA (n.toNatClampNeg, .inr (.inr (.inr (.inr (fun i => if i < n.toNatClampNeg then some (H.size + 1 + i) else none))))) := by
    rw [vp_cell_q]
    exact vr_outer cA n.toNatClampNeg H.size n.toNatClampNeg
  rw [hout] at f2
  have hlt : ∀ a, a ∈ L → a < H.size := fun a ha => by
    obtain ⟨k9, hk9⟩ := va_pl_get (X := X) (f := f) ha
    exact (hP k9 _ hk9).lt
  have hnl : ∀ i : Nat, i < n.toNatClampNeg → H.size + 1 + i ∉ L := fun i _ h => by
    have := hlt _ h
    omega
  have hnm : ∀ a, a ∈ (List.range n.toNatClampNeg).map (fun i => H.size + 1 + i) → a ∉ L := fun a ha h => by
    obtain ⟨i, -, rfl⟩ := List.mem_map.mp ha
    have := hlt _ h
    omega
  have hP0 : va_P D cl (X ++ va_pl L f) F.heap := hP.kept (fun k9 x hx => hold x.1 ((hP k9 x hx).lt))
  have hP1 : va_P D cl ((X ++ va_pl L f) ++ [(H.size, .inl (cA, n.toNatClampNeg, .inr (.inr (.inr (.inr (fun i => if i < n.toNatClampNeg then some (H.size + 1 + i) else none))))))]) F.heap := hP0.app (fun k9 x hx => by
    have h0 : k9 < 1 := (List.getElem?_eq_some_iff.mp hx).1
    rw [show k9 = 0 by omega] at hx
    cases hx
    exact f2)
  have hP2 : va_P D cl (((X ++ va_pl L f) ++ [(H.size, .inl (cA, n.toNatClampNeg, .inr (.inr (.inr (.inr (fun i => if i < n.toNatClampNeg then some (H.size + 1 + i) else none))))))]) ++ ((List.range n.toNatClampNeg).map (fun i => H.size + 1 + i)).map (fun a => (a, .inl (cy, z)))) F.heap := hP1.app (fun k9 x hx => by
    obtain ⟨a, ha, rfl⟩ := List.mem_map.mp (List.mem_of_getElem? hx)
    obtain ⟨i, hi, rfl⟩ := List.mem_map.mp ha
    exact hrow i (List.mem_range.mp hi))
  have hD2 : va_D A (((X ++ va_pl L f) ++ [(H.size, .inl (cA, n.toNatClampNeg, .inr (.inr (.inr (.inr (fun i => if i < n.toNatClampNeg then some (H.size + 1 + i) else none))))))]) ++ ((List.range n.toNatClampNeg).map (fun i => H.size + 1 + i)).map (fun a => (a, .inl (cy, z)))) := by
    have hD1 := hD.push (e := .inl (cA, n.toNatClampNeg, .inr (.inr (.inr (.inr (fun i => if i < n.toNatClampNeg then some (H.size + 1 + i) else none)))))) hP rfl (hA _ hS.1)
    generalize hW1 : (X ++ va_pl L f) ++ [(H.size, .inl (cA, n.toNatClampNeg, .inr (.inr (.inr (.inr (fun i => if i < n.toNatClampNeg then some (H.size + 1 + i) else none))))))] = W1 at hD1 hP1 ⊢
    have hle : ∀ (k9 : Nat) (x : Nat × va_E), W1[k9]? = some x → x.1 ≤ H.size := fun k9 x hx => by
      rw [← hW1] at hx
      by_cases hl : k9 < (X ++ va_pl L f).length
      · rw [List.getElem?_append_left hl] at hx
        exact Nat.le_of_lt ((hP k9 x hx).lt)
      · rw [List.getElem?_append_right (by omega)] at hx
        have h0 : k9 - (X ++ va_pl L f).length < 1 := (List.getElem?_eq_some_iff.mp hx).1
        rw [show k9 - (X ++ va_pl L f).length = 0 by omega] at hx
        cases hx
        exact Nat.le_refl _
    have hr : ∀ (k9 : Nat) (x : Nat × va_E), (((List.range n.toNatClampNeg).map (fun i => H.size + 1 + i)).map (fun a => ((a, .inl (cy, z)) : Nat × va_E)))[k9]? = some x → x.1 = H.size + 1 + k9 := fun k9 x hx => by
      rw [List.getElem?_map, List.getElem?_map] at hx
      by_cases h9 : k9 < n.toNatClampNeg
      · rw [List.getElem?_range h9] at hx
        cases hx
        rfl
      · have hn0 : (List.range n.toNatClampNeg)[k9]? = none := List.getElem?_eq_none (by rw [List.length_range]; omega)
        rw [hn0] at hx
        cases hx
    refine ⟨fun i j x y hi hj hxy => ?_, fun k9 x hx => ?_⟩
    · by_cases h1 : i < W1.length <;> by_cases h2 : j < W1.length
      · rw [List.getElem?_append_left h1] at hi
        rw [List.getElem?_append_left h2] at hj
        exact hD1.1 i j x y hi hj hxy
      · rw [List.getElem?_append_left h1] at hi
        rw [List.getElem?_append_right (by omega)] at hj
        have := hle _ _ hi
        have := hr _ _ hj
        omega
      · rw [List.getElem?_append_right (by omega)] at hi
        rw [List.getElem?_append_left h2] at hj
        have := hle _ _ hj
        have := hr _ _ hi
        omega
      · rw [List.getElem?_append_right (by omega)] at hi hj
        have := hr _ _ hi
        have := hr _ _ hj
        omega
    · by_cases h1 : k9 < W1.length
      · rw [List.getElem?_append_left h1] at hx
        exact hD1.2 k9 x hx
      · rw [List.getElem?_append_right (by omega)] at hx
        have := hr _ _ hx
        exact hA _ (by have := hS.1; omega)
  have hAr : ArrOfT s cA (.array ty) := fun N9 z9 => by
    obtain ⟨-, k9, hk9, cm9, hkk9⟩ := (hO 0 0 0).1
    exact ⟨(fun q hq => by cases hq), k9, hk9, cm9, hkk9⟩
  have hK2 : va_K D cl (tys ++ [(cA, .array ty)]) s := ⟨hK.1, fun k9 x hx => by
    by_cases hl : k9 < tys.length
    · rw [List.getElem?_append_left hl] at hx
      exact hK.2 k9 x hx
    · rw [List.getElem?_append_right (by omega)] at hx
      have h0 : k9 - tys.length < 1 := (List.getElem?_eq_some_iff.mp hx).1
      rw [show k9 - tys.length = 0 by omega] at hx
      cases hx
      exact ⟨hAr, fA⟩⟩
  obtain ⟨t, a1, b1⟩ := kk H.size (fun i => H.size + 1 + i) cA F.heap (fun i j _ _ h => by have h9 : H.size + 1 + i = H.size + 1 + j := h; omega) hnl hK2 (by rw [← vr_rows hnm]; exact vr_lay hP2) (by rw [← vr_rows hnm]; exact vr_layD hD2) ⟨by rw [f1]; have := hS.1; omega, fun x h1 h2 => (hold x (Nat.lt_of_lt_of_le h1 hS.1)).trans (hS.2.1 x h1 h2), hS.2.2⟩ F rfl X'
  refine ⟨t, step t ?_, b1⟩
  have e : T.heap.size = H.size := by rw [hT]
  rw [e]
  exact a1
end VGM
/-! ===== END ===== -/
end
section
theorem dX0_init_0 : decode cX0_init 0 = .ok (.aload_n 0, 1) := by decide +kernel
theorem dX0_init_1 : decode cX0_init 1 = .ok (.invokespecial 3, 3) := by decide +kernel
theorem dX0_init_4 : decode cX0_init 4 = .ok (.aload_n 0, 1) := by decide +kernel
theorem dX0_init_5 : decode cX0_init 5 = .ok (.bipush 16, 2) := by decide +kernel
theorem dX0_init_7 : decode cX0_init 7 = .ok (.newarray .int, 2) := by decide +kernel
theorem dX0_init_9 : decode cX0_init 9 = .ok (.putfield 9, 3) := by decide +kernel
theorem dX0_init_12 : decode cX0_init 12 = .ok (.return_, 1) := by decide +kernel
theorem dX0_begin_0 : decode cX0_begin 0 = .ok (.aload_n 0, 1) := by decide +kernel
theorem dX0_begin_1 : decode cX0_begin 1 = .ok (.getfield 15, 3) := by decide +kernel
theorem dX0_begin_4 : decode cX0_begin 4 = .ok (.bipush 16, 2) := by decide +kernel
theorem dX0_begin_6 : decode cX0_begin 6 = .ok (.if_icmp .ge 23, 3) := by decide +kernel
theorem dX0_begin_9 : decode cX0_begin 9 = .ok (.aload_n 0, 1) := by decide +kernel
theorem dX0_begin_10 : decode cX0_begin 10 = .ok (.getfield 9, 3) := by decide +kernel
theorem dX0_begin_13 : decode cX0_begin 13 = .ok (.aload_n 0, 1) := by decide +kernel
theorem dX0_begin_14 : decode cX0_begin 14 = .ok (.getfield 15, 3) := by decide +kernel
theorem dX0_begin_17 : decode cX0_begin 17 = .ok (.iload_n 1, 1) := by decide +kernel
theorem dX0_begin_18 : decode cX0_begin 18 = .ok (.iastore, 1) := by decide +kernel
theorem dX0_begin_19 : decode cX0_begin 19 = .ok (.aload_n 0, 1) := by decide +kernel
theorem dX0_begin_20 : decode cX0_begin 20 = .ok (.dup, 1) := by decide +kernel
theorem dX0_begin_21 : decode cX0_begin 21 = .ok (.getfield 15, 3) := by decide +kernel
theorem dX0_begin_24 : decode cX0_begin 24 = .ok (.iconst 1, 1) := by decide +kernel
theorem dX0_begin_25 : decode cX0_begin 25 = .ok (.iadd, 1) := by decide +kernel
theorem dX0_begin_26 : decode cX0_begin 26 = .ok (.putfield 15, 3) := by decide +kernel
theorem dX0_begin_29 : decode cX0_begin 29 = .ok (.return_, 1) := by decide +kernel
theorem dX1_init_0 : decode cX1_init 0 = .ok (.aload_n 0, 1) := by decide +kernel
theorem dX1_init_1 : decode cX1_init 1 = .ok (.invokespecial 1, 3) := by decide +kernel
theorem dX1_init_4 : decode cX1_init 4 = .ok (.return_, 1) := by decide +kernel
theorem dX1_span_0 : decode cX1_span 0 = .ok (.iload_n 1, 1) := by decide +kernel
theorem dX1_span_1 : decode cX1_span 1 = .ok (.bipush 9, 2) := by decide +kernel
theorem dX1_span_3 : decode cX1_span 3 = .ok (.iadd, 1) := by decide +kernel
theorem dX1_span_4 : decode cX1_span 4 = .ok (.ireturn, 1) := by decide +kernel
theorem dX1_sees_0 : decode cX1_sees 0 = .ok (.aload_n 0, 1) := by decide +kernel
theorem dX1_sees_1 : decode cX1_sees 1 = .ok (.aload_n 1, 1) := by decide +kernel
theorem dX1_sees_2 : decode cX1_sees 2 = .ok (.iload_n 2, 1) := by decide +kernel
theorem dX1_sees_3 : decode cX1_sees 3 = .ok (.aload_n 3, 1) := by decide +kernel
theorem dX1_sees_4 : decode cX1_sees 4 = .ok (.invokespecial 7, 3) := by decide +kernel
theorem dX1_sees_7 : decode cX1_sees 7 = .ok (.ifCond .ne 11, 3) := by decide +kernel
theorem dX1_sees_10 : decode cX1_sees 10 = .ok (.iload_n 2, 1) := by decide +kernel
theorem dX1_sees_11 : decode cX1_sees 11 = .ok (.aload_n 1, 1) := by decide +kernel
theorem dX1_sees_12 : decode cX1_sees 12 = .ok (.getfield 11, 3) := by decide +kernel
theorem dX1_sees_15 : decode cX1_sees 15 = .ok (.if_icmp .ne 7, 3) := by decide +kernel
theorem dX1_sees_18 : decode cX1_sees 18 = .ok (.iconst 1, 1) := by decide +kernel
theorem dX1_sees_19 : decode cX1_sees 19 = .ok (.goto 4, 3) := by decide +kernel
theorem dX1_sees_22 : decode cX1_sees 22 = .ok (.iconst 0, 1) := by decide +kernel
theorem dX1_sees_23 : decode cX1_sees 23 = .ok (.istore 4, 2) := by decide +kernel
theorem dX1_sees_25 : decode cX1_sees 25 = .ok (.iload 4, 2) := by decide +kernel
theorem dX1_sees_27 : decode cX1_sees 27 = .ok (.ifCond .eq 10, 3) := by decide +kernel
theorem dX1_sees_30 : decode cX1_sees 30 = .ok (.aload_n 3, 1) := by decide +kernel
theorem dX1_sees_31 : decode cX1_sees 31 = .ok (.getfield 17, 3) := by decide +kernel
theorem dX1_sees_34 : decode cX1_sees 34 = .ok (.goto 4, 3) := by decide +kernel
theorem dX1_sees_37 : decode cX1_sees 37 = .ok (.iconst 0, 1) := by decide +kernel
theorem dX1_sees_38 : decode cX1_sees 38 = .ok (.ireturn, 1) := by decide +kernel
theorem dX1_size_0 : decode cX1_size 0 = .ok (.aload_n 1, 1) := by decide +kernel
theorem dX1_size_1 : decode cX1_size 1 = .ok (.bipush 12, 2) := by decide +kernel
theorem dX1_size_3 : decode cX1_size 3 = .ok (.invokevirtual 22, 3) := by decide +kernel
theorem dX1_size_6 : decode cX1_size 6 = .ok (.aload_n 0, 1) := by decide +kernel
theorem dX1_size_7 : decode cX1_size 7 = .ok (.aload_n 1, 1) := by decide +kernel
theorem dX1_size_8 : decode cX1_size 8 = .ok (.invokespecial 28, 3) := by decide +kernel
theorem dX1_size_11 : decode cX1_size 11 = .ok (.ineg, 1) := by decide +kernel
theorem dX1_size_12 : decode cX1_size 12 = .ok (.ireturn, 1) := by decide +kernel
theorem dX1_mark_0 : decode cX1_mark 0 = .ok (.aload_n 1, 1) := by decide +kernel
theorem dX1_mark_1 : decode cX1_mark 1 = .ok (.bipush 24, 2) := by decide +kernel
theorem dX1_mark_3 : decode cX1_mark 3 = .ok (.invokevirtual 22, 3) := by decide +kernel
theorem dX1_mark_6 : decode cX1_mark 6 = .ok (.iconst 2, 1) := by decide +kernel
theorem dX1_mark_7 : decode cX1_mark 7 = .ok (.aload_n 0, 1) := by decide +kernel
theorem dX1_mark_8 : decode cX1_mark 8 = .ok (.aload_n 1, 1) := by decide +kernel
theorem dX1_mark_9 : decode cX1_mark 9 = .ok (.invokespecial 32, 3) := by decide +kernel
theorem dX1_mark_12 : decode cX1_mark 12 = .ok (.imul, 1) := by decide +kernel
theorem dX1_mark_13 : decode cX1_mark 13 = .ok (.ireturn, 1) := by decide +kernel
theorem dX2_init_0 : decode cX2_init 0 = .ok (.aload_n 0, 1) := by decide +kernel
theorem dX2_init_1 : decode cX2_init 1 = .ok (.invokespecial 3, 3) := by decide +kernel
theorem dX2_init_4 : decode cX2_init 4 = .ok (.aload_n 0, 1) := by decide +kernel
theorem dX2_init_5 : decode cX2_init 5 = .ok (.bipush 8, 2) := by decide +kernel
theorem dX2_init_7 : decode cX2_init 7 = .ok (.newarray .int, 2) := by decide +kernel
theorem dX2_init_9 : decode cX2_init 9 = .ok (.putfield 9, 3) := by decide +kernel
theorem dX2_init_12 : decode cX2_init 12 = .ok (.aload_n 0, 1) := by decide +kernel
theorem dX2_init_13 : decode cX2_init 13 = .ok (.sipush 256, 3) := by decide +kernel
theorem dX2_init_16 : decode cX2_init 16 = .ok (.newarray .int, 2) := by decide +kernel
theorem dX2_init_18 : decode cX2_init 18 = .ok (.putfield 15, 3) := by decide +kernel
theorem dX2_init_21 : decode cX2_init 21 = .ok (.aload_n 0, 1) := by decide +kernel
theorem dX2_init_22 : decode cX2_init 22 = .ok (.sipush 256, 3) := by decide +kernel
theorem dX2_init_25 : decode cX2_init 25 = .ok (.newarray .long, 2) := by decide +kernel
theorem dX2_init_27 : decode cX2_init 27 = .ok (.putfield 18, 3) := by decide +kernel
theorem dX2_init_30 : decode cX2_init 30 = .ok (.aload_n 0, 1) := by decide +kernel
theorem dX2_init_31 : decode cX2_init 31 = .ok (.bipush 13, 2) := by decide +kernel
theorem dX2_init_33 : decode cX2_init 33 = .ok (.newarray .long, 2) := by decide +kernel
theorem dX2_init_35 : decode cX2_init 35 = .ok (.putfield 22, 3) := by decide +kernel
theorem dX2_init_38 : decode cX2_init 38 = .ok (.aload_n 0, 1) := by decide +kernel
theorem dX2_init_39 : decode cX2_init 39 = .ok (.bipush 13, 2) := by decide +kernel
theorem dX2_init_41 : decode cX2_init 41 = .ok (.newarray .long, 2) := by decide +kernel
theorem dX2_init_43 : decode cX2_init 43 = .ok (.putfield 25, 3) := by decide +kernel
theorem dX2_init_46 : decode cX2_init 46 = .ok (.lconst 1, 1) := by decide +kernel
theorem dX2_init_47 : decode cX2_init 47 = .ok (.lstore_n 1, 1) := by decide +kernel
theorem dX2_init_48 : decode cX2_init 48 = .ok (.iconst 0, 1) := by decide +kernel
theorem dX2_init_49 : decode cX2_init 49 = .ok (.istore_n 3, 1) := by decide +kernel
theorem dX2_init_50 : decode cX2_init 50 = .ok (.iload_n 3, 1) := by decide +kernel
theorem dX2_init_51 : decode cX2_init 51 = .ok (.bipush 12, 2) := by decide +kernel
theorem dX2_init_53 : decode cX2_init 53 = .ok (.if_icmp .gt 22, 3) := by decide +kernel
theorem dX2_init_56 : decode cX2_init 56 = .ok (.aload_n 0, 1) := by decide +kernel
theorem dX2_init_57 : decode cX2_init 57 = .ok (.getfield 22, 3) := by decide +kernel
theorem dX2_init_60 : decode cX2_init 60 = .ok (.iload_n 3, 1) := by decide +kernel
theorem dX2_init_61 : decode cX2_init 61 = .ok (.lload_n 1, 1) := by decide +kernel
theorem dX2_init_62 : decode cX2_init 62 = .ok (.lastore, 1) := by decide +kernel
theorem dX2_init_63 : decode cX2_init 63 = .ok (.lload_n 1, 1) := by decide +kernel
theorem dX2_init_64 : decode cX2_init 64 = .ok (.ldc2_w 28, 3) := by decide +kernel
theorem dX2_init_67 : decode cX2_init 67 = .ok (.lmul, 1) := by decide +kernel
theorem dX2_init_68 : decode cX2_init 68 = .ok (.lstore_n 1, 1) := by decide +kernel
theorem dX2_init_69 : decode cX2_init 69 = .ok (.iinc 3 1, 3) := by decide +kernel
theorem dX2_init_72 : decode cX2_init 72 = .ok (.goto (-22), 3) := by decide +kernel
theorem dX2_init_75 : decode cX2_init 75 = .ok (.return_, 1) := by decide +kernel
theorem dX2_isBurial_0 : decode cX2_isBurial 0 = .ok (.iload_n 2, 1) := by decide +kernel
theorem dX2_isBurial_1 : decode cX2_isBurial 1 = .ok (.aload_n 1, 1) := by decide +kernel
theorem dX2_isBurial_2 : decode cX2_isBurial 2 = .ok (.getfield 30, 3) := by decide +kernel
theorem dX2_isBurial_5 : decode cX2_isBurial 5 = .ok (.if_icmp .eq 20, 3) := by decide +kernel
theorem dX2_isBurial_8 : decode cX2_isBurial 8 = .ok (.aload_n 0, 1) := by decide +kernel
theorem dX2_isBurial_9 : decode cX2_isBurial 9 = .ok (.aload_n 1, 1) := by decide +kernel
theorem dX2_isBurial_10 : decode cX2_isBurial 10 = .ok (.aload_n 1, 1) := by decide +kernel
theorem dX2_isBurial_11 : decode cX2_isBurial 11 = .ok (.invokevirtual 36, 3) := by decide +kernel
theorem dX2_isBurial_14 : decode cX2_isBurial 14 = .ok (.iload_n 2, 1) := by decide +kernel
theorem dX2_isBurial_15 : decode cX2_isBurial 15 = .ok (.invokevirtual 40, 3) := by decide +kernel
theorem dX2_isBurial_18 : decode cX2_isBurial 18 = .ok (.ifCond .eq 7, 3) := by decide +kernel
theorem dX2_isBurial_21 : decode cX2_isBurial 21 = .ok (.iconst 1, 1) := by decide +kernel
theorem dX2_isBurial_22 : decode cX2_isBurial 22 = .ok (.goto 4, 3) := by decide +kernel
theorem dX2_isBurial_25 : decode cX2_isBurial 25 = .ok (.iconst 0, 1) := by decide +kernel
theorem dX2_isBurial_26 : decode cX2_isBurial 26 = .ok (.ireturn, 1) := by decide +kernel
theorem dX2_carry_0 : decode cX2_carry 0 = .ok (.aload_n 0, 1) := by decide +kernel
theorem dX2_carry_1 : decode cX2_carry 1 = .ok (.aload_n 1, 1) := by decide +kernel
theorem dX2_carry_2 : decode cX2_carry 2 = .ok (.iload_n 2, 1) := by decide +kernel
theorem dX2_carry_3 : decode cX2_carry 3 = .ok (.invokevirtual 44, 3) := by decide +kernel
theorem dX2_carry_6 : decode cX2_carry 6 = .ok (.aload_n 0, 1) := by decide +kernel
theorem dX2_carry_7 : decode cX2_carry 7 = .ok (.aload_n 0, 1) := by decide +kernel
theorem dX2_carry_8 : decode cX2_carry 8 = .ok (.getfield 9, 3) := by decide +kernel
theorem dX2_carry_11 : decode cX2_carry 11 = .ok (.iload_n 3, 1) := by decide +kernel
theorem dX2_carry_12 : decode cX2_carry 12 = .ok (.iaload, 1) := by decide +kernel
theorem dX2_carry_13 : decode cX2_carry 13 = .ok (.putfield 48, 3) := by decide +kernel
theorem dX2_carry_16 : decode cX2_carry 16 = .ok (.aload_n 0, 1) := by decide +kernel
theorem dX2_carry_17 : decode cX2_carry 17 = .ok (.iconst 0, 1) := by decide +kernel
theorem dX2_carry_18 : decode cX2_carry 18 = .ok (.putfield 51, 3) := by decide +kernel
theorem dX2_carry_21 : decode cX2_carry 21 = .ok (.aload_n 0, 1) := by decide +kernel
theorem dX2_carry_22 : decode cX2_carry 22 = .ok (.iconst 0, 1) := by decide +kernel
theorem dX2_carry_23 : decode cX2_carry 23 = .ok (.putfield 54, 3) := by decide +kernel
theorem dX2_carry_26 : decode cX2_carry 26 = .ok (.aload_n 0, 1) := by decide +kernel
theorem dX2_carry_27 : decode cX2_carry 27 = .ok (.getfield 48, 3) := by decide +kernel
theorem dX2_carry_30 : decode cX2_carry 30 = .ok (.iconst (-1), 1) := by decide +kernel
theorem dX2_carry_31 : decode cX2_carry 31 = .ok (.if_icmp .ne 5, 3) := by decide +kernel
theorem dX2_carry_34 : decode cX2_carry 34 = .ok (.iconst 0, 1) := by decide +kernel
theorem dX2_carry_35 : decode cX2_carry 35 = .ok (.ireturn, 1) := by decide +kernel
theorem dX2_carry_36 : decode cX2_carry 36 = .ok (.iload_n 3, 1) := by decide +kernel
theorem dX2_carry_37 : decode cX2_carry 37 = .ok (.istore 4, 2) := by decide +kernel
theorem dX2_carry_39 : decode cX2_carry 39 = .ok (.iconst 0, 1) := by decide +kernel
theorem dX2_carry_40 : decode cX2_carry 40 = .ok (.istore 5, 2) := by decide +kernel
theorem dX2_carry_42 : decode cX2_carry 42 = .ok (.iload 5, 2) := by decide +kernel
theorem dX2_carry_44 : decode cX2_carry 44 = .ok (.bipush 8, 2) := by decide +kernel
theorem dX2_carry_46 : decode cX2_carry 46 = .ok (.if_icmp .ge 85, 3) := by decide +kernel
theorem dX2_carry_49 : decode cX2_carry 49 = .ok (.iload 4, 2) := by decide +kernel
theorem dX2_carry_51 : decode cX2_carry 51 = .ok (.aload_n 1, 1) := by decide +kernel
theorem dX2_carry_52 : decode cX2_carry 52 = .ok (.getfield 30, 3) := by decide +kernel
theorem dX2_carry_55 : decode cX2_carry 55 = .ok (.if_icmp .eq 76, 3) := by decide +kernel
theorem dX2_carry_58 : decode cX2_carry 58 = .ok (.aload_n 0, 1) := by decide +kernel
theorem dX2_carry_59 : decode cX2_carry 59 = .ok (.aload_n 1, 1) := by decide +kernel
theorem dX2_carry_60 : decode cX2_carry 60 = .ok (.iload_n 2, 1) := by decide +kernel
theorem dX2_carry_61 : decode cX2_carry 61 = .ok (.iload 4, 2) := by decide +kernel
theorem dX2_carry_63 : decode cX2_carry 63 = .ok (.invokevirtual 57, 3) := by decide +kernel
theorem dX2_carry_66 : decode cX2_carry 66 = .ok (.istore 6, 2) := by decide +kernel
theorem dX2_carry_68 : decode cX2_carry 68 = .ok (.iload 6, 2) := by decide +kernel
theorem dX2_carry_70 : decode cX2_carry 70 = .ok (.bipush 8, 2) := by decide +kernel
theorem dX2_carry_72 : decode cX2_carry 72 = .ok (.if_icmp .ne 5, 3) := by decide +kernel
theorem dX2_carry_75 : decode cX2_carry 75 = .ok (.iconst 0, 1) := by decide +kernel
theorem dX2_carry_76 : decode cX2_carry 76 = .ok (.ireturn, 1) := by decide +kernel
theorem dX2_carry_77 : decode cX2_carry 77 = .ok (.aload_n 1, 1) := by decide +kernel
theorem dX2_carry_78 : decode cX2_carry 78 = .ok (.iload 4, 2) := by decide +kernel
theorem dX2_carry_80 : decode cX2_carry 80 = .ok (.invokevirtual 61, 3) := by decide +kernel
theorem dX2_carry_83 : decode cX2_carry 83 = .ok (.aload_n 1, 1) := by decide +kernel
theorem dX2_carry_84 : decode cX2_carry 84 = .ok (.iload 6, 2) := by decide +kernel
theorem dX2_carry_86 : decode cX2_carry 86 = .ok (.invokevirtual 61, 3) := by decide +kernel
theorem dX2_carry_89 : decode cX2_carry 89 = .ok (.iand, 1) := by decide +kernel
theorem dX2_carry_90 : decode cX2_carry 90 = .ok (.istore 7, 2) := by decide +kernel
theorem dX2_carry_92 : decode cX2_carry 92 = .ok (.aload_n 0, 1) := by decide +kernel
theorem dX2_carry_93 : decode cX2_carry 93 = .ok (.iload 5, 2) := by decide +kernel
theorem dX2_carry_95 : decode cX2_carry 95 = .ok (.ifCond .ne 8, 3) := by decide +kernel
theorem dX2_carry_98 : decode cX2_carry 98 = .ok (.iload 7, 2) := by decide +kernel
theorem dX2_carry_100 : decode cX2_carry 100 = .ok (.goto 7, 3) := by decide +kernel
theorem dX2_carry_103 : decode cX2_carry 103 = .ok (.aload_n 0, 1) := by decide +kernel
theorem dX2_carry_104 : decode cX2_carry 104 = .ok (.getfield 54, 3) := by decide +kernel
theorem dX2_carry_107 : decode cX2_carry 107 = .ok (.putfield 54, 3) := by decide +kernel
theorem dX2_carry_110 : decode cX2_carry 110 = .ok (.aload_n 0, 1) := by decide +kernel
theorem dX2_carry_111 : decode cX2_carry 111 = .ok (.dup, 1) := by decide +kernel
theorem dX2_carry_112 : decode cX2_carry 112 = .ok (.getfield 51, 3) := by decide +kernel
theorem dX2_carry_115 : decode cX2_carry 115 = .ok (.iload 7, 2) := by decide +kernel
theorem dX2_carry_117 : decode cX2_carry 117 = .ok (.ior, 1) := by decide +kernel
theorem dX2_carry_118 : decode cX2_carry 118 = .ok (.putfield 51, 3) := by decide +kernel
theorem dX2_carry_121 : decode cX2_carry 121 = .ok (.iload 6, 2) := by decide +kernel
theorem dX2_carry_123 : decode cX2_carry 123 = .ok (.istore 4, 2) := by decide +kernel
theorem dX2_carry_125 : decode cX2_carry 125 = .ok (.iinc 5 1, 3) := by decide +kernel
theorem dX2_carry_128 : decode cX2_carry 128 = .ok (.goto (-86), 3) := by decide +kernel
theorem dX2_carry_131 : decode cX2_carry 131 = .ok (.iconst 1, 1) := by decide +kernel
theorem dX2_carry_132 : decode cX2_carry 132 = .ok (.ireturn, 1) := by decide +kernel
theorem dX2_measure_0 : decode cX2_measure 0 = .ok (.iconst 0, 1) := by decide +kernel
theorem dX2_measure_1 : decode cX2_measure 1 = .ok (.istore_n 3, 1) := by decide +kernel
theorem dX2_measure_2 : decode cX2_measure 2 = .ok (.iload_n 3, 1) := by decide +kernel
theorem dX2_measure_3 : decode cX2_measure 3 = .ok (.bipush 8, 2) := by decide +kernel
theorem dX2_measure_5 : decode cX2_measure 5 = .ok (.if_icmp .ge 16, 3) := by decide +kernel
theorem dX2_measure_8 : decode cX2_measure 8 = .ok (.aload_n 0, 1) := by decide +kernel
theorem dX2_measure_9 : decode cX2_measure 9 = .ok (.getfield 9, 3) := by decide +kernel
theorem dX2_measure_12 : decode cX2_measure 12 = .ok (.iload_n 3, 1) := by decide +kernel
theorem dX2_measure_13 : decode cX2_measure 13 = .ok (.iconst (-1), 1) := by decide +kernel
theorem dX2_measure_14 : decode cX2_measure 14 = .ok (.iastore, 1) := by decide +kernel
theorem dX2_measure_15 : decode cX2_measure 15 = .ok (.iinc 3 1, 3) := by decide +kernel
theorem dX2_measure_18 : decode cX2_measure 18 = .ok (.goto (-16), 3) := by decide +kernel
theorem dX2_measure_21 : decode cX2_measure 21 = .ok (.aload_n 0, 1) := by decide +kernel
theorem dX2_measure_22 : decode cX2_measure 22 = .ok (.getfield 9, 3) := by decide +kernel
theorem dX2_measure_25 : decode cX2_measure 25 = .ok (.aload_n 1, 1) := by decide +kernel
theorem dX2_measure_26 : decode cX2_measure 26 = .ok (.getfield 30, 3) := by decide +kernel
theorem dX2_measure_29 : decode cX2_measure 29 = .ok (.iconst 0, 1) := by decide +kernel
theorem dX2_measure_30 : decode cX2_measure 30 = .ok (.iastore, 1) := by decide +kernel
theorem dX2_measure_31 : decode cX2_measure 31 = .ok (.iconst 1, 1) := by decide +kernel
theorem dX2_measure_32 : decode cX2_measure 32 = .ok (.istore_n 3, 1) := by decide +kernel
theorem dX2_measure_33 : decode cX2_measure 33 = .ok (.iconst 0, 1) := by decide +kernel
theorem dX2_measure_34 : decode cX2_measure 34 = .ok (.istore 4, 2) := by decide +kernel
theorem dX2_measure_36 : decode cX2_measure 36 = .ok (.iload 4, 2) := by decide +kernel
theorem dX2_measure_38 : decode cX2_measure 38 = .ok (.bipush 8, 2) := by decide +kernel
theorem dX2_measure_40 : decode cX2_measure 40 = .ok (.if_icmp .ge 99, 3) := by decide +kernel
theorem dX2_measure_43 : decode cX2_measure 43 = .ok (.iload_n 3, 1) := by decide +kernel
theorem dX2_measure_44 : decode cX2_measure 44 = .ok (.ifCond .eq 95, 3) := by decide +kernel
theorem dX2_measure_47 : decode cX2_measure 47 = .ok (.iconst 0, 1) := by decide +kernel
theorem dX2_measure_48 : decode cX2_measure 48 = .ok (.istore_n 3, 1) := by decide +kernel
theorem dX2_measure_49 : decode cX2_measure 49 = .ok (.iconst 0, 1) := by decide +kernel
theorem dX2_measure_50 : decode cX2_measure 50 = .ok (.istore 5, 2) := by decide +kernel
theorem dX2_measure_52 : decode cX2_measure 52 = .ok (.iload 5, 2) := by decide +kernel
theorem dX2_measure_54 : decode cX2_measure 54 = .ok (.aload_n 1, 1) := by decide +kernel
theorem dX2_measure_55 : decode cX2_measure 55 = .ok (.getfield 65, 3) := by decide +kernel
theorem dX2_measure_58 : decode cX2_measure 58 = .ok (.if_icmp .ge 75, 3) := by decide +kernel
theorem dX2_measure_61 : decode cX2_measure 61 = .ok (.iload_n 2, 1) := by decide +kernel
theorem dX2_measure_62 : decode cX2_measure 62 = .ok (.iload 5, 2) := by decide +kernel
theorem dX2_measure_64 : decode cX2_measure 64 = .ok (.invokestatic 68, 3) := by decide +kernel
theorem dX2_measure_67 : decode cX2_measure 67 = .ok (.iconst 1, 1) := by decide +kernel
theorem dX2_measure_68 : decode cX2_measure 68 = .ok (.if_icmp .ne 59, 3) := by decide +kernel
theorem dX2_measure_71 : decode cX2_measure 71 = .ok (.iload_n 3, 1) := by decide +kernel
theorem dX2_measure_72 : decode cX2_measure 72 = .ok (.aload_n 0, 1) := by decide +kernel
theorem dX2_measure_73 : decode cX2_measure 73 = .ok (.aload_n 1, 1) := by decide +kernel
theorem dX2_measure_74 : decode cX2_measure 74 = .ok (.getfield 72, 3) := by decide +kernel
theorem dX2_measure_77 : decode cX2_measure 77 = .ok (.iload 5, 2) := by decide +kernel
theorem dX2_measure_79 : decode cX2_measure 79 = .ok (.iaload, 1) := by decide +kernel
theorem dX2_measure_80 : decode cX2_measure 80 = .ok (.aload_n 1, 1) := by decide +kernel
theorem dX2_measure_81 : decode cX2_measure 81 = .ok (.getfield 75, 3) := by decide +kernel
theorem dX2_measure_84 : decode cX2_measure 84 = .ok (.iload 5, 2) := by decide +kernel
theorem dX2_measure_86 : decode cX2_measure 86 = .ok (.iaload, 1) := by decide +kernel
theorem dX2_measure_87 : decode cX2_measure 87 = .ok (.aload_n 1, 1) := by decide +kernel
theorem dX2_measure_88 : decode cX2_measure 88 = .ok (.getfield 78, 3) := by decide +kernel
theorem dX2_measure_91 : decode cX2_measure 91 = .ok (.iload 5, 2) := by decide +kernel
theorem dX2_measure_93 : decode cX2_measure 93 = .ok (.iaload, 1) := by decide +kernel
theorem dX2_measure_94 : decode cX2_measure 94 = .ok (.invokevirtual 81, 3) := by decide +kernel
theorem dX2_measure_97 : decode cX2_measure 97 = .ok (.ior, 1) := by decide +kernel
theorem dX2_measure_98 : decode cX2_measure 98 = .ok (.istore_n 3, 1) := by decide +kernel
theorem dX2_measure_99 : decode cX2_measure 99 = .ok (.iload_n 3, 1) := by decide +kernel
theorem dX2_measure_100 : decode cX2_measure 100 = .ok (.aload_n 0, 1) := by decide +kernel
theorem dX2_measure_101 : decode cX2_measure 101 = .ok (.aload_n 1, 1) := by decide +kernel
theorem dX2_measure_102 : decode cX2_measure 102 = .ok (.getfield 75, 3) := by decide +kernel
theorem dX2_measure_105 : decode cX2_measure 105 = .ok (.iload 5, 2) := by decide +kernel
theorem dX2_measure_107 : decode cX2_measure 107 = .ok (.iaload, 1) := by decide +kernel
theorem dX2_measure_108 : decode cX2_measure 108 = .ok (.aload_n 1, 1) := by decide +kernel
theorem dX2_measure_109 : decode cX2_measure 109 = .ok (.getfield 72, 3) := by decide +kernel
theorem dX2_measure_112 : decode cX2_measure 112 = .ok (.iload 5, 2) := by decide +kernel
theorem dX2_measure_114 : decode cX2_measure 114 = .ok (.iaload, 1) := by decide +kernel
theorem dX2_measure_115 : decode cX2_measure 115 = .ok (.aload_n 1, 1) := by decide +kernel
theorem dX2_measure_116 : decode cX2_measure 116 = .ok (.getfield 78, 3) := by decide +kernel
theorem dX2_measure_119 : decode cX2_measure 119 = .ok (.iload 5, 2) := by decide +kernel
theorem dX2_measure_121 : decode cX2_measure 121 = .ok (.iaload, 1) := by decide +kernel
theorem dX2_measure_122 : decode cX2_measure 122 = .ok (.invokevirtual 81, 3) := by decide +kernel
theorem dX2_measure_125 : decode cX2_measure 125 = .ok (.ior, 1) := by decide +kernel
theorem dX2_measure_126 : decode cX2_measure 126 = .ok (.istore_n 3, 1) := by decide +kernel
theorem dX2_measure_127 : decode cX2_measure 127 = .ok (.iinc 5 1, 3) := by decide +kernel
theorem dX2_measure_130 : decode cX2_measure 130 = .ok (.goto (-78), 3) := by decide +kernel
theorem dX2_measure_133 : decode cX2_measure 133 = .ok (.iinc 4 1, 3) := by decide +kernel
theorem dX2_measure_136 : decode cX2_measure 136 = .ok (.goto (-100), 3) := by decide +kernel
theorem dX2_measure_139 : decode cX2_measure 139 = .ok (.return_, 1) := by decide +kernel
theorem dX2_shorten_0 : decode cX2_shorten 0 = .ok (.aload_n 0, 1) := by decide +kernel
theorem dX2_shorten_1 : decode cX2_shorten 1 = .ok (.getfield 9, 3) := by decide +kernel
theorem dX2_shorten_4 : decode cX2_shorten 4 = .ok (.iload_n 2, 1) := by decide +kernel
theorem dX2_shorten_5 : decode cX2_shorten 5 = .ok (.iaload, 1) := by decide +kernel
theorem dX2_shorten_6 : decode cX2_shorten 6 = .ok (.iconst (-1), 1) := by decide +kernel
theorem dX2_shorten_7 : decode cX2_shorten 7 = .ok (.if_icmp .eq 30, 3) := by decide +kernel
theorem dX2_shorten_10 : decode cX2_shorten 10 = .ok (.aload_n 0, 1) := by decide +kernel
theorem dX2_shorten_11 : decode cX2_shorten 11 = .ok (.getfield 9, 3) := by decide +kernel
theorem dX2_shorten_14 : decode cX2_shorten 14 = .ok (.iload_n 1, 1) := by decide +kernel
theorem dX2_shorten_15 : decode cX2_shorten 15 = .ok (.iaload, 1) := by decide +kernel
theorem dX2_shorten_16 : decode cX2_shorten 16 = .ok (.iconst (-1), 1) := by decide +kernel
theorem dX2_shorten_17 : decode cX2_shorten 17 = .ok (.if_icmp .eq 22, 3) := by decide +kernel
theorem dX2_shorten_20 : decode cX2_shorten 20 = .ok (.aload_n 0, 1) := by decide +kernel
theorem dX2_shorten_21 : decode cX2_shorten 21 = .ok (.getfield 9, 3) := by decide +kernel
theorem dX2_shorten_24 : decode cX2_shorten 24 = .ok (.iload_n 1, 1) := by decide +kernel
theorem dX2_shorten_25 : decode cX2_shorten 25 = .ok (.iaload, 1) := by decide +kernel
theorem dX2_shorten_26 : decode cX2_shorten 26 = .ok (.aload_n 0, 1) := by decide +kernel
theorem dX2_shorten_27 : decode cX2_shorten 27 = .ok (.getfield 9, 3) := by decide +kernel
theorem dX2_shorten_30 : decode cX2_shorten 30 = .ok (.iload_n 2, 1) := by decide +kernel
theorem dX2_shorten_31 : decode cX2_shorten 31 = .ok (.iaload, 1) := by decide +kernel
theorem dX2_shorten_32 : decode cX2_shorten 32 = .ok (.iload_n 3, 1) := by decide +kernel
theorem dX2_shorten_33 : decode cX2_shorten 33 = .ok (.iadd, 1) := by decide +kernel
theorem dX2_shorten_34 : decode cX2_shorten 34 = .ok (.if_icmp .gt 5, 3) := by decide +kernel
theorem dX2_shorten_37 : decode cX2_shorten 37 = .ok (.iconst 0, 1) := by decide +kernel
theorem dX2_shorten_38 : decode cX2_shorten 38 = .ok (.ireturn, 1) := by decide +kernel
theorem dX2_shorten_39 : decode cX2_shorten 39 = .ok (.aload_n 0, 1) := by decide +kernel
theorem dX2_shorten_40 : decode cX2_shorten 40 = .ok (.getfield 9, 3) := by decide +kernel
theorem dX2_shorten_43 : decode cX2_shorten 43 = .ok (.iload_n 1, 1) := by decide +kernel
theorem dX2_shorten_44 : decode cX2_shorten 44 = .ok (.aload_n 0, 1) := by decide +kernel
theorem dX2_shorten_45 : decode cX2_shorten 45 = .ok (.getfield 9, 3) := by decide +kernel
theorem dX2_shorten_48 : decode cX2_shorten 48 = .ok (.iload_n 2, 1) := by decide +kernel
theorem dX2_shorten_49 : decode cX2_shorten 49 = .ok (.iaload, 1) := by decide +kernel
theorem dX2_shorten_50 : decode cX2_shorten 50 = .ok (.iload_n 3, 1) := by decide +kernel
theorem dX2_shorten_51 : decode cX2_shorten 51 = .ok (.iadd, 1) := by decide +kernel
theorem dX2_shorten_52 : decode cX2_shorten 52 = .ok (.iastore, 1) := by decide +kernel
theorem dX2_shorten_53 : decode cX2_shorten 53 = .ok (.iconst 1, 1) := by decide +kernel
theorem dX2_shorten_54 : decode cX2_shorten 54 = .ok (.ireturn, 1) := by decide +kernel
theorem dX2_nextField_0 : decode cX2_nextField 0 = .ok (.bipush 8, 2) := by decide +kernel
theorem dX2_nextField_2 : decode cX2_nextField 2 = .ok (.istore 4, 2) := by decide +kernel
theorem dX2_nextField_4 : decode cX2_nextField 4 = .ok (.iconst 0, 1) := by decide +kernel
theorem dX2_nextField_5 : decode cX2_nextField 5 = .ok (.istore 5, 2) := by decide +kernel
theorem dX2_nextField_7 : decode cX2_nextField 7 = .ok (.iload 5, 2) := by decide +kernel
theorem dX2_nextField_9 : decode cX2_nextField 9 = .ok (.aload_n 1, 1) := by decide +kernel
theorem dX2_nextField_10 : decode cX2_nextField 10 = .ok (.getfield 65, 3) := by decide +kernel
theorem dX2_nextField_13 : decode cX2_nextField 13 = .ok (.if_icmp .ge 117, 3) := by decide +kernel
theorem dX2_nextField_16 : decode cX2_nextField 16 = .ok (.iload_n 2, 1) := by decide +kernel
theorem dX2_nextField_17 : decode cX2_nextField 17 = .ok (.iload 5, 2) := by decide +kernel
theorem dX2_nextField_19 : decode cX2_nextField 19 = .ok (.invokestatic 68, 3) := by decide +kernel
theorem dX2_nextField_22 : decode cX2_nextField 22 = .ok (.iconst 1, 1) := by decide +kernel
theorem dX2_nextField_23 : decode cX2_nextField 23 = .ok (.if_icmp .ne 101, 3) := by decide +kernel
theorem dX2_nextField_26 : decode cX2_nextField 26 = .ok (.aload_n 1, 1) := by decide +kernel
theorem dX2_nextField_27 : decode cX2_nextField 27 = .ok (.getfield 72, 3) := by decide +kernel
theorem dX2_nextField_30 : decode cX2_nextField 30 = .ok (.iload 5, 2) := by decide +kernel
theorem dX2_nextField_32 : decode cX2_nextField 32 = .ok (.iaload, 1) := by decide +kernel
theorem dX2_nextField_33 : decode cX2_nextField 33 = .ok (.iload_n 3, 1) := by decide +kernel
theorem dX2_nextField_34 : decode cX2_nextField 34 = .ok (.if_icmp .eq 14, 3) := by decide +kernel
theorem dX2_nextField_37 : decode cX2_nextField 37 = .ok (.aload_n 1, 1) := by decide +kernel
theorem dX2_nextField_38 : decode cX2_nextField 38 = .ok (.getfield 75, 3) := by decide +kernel
theorem dX2_nextField_41 : decode cX2_nextField 41 = .ok (.iload 5, 2) := by decide +kernel
theorem dX2_nextField_43 : decode cX2_nextField 43 = .ok (.iaload, 1) := by decide +kernel
theorem dX2_nextField_44 : decode cX2_nextField 44 = .ok (.iload_n 3, 1) := by decide +kernel
theorem dX2_nextField_45 : decode cX2_nextField 45 = .ok (.if_icmp .ne 79, 3) := by decide +kernel
theorem dX2_nextField_48 : decode cX2_nextField 48 = .ok (.aload_n 1, 1) := by decide +kernel
theorem dX2_nextField_49 : decode cX2_nextField 49 = .ok (.getfield 72, 3) := by decide +kernel
theorem dX2_nextField_52 : decode cX2_nextField 52 = .ok (.iload 5, 2) := by decide +kernel
theorem dX2_nextField_54 : decode cX2_nextField 54 = .ok (.iaload, 1) := by decide +kernel
theorem dX2_nextField_55 : decode cX2_nextField 55 = .ok (.iload_n 3, 1) := by decide +kernel
theorem dX2_nextField_56 : decode cX2_nextField 56 = .ok (.if_icmp .ne 13, 3) := by decide +kernel
theorem dX2_nextField_59 : decode cX2_nextField 59 = .ok (.aload_n 1, 1) := by decide +kernel
theorem dX2_nextField_60 : decode cX2_nextField 60 = .ok (.getfield 75, 3) := by decide +kernel
theorem dX2_nextField_63 : decode cX2_nextField 63 = .ok (.iload 5, 2) := by decide +kernel
theorem dX2_nextField_65 : decode cX2_nextField 65 = .ok (.iaload, 1) := by decide +kernel
theorem dX2_nextField_66 : decode cX2_nextField 66 = .ok (.goto 10, 3) := by decide +kernel
theorem dX2_nextField_69 : decode cX2_nextField 69 = .ok (.aload_n 1, 1) := by decide +kernel
theorem dX2_nextField_70 : decode cX2_nextField 70 = .ok (.getfield 72, 3) := by decide +kernel
theorem dX2_nextField_73 : decode cX2_nextField 73 = .ok (.iload 5, 2) := by decide +kernel
theorem dX2_nextField_75 : decode cX2_nextField 75 = .ok (.iaload, 1) := by decide +kernel
theorem dX2_nextField_76 : decode cX2_nextField 76 = .ok (.istore 6, 2) := by decide +kernel
theorem dX2_nextField_78 : decode cX2_nextField 78 = .ok (.iload 6, 2) := by decide +kernel
theorem dX2_nextField_80 : decode cX2_nextField 80 = .ok (.iload 4, 2) := by decide +kernel
theorem dX2_nextField_82 : decode cX2_nextField 82 = .ok (.if_icmp .ge 42, 3) := by decide +kernel
theorem dX2_nextField_85 : decode cX2_nextField 85 = .ok (.aload_n 0, 1) := by decide +kernel
theorem dX2_nextField_86 : decode cX2_nextField 86 = .ok (.getfield 9, 3) := by decide +kernel
theorem dX2_nextField_89 : decode cX2_nextField 89 = .ok (.iload 6, 2) := by decide +kernel
theorem dX2_nextField_91 : decode cX2_nextField 91 = .ok (.iaload, 1) := by decide +kernel
theorem dX2_nextField_92 : decode cX2_nextField 92 = .ok (.iconst (-1), 1) := by decide +kernel
theorem dX2_nextField_93 : decode cX2_nextField 93 = .ok (.if_icmp .eq 31, 3) := by decide +kernel
theorem dX2_nextField_96 : decode cX2_nextField 96 = .ok (.aload_n 0, 1) := by decide +kernel
theorem dX2_nextField_97 : decode cX2_nextField 97 = .ok (.getfield 9, 3) := by decide +kernel
theorem dX2_nextField_100 : decode cX2_nextField 100 = .ok (.iload 6, 2) := by decide +kernel
theorem dX2_nextField_102 : decode cX2_nextField 102 = .ok (.iaload, 1) := by decide +kernel
theorem dX2_nextField_103 : decode cX2_nextField 103 = .ok (.aload_n 1, 1) := by decide +kernel
theorem dX2_nextField_104 : decode cX2_nextField 104 = .ok (.getfield 78, 3) := by decide +kernel
theorem dX2_nextField_107 : decode cX2_nextField 107 = .ok (.iload 5, 2) := by decide +kernel
theorem dX2_nextField_109 : decode cX2_nextField 109 = .ok (.iaload, 1) := by decide +kernel
theorem dX2_nextField_110 : decode cX2_nextField 110 = .ok (.iadd, 1) := by decide +kernel
theorem dX2_nextField_111 : decode cX2_nextField 111 = .ok (.aload_n 0, 1) := by decide +kernel
theorem dX2_nextField_112 : decode cX2_nextField 112 = .ok (.getfield 9, 3) := by decide +kernel
theorem dX2_nextField_115 : decode cX2_nextField 115 = .ok (.iload_n 3, 1) := by decide +kernel
theorem dX2_nextField_116 : decode cX2_nextField 116 = .ok (.iaload, 1) := by decide +kernel
theorem dX2_nextField_117 : decode cX2_nextField 117 = .ok (.if_icmp .ne 7, 3) := by decide +kernel
theorem dX2_nextField_120 : decode cX2_nextField 120 = .ok (.iload 6, 2) := by decide +kernel
theorem dX2_nextField_122 : decode cX2_nextField 122 = .ok (.istore 4, 2) := by decide +kernel
theorem dX2_nextField_124 : decode cX2_nextField 124 = .ok (.iinc 5 1, 3) := by decide +kernel
theorem dX2_nextField_127 : decode cX2_nextField 127 = .ok (.goto (-120), 3) := by decide +kernel
theorem dX2_nextField_130 : decode cX2_nextField 130 = .ok (.iload 4, 2) := by decide +kernel
theorem dX2_nextField_132 : decode cX2_nextField 132 = .ok (.ireturn, 1) := by decide +kernel
theorem dX2_fewestGates_0 : decode cX2_fewestGates 0 = .ok (.iload_n 2, 1) := by decide +kernel
theorem dX2_fewestGates_1 : decode cX2_fewestGates 1 = .ok (.istore 4, 2) := by decide +kernel
theorem dX2_fewestGates_3 : decode cX2_fewestGates 3 = .ok (.iconst 0, 1) := by decide +kernel
theorem dX2_fewestGates_4 : decode cX2_fewestGates 4 = .ok (.istore 5, 2) := by decide +kernel
theorem dX2_fewestGates_6 : decode cX2_fewestGates 6 = .ok (.iload 5, 2) := by decide +kernel
theorem dX2_fewestGates_8 : decode cX2_fewestGates 8 = .ok (.sipush 256, 3) := by decide +kernel
theorem dX2_fewestGates_11 : decode cX2_fewestGates 11 = .ok (.if_icmp .ge 74, 3) := by decide +kernel
theorem dX2_fewestGates_14 : decode cX2_fewestGates 14 = .ok (.iload 5, 2) := by decide +kernel
theorem dX2_fewestGates_16 : decode cX2_fewestGates 16 = .ok (.iload_n 3, 1) := by decide +kernel
theorem dX2_fewestGates_17 : decode cX2_fewestGates 17 = .ok (.invokestatic 68, 3) := by decide +kernel
theorem dX2_fewestGates_20 : decode cX2_fewestGates 20 = .ok (.iconst 1, 1) := by decide +kernel
theorem dX2_fewestGates_21 : decode cX2_fewestGates 21 = .ok (.if_icmp .ne 58, 3) := by decide +kernel
theorem dX2_fewestGates_24 : decode cX2_fewestGates 24 = .ok (.iload 5, 2) := by decide +kernel
theorem dX2_fewestGates_26 : decode cX2_fewestGates 26 = .ok (.aload_n 1, 1) := by decide +kernel
theorem dX2_fewestGates_27 : decode cX2_fewestGates 27 = .ok (.getfield 30, 3) := by decide +kernel
theorem dX2_fewestGates_30 : decode cX2_fewestGates 30 = .ok (.invokestatic 68, 3) := by decide +kernel
theorem dX2_fewestGates_33 : decode cX2_fewestGates 33 = .ok (.ifCond .ne 46, 3) := by decide +kernel
theorem dX2_fewestGates_36 : decode cX2_fewestGates 36 = .ok (.aload_n 1, 1) := by decide +kernel
theorem dX2_fewestGates_37 : decode cX2_fewestGates 37 = .ok (.iload_n 2, 1) := by decide +kernel
theorem dX2_fewestGates_38 : decode cX2_fewestGates 38 = .ok (.iload 5, 2) := by decide +kernel
theorem dX2_fewestGates_40 : decode cX2_fewestGates 40 = .ok (.invokestatic 85, 3) := by decide +kernel
theorem dX2_fewestGates_43 : decode cX2_fewestGates 43 = .ok (.istore 6, 2) := by decide +kernel
theorem dX2_fewestGates_45 : decode cX2_fewestGates 45 = .ok (.iload 6, 2) := by decide +kernel
theorem dX2_fewestGates_47 : decode cX2_fewestGates 47 = .ok (.invokestatic 88, 3) := by decide +kernel
theorem dX2_fewestGates_50 : decode cX2_fewestGates 50 = .ok (.iload 4, 2) := by decide +kernel
theorem dX2_fewestGates_52 : decode cX2_fewestGates 52 = .ok (.invokestatic 88, 3) := by decide +kernel
theorem dX2_fewestGates_55 : decode cX2_fewestGates 55 = .ok (.isub, 1) := by decide +kernel
theorem dX2_fewestGates_56 : decode cX2_fewestGates 56 = .ok (.istore 7, 2) := by decide +kernel
theorem dX2_fewestGates_58 : decode cX2_fewestGates 58 = .ok (.iload 7, 2) := by decide +kernel
theorem dX2_fewestGates_60 : decode cX2_fewestGates 60 = .ok (.ifCond .lt 15, 3) := by decide +kernel
theorem dX2_fewestGates_63 : decode cX2_fewestGates 63 = .ok (.iload 7, 2) := by decide +kernel
theorem dX2_fewestGates_65 : decode cX2_fewestGates 65 = .ok (.ifCond .ne 14, 3) := by decide +kernel
theorem dX2_fewestGates_68 : decode cX2_fewestGates 68 = .ok (.iload 6, 2) := by decide +kernel
theorem dX2_fewestGates_70 : decode cX2_fewestGates 70 = .ok (.iload 4, 2) := by decide +kernel
theorem dX2_fewestGates_72 : decode cX2_fewestGates 72 = .ok (.if_icmp .ge 7, 3) := by decide +kernel
theorem dX2_fewestGates_75 : decode cX2_fewestGates 75 = .ok (.iload 6, 2) := by decide +kernel
theorem dX2_fewestGates_77 : decode cX2_fewestGates 77 = .ok (.istore 4, 2) := by decide +kernel
theorem dX2_fewestGates_79 : decode cX2_fewestGates 79 = .ok (.iinc 5 1, 3) := by decide +kernel
theorem dX2_fewestGates_82 : decode cX2_fewestGates 82 = .ok (.goto (-76), 3) := by decide +kernel
theorem dX2_fewestGates_85 : decode cX2_fewestGates 85 = .ok (.iload 4, 2) := by decide +kernel
theorem dX2_fewestGates_87 : decode cX2_fewestGates 87 = .ok (.ireturn, 1) := by decide +kernel
theorem dX2_between_0 : decode cX2_between 0 = .ok (.iconst 0, 1) := by decide +kernel
theorem dX2_between_1 : decode cX2_between 1 = .ok (.istore_n 3, 1) := by decide +kernel
theorem dX2_between_2 : decode cX2_between 2 = .ok (.iconst 0, 1) := by decide +kernel
theorem dX2_between_3 : decode cX2_between 3 = .ok (.istore 4, 2) := by decide +kernel
theorem dX2_between_5 : decode cX2_between 5 = .ok (.iload 4, 2) := by decide +kernel
theorem dX2_between_7 : decode cX2_between 7 = .ok (.aload_n 0, 1) := by decide +kernel
theorem dX2_between_8 : decode cX2_between 8 = .ok (.getfield 65, 3) := by decide +kernel
theorem dX2_between_11 : decode cX2_between 11 = .ok (.if_icmp .ge 41, 3) := by decide +kernel
theorem dX2_between_14 : decode cX2_between 14 = .ok (.iload_n 2, 1) := by decide +kernel
theorem dX2_between_15 : decode cX2_between 15 = .ok (.aload_n 0, 1) := by decide +kernel
theorem dX2_between_16 : decode cX2_between 16 = .ok (.getfield 72, 3) := by decide +kernel
theorem dX2_between_19 : decode cX2_between 19 = .ok (.iload 4, 2) := by decide +kernel
theorem dX2_between_21 : decode cX2_between 21 = .ok (.iaload, 1) := by decide +kernel
theorem dX2_between_22 : decode cX2_between 22 = .ok (.invokestatic 68, 3) := by decide +kernel
theorem dX2_between_25 : decode cX2_between 25 = .ok (.iload_n 2, 1) := by decide +kernel
theorem dX2_between_26 : decode cX2_between 26 = .ok (.aload_n 0, 1) := by decide +kernel
theorem dX2_between_27 : decode cX2_between 27 = .ok (.getfield 75, 3) := by decide +kernel
theorem dX2_between_30 : decode cX2_between 30 = .ok (.iload 4, 2) := by decide +kernel
theorem dX2_between_32 : decode cX2_between 32 = .ok (.iaload, 1) := by decide +kernel
theorem dX2_between_33 : decode cX2_between 33 = .ok (.invokestatic 68, 3) := by decide +kernel
theorem dX2_between_36 : decode cX2_between 36 = .ok (.if_icmp .eq 10, 3) := by decide +kernel
theorem dX2_between_39 : decode cX2_between 39 = .ok (.iload_n 3, 1) := by decide +kernel
theorem dX2_between_40 : decode cX2_between 40 = .ok (.iconst 1, 1) := by decide +kernel
theorem dX2_between_41 : decode cX2_between 41 = .ok (.iload 4, 2) := by decide +kernel
theorem dX2_between_43 : decode cX2_between 43 = .ok (.ishl, 1) := by decide +kernel
theorem dX2_between_44 : decode cX2_between 44 = .ok (.ior, 1) := by decide +kernel
theorem dX2_between_45 : decode cX2_between 45 = .ok (.istore_n 3, 1) := by decide +kernel
theorem dX2_between_46 : decode cX2_between 46 = .ok (.iinc 4 1, 3) := by decide +kernel
theorem dX2_between_49 : decode cX2_between 49 = .ok (.goto (-44), 3) := by decide +kernel
theorem dX2_between_52 : decode cX2_between 52 = .ok (.iload_n 3, 1) := by decide +kernel
theorem dX2_between_53 : decode cX2_between 53 = .ok (.iload_n 1, 1) := by decide +kernel
theorem dX2_between_54 : decode cX2_between 54 = .ok (.iand, 1) := by decide +kernel
theorem dX2_between_55 : decode cX2_between 55 = .ok (.ireturn, 1) := by decide +kernel
theorem dX2_casesThrough_0 : decode cX2_casesThrough 0 = .ok (.aload_n 0, 1) := by decide +kernel
theorem dX2_casesThrough_1 : decode cX2_casesThrough 1 = .ok (.aload_n 1, 1) := by decide +kernel
theorem dX2_casesThrough_2 : decode cX2_casesThrough 2 = .ok (.invokevirtual 93, 3) := by decide +kernel
theorem dX2_casesThrough_5 : decode cX2_casesThrough 5 = .ok (.aload_n 0, 1) := by decide +kernel
theorem dX2_casesThrough_6 : decode cX2_casesThrough 6 = .ok (.iload_n 3, 1) := by decide +kernel
theorem dX2_casesThrough_7 : decode cX2_casesThrough 7 = .ok (.invokevirtual 97, 3) := by decide +kernel
theorem dX2_casesThrough_10 : decode cX2_casesThrough 10 = .ok (.sipush 255, 3) := by decide +kernel
theorem dX2_casesThrough_13 : decode cX2_casesThrough 13 = .ok (.istore 4, 2) := by decide +kernel
theorem dX2_casesThrough_15 : decode cX2_casesThrough 15 = .ok (.aload_n 0, 1) := by decide +kernel
theorem dX2_casesThrough_16 : decode cX2_casesThrough 16 = .ok (.getfield 22, 3) := by decide +kernel
theorem dX2_casesThrough_19 : decode cX2_casesThrough 19 = .ok (.aload_n 0, 1) := by decide +kernel
theorem dX2_casesThrough_20 : decode cX2_casesThrough 20 = .ok (.getfield 15, 3) := by decide +kernel
theorem dX2_casesThrough_23 : decode cX2_casesThrough 23 = .ok (.iload 4, 2) := by decide +kernel
theorem dX2_casesThrough_25 : decode cX2_casesThrough 25 = .ok (.iaload, 1) := by decide +kernel
theorem dX2_casesThrough_26 : decode cX2_casesThrough 26 = .ok (.laload, 1) := by decide +kernel
theorem dX2_casesThrough_27 : decode cX2_casesThrough 27 = .ok (.lstore 5, 2) := by decide +kernel
theorem dX2_casesThrough_29 : decode cX2_casesThrough 29 = .ok (.iconst 0, 1) := by decide +kernel
theorem dX2_casesThrough_30 : decode cX2_casesThrough 30 = .ok (.istore 7, 2) := by decide +kernel
theorem dX2_casesThrough_32 : decode cX2_casesThrough 32 = .ok (.iload 7, 2) := by decide +kernel
theorem dX2_casesThrough_34 : decode cX2_casesThrough 34 = .ok (.sipush 256, 3) := by decide +kernel
theorem dX2_casesThrough_37 : decode cX2_casesThrough 37 = .ok (.if_icmp .ge 58, 3) := by decide +kernel
theorem dX2_casesThrough_40 : decode cX2_casesThrough 40 = .ok (.iload 7, 2) := by decide +kernel
theorem dX2_casesThrough_42 : decode cX2_casesThrough 42 = .ok (.iload_n 2, 1) := by decide +kernel
theorem dX2_casesThrough_43 : decode cX2_casesThrough 43 = .ok (.invokestatic 68, 3) := by decide +kernel
theorem dX2_casesThrough_46 : decode cX2_casesThrough 46 = .ok (.iconst 1, 1) := by decide +kernel
theorem dX2_casesThrough_47 : decode cX2_casesThrough 47 = .ok (.if_icmp .ne 42, 3) := by decide +kernel
theorem dX2_casesThrough_50 : decode cX2_casesThrough 50 = .ok (.iload 7, 2) := by decide +kernel
theorem dX2_casesThrough_52 : decode cX2_casesThrough 52 = .ok (.aload_n 1, 1) := by decide +kernel
theorem dX2_casesThrough_53 : decode cX2_casesThrough 53 = .ok (.getfield 30, 3) := by decide +kernel
theorem dX2_casesThrough_56 : decode cX2_casesThrough 56 = .ok (.invokestatic 68, 3) := by decide +kernel
theorem dX2_casesThrough_59 : decode cX2_casesThrough 59 = .ok (.ifCond .ne 30, 3) := by decide +kernel
theorem dX2_casesThrough_62 : decode cX2_casesThrough 62 = .ok (.aload_n 0, 1) := by decide +kernel
theorem dX2_casesThrough_63 : decode cX2_casesThrough 63 = .ok (.getfield 18, 3) := by decide +kernel
theorem dX2_casesThrough_66 : decode cX2_casesThrough 66 = .ok (.iload 7, 2) := by decide +kernel
theorem dX2_casesThrough_68 : decode cX2_casesThrough 68 = .ok (.aload_n 0, 1) := by decide +kernel
theorem dX2_casesThrough_69 : decode cX2_casesThrough 69 = .ok (.iload 7, 2) := by decide +kernel
theorem dX2_casesThrough_71 : decode cX2_casesThrough 71 = .ok (.iload_n 2, 1) := by decide +kernel
theorem dX2_casesThrough_72 : decode cX2_casesThrough 72 = .ok (.invokevirtual 101, 3) := by decide +kernel
theorem dX2_casesThrough_75 : decode cX2_casesThrough 75 = .ok (.lastore, 1) := by decide +kernel
theorem dX2_casesThrough_76 : decode cX2_casesThrough 76 = .ok (.lload 5, 2) := by decide +kernel
theorem dX2_casesThrough_78 : decode cX2_casesThrough 78 = .ok (.aload_n 0, 1) := by decide +kernel
theorem dX2_casesThrough_79 : decode cX2_casesThrough 79 = .ok (.iload 7, 2) := by decide +kernel
theorem dX2_casesThrough_81 : decode cX2_casesThrough 81 = .ok (.iload 4, 2) := by decide +kernel
theorem dX2_casesThrough_83 : decode cX2_casesThrough 83 = .ok (.invokevirtual 105, 3) := by decide +kernel
theorem dX2_casesThrough_86 : decode cX2_casesThrough 86 = .ok (.lsub, 1) := by decide +kernel
theorem dX2_casesThrough_87 : decode cX2_casesThrough 87 = .ok (.lstore 5, 2) := by decide +kernel
theorem dX2_casesThrough_89 : decode cX2_casesThrough 89 = .ok (.iinc 7 1, 3) := by decide +kernel
theorem dX2_casesThrough_92 : decode cX2_casesThrough 92 = .ok (.goto (-60), 3) := by decide +kernel
theorem dX2_casesThrough_95 : decode cX2_casesThrough 95 = .ok (.lload 5, 2) := by decide +kernel
theorem dX2_casesThrough_97 : decode cX2_casesThrough 97 = .ok (.lreturn, 1) := by decide +kernel
theorem dX2_casesJoined_0 : decode cX2_casesJoined 0 = .ok (.aload_n 0, 1) := by decide +kernel
theorem dX2_casesJoined_1 : decode cX2_casesJoined 1 = .ok (.getfield 22, 3) := by decide +kernel
theorem dX2_casesJoined_4 : decode cX2_casesJoined 4 = .ok (.aload_n 0, 1) := by decide +kernel
theorem dX2_casesJoined_5 : decode cX2_casesJoined 5 = .ok (.getfield 15, 3) := by decide +kernel
theorem dX2_casesJoined_8 : decode cX2_casesJoined 8 = .ok (.iload_n 1, 1) := by decide +kernel
theorem dX2_casesJoined_9 : decode cX2_casesJoined 9 = .ok (.iaload, 1) := by decide +kernel
theorem dX2_casesJoined_10 : decode cX2_casesJoined 10 = .ok (.laload, 1) := by decide +kernel
theorem dX2_casesJoined_11 : decode cX2_casesJoined 11 = .ok (.lstore_n 3, 1) := by decide +kernel
theorem dX2_casesJoined_12 : decode cX2_casesJoined 12 = .ok (.iload_n 1, 1) := by decide +kernel
theorem dX2_casesJoined_13 : decode cX2_casesJoined 13 = .ok (.istore 5, 2) := by decide +kernel
theorem dX2_casesJoined_15 : decode cX2_casesJoined 15 = .ok (.iconst 0, 1) := by decide +kernel
theorem dX2_casesJoined_16 : decode cX2_casesJoined 16 = .ok (.istore 6, 2) := by decide +kernel
theorem dX2_casesJoined_18 : decode cX2_casesJoined 18 = .ok (.iload 6, 2) := by decide +kernel
theorem dX2_casesJoined_20 : decode cX2_casesJoined 20 = .ok (.sipush 256, 3) := by decide +kernel
theorem dX2_casesJoined_23 : decode cX2_casesJoined 23 = .ok (.if_icmp .ge 42, 3) := by decide +kernel
theorem dX2_casesJoined_26 : decode cX2_casesJoined 26 = .ok (.iload 5, 2) := by decide +kernel
theorem dX2_casesJoined_28 : decode cX2_casesJoined 28 = .ok (.ifCond .eq 37, 3) := by decide +kernel
theorem dX2_casesJoined_31 : decode cX2_casesJoined 31 = .ok (.iload 5, 2) := by decide +kernel
theorem dX2_casesJoined_33 : decode cX2_casesJoined 33 = .ok (.iconst 1, 1) := by decide +kernel
theorem dX2_casesJoined_34 : decode cX2_casesJoined 34 = .ok (.isub, 1) := by decide +kernel
theorem dX2_casesJoined_35 : decode cX2_casesJoined 35 = .ok (.iload_n 1, 1) := by decide +kernel
theorem dX2_casesJoined_36 : decode cX2_casesJoined 36 = .ok (.iand, 1) := by decide +kernel
theorem dX2_casesJoined_37 : decode cX2_casesJoined 37 = .ok (.istore 5, 2) := by decide +kernel
theorem dX2_casesJoined_39 : decode cX2_casesJoined 39 = .ok (.iload 5, 2) := by decide +kernel
theorem dX2_casesJoined_41 : decode cX2_casesJoined 41 = .ok (.iload_n 2, 1) := by decide +kernel
theorem dX2_casesJoined_42 : decode cX2_casesJoined 42 = .ok (.invokestatic 68, 3) := by decide +kernel
theorem dX2_casesJoined_45 : decode cX2_casesJoined 45 = .ok (.iconst 1, 1) := by decide +kernel
theorem dX2_casesJoined_46 : decode cX2_casesJoined 46 = .ok (.if_icmp .ne 13, 3) := by decide +kernel
theorem dX2_casesJoined_49 : decode cX2_casesJoined 49 = .ok (.lload_n 3, 1) := by decide +kernel
theorem dX2_casesJoined_50 : decode cX2_casesJoined 50 = .ok (.aload_n 0, 1) := by decide +kernel
theorem dX2_casesJoined_51 : decode cX2_casesJoined 51 = .ok (.iload 5, 2) := by decide +kernel
theorem dX2_casesJoined_53 : decode cX2_casesJoined 53 = .ok (.iload_n 1, 1) := by decide +kernel
theorem dX2_casesJoined_54 : decode cX2_casesJoined 54 = .ok (.invokevirtual 105, 3) := by decide +kernel
theorem dX2_casesJoined_57 : decode cX2_casesJoined 57 = .ok (.lsub, 1) := by decide +kernel
theorem dX2_casesJoined_58 : decode cX2_casesJoined 58 = .ok (.lstore_n 3, 1) := by decide +kernel
theorem dX2_casesJoined_59 : decode cX2_casesJoined 59 = .ok (.iinc 6 1, 3) := by decide +kernel
theorem dX2_casesJoined_62 : decode cX2_casesJoined 62 = .ok (.goto (-44), 3) := by decide +kernel
theorem dX2_casesJoined_65 : decode cX2_casesJoined 65 = .ok (.lload_n 3, 1) := by decide +kernel
theorem dX2_casesJoined_66 : decode cX2_casesJoined 66 = .ok (.lreturn, 1) := by decide +kernel
theorem dX2_casesParted_0 : decode cX2_casesParted 0 = .ok (.iload_n 2, 1) := by decide +kernel
theorem dX2_casesParted_1 : decode cX2_casesParted 1 = .ok (.iload_n 1, 1) := by decide +kernel
theorem dX2_casesParted_2 : decode cX2_casesParted 2 = .ok (.iconst (-1), 1) := by decide +kernel
theorem dX2_casesParted_3 : decode cX2_casesParted 3 = .ok (.ixor, 1) := by decide +kernel
theorem dX2_casesParted_4 : decode cX2_casesParted 4 = .ok (.iand, 1) := by decide +kernel
theorem dX2_casesParted_5 : decode cX2_casesParted 5 = .ok (.istore_n 3, 1) := by decide +kernel
theorem dX2_casesParted_6 : decode cX2_casesParted 6 = .ok (.aload_n 0, 1) := by decide +kernel
theorem dX2_casesParted_7 : decode cX2_casesParted 7 = .ok (.getfield 15, 3) := by decide +kernel
theorem dX2_casesParted_10 : decode cX2_casesParted 10 = .ok (.iload_n 2, 1) := by decide +kernel
theorem dX2_casesParted_11 : decode cX2_casesParted 11 = .ok (.iaload, 1) := by decide +kernel
theorem dX2_casesParted_12 : decode cX2_casesParted 12 = .ok (.aload_n 0, 1) := by decide +kernel
theorem dX2_casesParted_13 : decode cX2_casesParted 13 = .ok (.getfield 15, 3) := by decide +kernel
theorem dX2_casesParted_16 : decode cX2_casesParted 16 = .ok (.iload_n 1, 1) := by decide +kernel
theorem dX2_casesParted_17 : decode cX2_casesParted 17 = .ok (.iaload, 1) := by decide +kernel
theorem dX2_casesParted_18 : decode cX2_casesParted 18 = .ok (.isub, 1) := by decide +kernel
theorem dX2_casesParted_19 : decode cX2_casesParted 19 = .ok (.aload_n 0, 1) := by decide +kernel
theorem dX2_casesParted_20 : decode cX2_casesParted 20 = .ok (.getfield 15, 3) := by decide +kernel
theorem dX2_casesParted_23 : decode cX2_casesParted 23 = .ok (.iload_n 3, 1) := by decide +kernel
theorem dX2_casesParted_24 : decode cX2_casesParted 24 = .ok (.iaload, 1) := by decide +kernel
theorem dX2_casesParted_25 : decode cX2_casesParted 25 = .ok (.isub, 1) := by decide +kernel
theorem dX2_casesParted_26 : decode cX2_casesParted 26 = .ok (.istore 4, 2) := by decide +kernel
theorem dX2_casesParted_28 : decode cX2_casesParted 28 = .ok (.aload_n 0, 1) := by decide +kernel
theorem dX2_casesParted_29 : decode cX2_casesParted 29 = .ok (.getfield 18, 3) := by decide +kernel
theorem dX2_casesParted_32 : decode cX2_casesParted 32 = .ok (.iload_n 1, 1) := by decide +kernel
theorem dX2_casesParted_33 : decode cX2_casesParted 33 = .ok (.laload, 1) := by decide +kernel
theorem dX2_casesParted_34 : decode cX2_casesParted 34 = .ok (.aload_n 0, 1) := by decide +kernel
theorem dX2_casesParted_35 : decode cX2_casesParted 35 = .ok (.getfield 25, 3) := by decide +kernel
theorem dX2_casesParted_38 : decode cX2_casesParted 38 = .ok (.iload 4, 2) := by decide +kernel
theorem dX2_casesParted_40 : decode cX2_casesParted 40 = .ok (.laload, 1) := by decide +kernel
theorem dX2_casesParted_41 : decode cX2_casesParted 41 = .ok (.lmul, 1) := by decide +kernel
theorem dX2_casesParted_42 : decode cX2_casesParted 42 = .ok (.aload_n 0, 1) := by decide +kernel
theorem dX2_casesParted_43 : decode cX2_casesParted 43 = .ok (.getfield 22, 3) := by decide +kernel
theorem dX2_casesParted_46 : decode cX2_casesParted 46 = .ok (.aload_n 0, 1) := by decide +kernel
theorem dX2_casesParted_47 : decode cX2_casesParted 47 = .ok (.getfield 15, 3) := by decide +kernel
theorem dX2_casesParted_50 : decode cX2_casesParted 50 = .ok (.iload_n 3, 1) := by decide +kernel
theorem dX2_casesParted_51 : decode cX2_casesParted 51 = .ok (.iaload, 1) := by decide +kernel
theorem dX2_casesParted_52 : decode cX2_casesParted 52 = .ok (.laload, 1) := by decide +kernel
theorem dX2_casesParted_53 : decode cX2_casesParted 53 = .ok (.lmul, 1) := by decide +kernel
theorem dX2_casesParted_54 : decode cX2_casesParted 54 = .ok (.lreturn, 1) := by decide +kernel
theorem dX2_countWithin_0 : decode cX2_countWithin 0 = .ok (.aload_n 1, 1) := by decide +kernel
theorem dX2_countWithin_1 : decode cX2_countWithin 1 = .ok (.invokevirtual 36, 3) := by decide +kernel
theorem dX2_countWithin_4 : decode cX2_countWithin 4 = .ok (.istore_n 2, 1) := by decide +kernel
theorem dX2_countWithin_5 : decode cX2_countWithin 5 = .ok (.iconst 0, 1) := by decide +kernel
theorem dX2_countWithin_6 : decode cX2_countWithin 6 = .ok (.istore_n 3, 1) := by decide +kernel
theorem dX2_countWithin_7 : decode cX2_countWithin 7 = .ok (.iload_n 3, 1) := by decide +kernel
theorem dX2_countWithin_8 : decode cX2_countWithin 8 = .ok (.sipush 256, 3) := by decide +kernel
theorem dX2_countWithin_11 : decode cX2_countWithin 11 = .ok (.if_icmp .ge 73, 3) := by decide +kernel
theorem dX2_countWithin_14 : decode cX2_countWithin 14 = .ok (.aload_n 0, 1) := by decide +kernel
theorem dX2_countWithin_15 : decode cX2_countWithin 15 = .ok (.getfield 15, 3) := by decide +kernel
theorem dX2_countWithin_18 : decode cX2_countWithin 18 = .ok (.iload_n 3, 1) := by decide +kernel
theorem dX2_countWithin_19 : decode cX2_countWithin 19 = .ok (.iconst 0, 1) := by decide +kernel
theorem dX2_countWithin_20 : decode cX2_countWithin 20 = .ok (.iastore, 1) := by decide +kernel
theorem dX2_countWithin_21 : decode cX2_countWithin 21 = .ok (.iconst 0, 1) := by decide +kernel
theorem dX2_countWithin_22 : decode cX2_countWithin 22 = .ok (.istore 4, 2) := by decide +kernel
theorem dX2_countWithin_24 : decode cX2_countWithin 24 = .ok (.iload 4, 2) := by decide +kernel
theorem dX2_countWithin_26 : decode cX2_countWithin 26 = .ok (.aload_n 1, 1) := by decide +kernel
theorem dX2_countWithin_27 : decode cX2_countWithin 27 = .ok (.getfield 65, 3) := by decide +kernel
theorem dX2_countWithin_30 : decode cX2_countWithin 30 = .ok (.if_icmp .ge 48, 3) := by decide +kernel
theorem dX2_countWithin_33 : decode cX2_countWithin 33 = .ok (.aload_n 0, 1) := by decide +kernel
theorem dX2_countWithin_34 : decode cX2_countWithin 34 = .ok (.getfield 15, 3) := by decide +kernel
theorem dX2_countWithin_37 : decode cX2_countWithin 37 = .ok (.iload_n 3, 1) := by decide +kernel
theorem dX2_countWithin_38 : decode cX2_countWithin 38 = .ok (.dup2, 1) := by decide +kernel
theorem dX2_countWithin_39 : decode cX2_countWithin 39 = .ok (.iaload, 1) := by decide +kernel
theorem dX2_countWithin_40 : decode cX2_countWithin 40 = .ok (.iload_n 2, 1) := by decide +kernel
theorem dX2_countWithin_41 : decode cX2_countWithin 41 = .ok (.iload 4, 2) := by decide +kernel
theorem dX2_countWithin_43 : decode cX2_countWithin 43 = .ok (.invokestatic 68, 3) := by decide +kernel
theorem dX2_countWithin_46 : decode cX2_countWithin 46 = .ok (.iload_n 3, 1) := by decide +kernel
theorem dX2_countWithin_47 : decode cX2_countWithin 47 = .ok (.aload_n 1, 1) := by decide +kernel
theorem dX2_countWithin_48 : decode cX2_countWithin 48 = .ok (.getfield 72, 3) := by decide +kernel
theorem dX2_countWithin_51 : decode cX2_countWithin 51 = .ok (.iload 4, 2) := by decide +kernel
theorem dX2_countWithin_53 : decode cX2_countWithin 53 = .ok (.iaload, 1) := by decide +kernel
theorem dX2_countWithin_54 : decode cX2_countWithin 54 = .ok (.invokestatic 68, 3) := by decide +kernel
theorem dX2_countWithin_57 : decode cX2_countWithin 57 = .ok (.iand, 1) := by decide +kernel
theorem dX2_countWithin_58 : decode cX2_countWithin 58 = .ok (.iload_n 3, 1) := by decide +kernel
theorem dX2_countWithin_59 : decode cX2_countWithin 59 = .ok (.aload_n 1, 1) := by decide +kernel
theorem dX2_countWithin_60 : decode cX2_countWithin 60 = .ok (.getfield 75, 3) := by decide +kernel
theorem dX2_countWithin_63 : decode cX2_countWithin 63 = .ok (.iload 4, 2) := by decide +kernel
theorem dX2_countWithin_65 : decode cX2_countWithin 65 = .ok (.iaload, 1) := by decide +kernel
theorem dX2_countWithin_66 : decode cX2_countWithin 66 = .ok (.invokestatic 68, 3) := by decide +kernel
theorem dX2_countWithin_69 : decode cX2_countWithin 69 = .ok (.iand, 1) := by decide +kernel
theorem dX2_countWithin_70 : decode cX2_countWithin 70 = .ok (.iadd, 1) := by decide +kernel
theorem dX2_countWithin_71 : decode cX2_countWithin 71 = .ok (.iastore, 1) := by decide +kernel
theorem dX2_countWithin_72 : decode cX2_countWithin 72 = .ok (.iinc 4 1, 3) := by decide +kernel
theorem dX2_countWithin_75 : decode cX2_countWithin 75 = .ok (.goto (-51), 3) := by decide +kernel
theorem dX2_countWithin_78 : decode cX2_countWithin 78 = .ok (.iinc 3 1, 3) := by decide +kernel
theorem dX2_countWithin_81 : decode cX2_countWithin 81 = .ok (.goto (-74), 3) := by decide +kernel
theorem dX2_countWithin_84 : decode cX2_countWithin 84 = .ok (.return_, 1) := by decide +kernel
theorem dX2_fillPowers_0 : decode cX2_fillPowers 0 = .ok (.lconst 1, 1) := by decide +kernel
theorem dX2_fillPowers_1 : decode cX2_fillPowers 1 = .ok (.lstore_n 2, 1) := by decide +kernel
theorem dX2_fillPowers_2 : decode cX2_fillPowers 2 = .ok (.iconst 0, 1) := by decide +kernel
theorem dX2_fillPowers_3 : decode cX2_fillPowers 3 = .ok (.istore 4, 2) := by decide +kernel
theorem dX2_fillPowers_5 : decode cX2_fillPowers 5 = .ok (.iload 4, 2) := by decide +kernel
theorem dX2_fillPowers_7 : decode cX2_fillPowers 7 = .ok (.bipush 12, 2) := by decide +kernel
theorem dX2_fillPowers_9 : decode cX2_fillPowers 9 = .ok (.if_icmp .gt 22, 3) := by decide +kernel
theorem dX2_fillPowers_12 : decode cX2_fillPowers 12 = .ok (.aload_n 0, 1) := by decide +kernel
theorem dX2_fillPowers_13 : decode cX2_fillPowers 13 = .ok (.getfield 25, 3) := by decide +kernel
theorem dX2_fillPowers_16 : decode cX2_fillPowers 16 = .ok (.iload 4, 2) := by decide +kernel
theorem dX2_fillPowers_18 : decode cX2_fillPowers 18 = .ok (.lload_n 2, 1) := by decide +kernel
theorem dX2_fillPowers_19 : decode cX2_fillPowers 19 = .ok (.lastore, 1) := by decide +kernel
theorem dX2_fillPowers_20 : decode cX2_fillPowers 20 = .ok (.lload_n 2, 1) := by decide +kernel
theorem dX2_fillPowers_21 : decode cX2_fillPowers 21 = .ok (.iload_n 1, 1) := by decide +kernel
theorem dX2_fillPowers_22 : decode cX2_fillPowers 22 = .ok (.i2l, 1) := by decide +kernel
theorem dX2_fillPowers_23 : decode cX2_fillPowers 23 = .ok (.lmul, 1) := by decide +kernel
theorem dX2_fillPowers_24 : decode cX2_fillPowers 24 = .ok (.lstore_n 2, 1) := by decide +kernel
theorem dX2_fillPowers_25 : decode cX2_fillPowers 25 = .ok (.iinc 4 1, 3) := by decide +kernel
theorem dX2_fillPowers_28 : decode cX2_fillPowers 28 = .ok (.goto (-23), 3) := by decide +kernel
theorem dX2_fillPowers_31 : decode cX2_fillPowers 31 = .ok (.return_, 1) := by decide +kernel
theorem dX3_init_0 : decode cX3_init 0 = .ok (.aload_n 0, 1) := by decide +kernel
theorem dX3_init_1 : decode cX3_init 1 = .ok (.invokespecial 1, 3) := by decide +kernel
theorem dX3_init_4 : decode cX3_init 4 = .ok (.return_, 1) := by decide +kernel
theorem dX3_sees_0 : decode cX3_sees 0 = .ok (.aload_n 1, 1) := by decide +kernel
theorem dX3_sees_1 : decode cX3_sees 1 = .ok (.iload_n 2, 1) := by decide +kernel
theorem dX3_sees_2 : decode cX3_sees 2 = .ok (.invokevirtual 7, 3) := by decide +kernel
theorem dX3_sees_5 : decode cX3_sees 5 = .ok (.aload_n 1, 1) := by decide +kernel
theorem dX3_sees_6 : decode cX3_sees 6 = .ok (.getfield 13, 3) := by decide +kernel
theorem dX3_sees_9 : decode cX3_sees 9 = .ok (.iand, 1) := by decide +kernel
theorem dX3_sees_10 : decode cX3_sees 10 = .ok (.ifCond .eq 7, 3) := by decide +kernel
theorem dX3_sees_13 : decode cX3_sees 13 = .ok (.iconst 1, 1) := by decide +kernel
theorem dX3_sees_14 : decode cX3_sees 14 = .ok (.goto 4, 3) := by decide +kernel
theorem dX3_sees_17 : decode cX3_sees 17 = .ok (.iconst 0, 1) := by decide +kernel
theorem dX3_sees_18 : decode cX3_sees 18 = .ok (.istore 4, 2) := by decide +kernel
theorem dX3_sees_20 : decode cX3_sees 20 = .ok (.iload 4, 2) := by decide +kernel
theorem dX3_sees_22 : decode cX3_sees 22 = .ok (.ifCond .eq 7, 3) := by decide +kernel
theorem dX3_sees_25 : decode cX3_sees 25 = .ok (.iconst 0, 1) := by decide +kernel
theorem dX3_sees_26 : decode cX3_sees 26 = .ok (.goto 10, 3) := by decide +kernel
theorem dX3_sees_29 : decode cX3_sees 29 = .ok (.aload_n 0, 1) := by decide +kernel
theorem dX3_sees_30 : decode cX3_sees 30 = .ok (.aload_n 1, 1) := by decide +kernel
theorem dX3_sees_31 : decode cX3_sees 31 = .ok (.iload_n 2, 1) := by decide +kernel
theorem dX3_sees_32 : decode cX3_sees 32 = .ok (.aload_n 3, 1) := by decide +kernel
theorem dX3_sees_33 : decode cX3_sees 33 = .ok (.invokespecial 17, 3) := by decide +kernel
theorem dX3_sees_36 : decode cX3_sees 36 = .ok (.ireturn, 1) := by decide +kernel
theorem dX3_mark_0 : decode cX3_mark 0 = .ok (.aload_n 1, 1) := by decide +kernel
theorem dX3_mark_1 : decode cX3_mark 1 = .ok (.bipush 22, 2) := by decide +kernel
theorem dX3_mark_3 : decode cX3_mark 3 = .ok (.invokevirtual 21, 3) := by decide +kernel
theorem dX3_mark_6 : decode cX3_mark 6 = .ok (.aload_n 0, 1) := by decide +kernel
theorem dX3_mark_7 : decode cX3_mark 7 = .ok (.aload_n 1, 1) := by decide +kernel
theorem dX3_mark_8 : decode cX3_mark 8 = .ok (.invokespecial 27, 3) := by decide +kernel
theorem dX3_mark_11 : decode cX3_mark 11 = .ok (.sipush 1000, 3) := by decide +kernel
theorem dX3_mark_14 : decode cX3_mark 14 = .ok (.isub, 1) := by decide +kernel
theorem dX3_mark_15 : decode cX3_mark 15 = .ok (.ireturn, 1) := by decide +kernel
theorem dX4_init_0 : decode cX4_init 0 = .ok (.aload_n 0, 1) := by decide +kernel
theorem dX4_init_1 : decode cX4_init 1 = .ok (.invokespecial 1, 3) := by decide +kernel
theorem dX4_init_4 : decode cX4_init 4 = .ok (.return_, 1) := by decide +kernel
theorem dX4_sees_0 : decode cX4_sees 0 = .ok (.aload_n 3, 1) := by decide +kernel
theorem dX4_sees_1 : decode cX4_sees 1 = .ok (.getfield 7, 3) := by decide +kernel
theorem dX4_sees_4 : decode cX4_sees 4 = .ok (.aload_n 1, 1) := by decide +kernel
theorem dX4_sees_5 : decode cX4_sees 5 = .ok (.iload_n 2, 1) := by decide +kernel
theorem dX4_sees_6 : decode cX4_sees 6 = .ok (.invokevirtual 13, 3) := by decide +kernel
theorem dX4_sees_9 : decode cX4_sees 9 = .ok (.iand, 1) := by decide +kernel
theorem dX4_sees_10 : decode cX4_sees 10 = .ok (.ireturn, 1) := by decide +kernel
theorem dX4_size_0 : decode cX4_size 0 = .ok (.aload_n 1, 1) := by decide +kernel
theorem dX4_size_1 : decode cX4_size 1 = .ok (.bipush 11, 2) := by decide +kernel
theorem dX4_size_3 : decode cX4_size 3 = .ok (.invokevirtual 19, 3) := by decide +kernel
theorem dX4_size_6 : decode cX4_size 6 = .ok (.aload_n 0, 1) := by decide +kernel
theorem dX4_size_7 : decode cX4_size 7 = .ok (.aload_n 1, 1) := by decide +kernel
theorem dX4_size_8 : decode cX4_size 8 = .ok (.invokespecial 25, 3) := by decide +kernel
theorem dX4_size_11 : decode cX4_size 11 = .ok (.istore_n 2, 1) := by decide +kernel
theorem dX4_size_12 : decode cX4_size 12 = .ok (.iload_n 2, 1) := by decide +kernel
theorem dX4_size_13 : decode cX4_size 13 = .ok (.aload_n 0, 1) := by decide +kernel
theorem dX4_size_14 : decode cX4_size 14 = .ok (.aload_n 1, 1) := by decide +kernel
theorem dX4_size_15 : decode cX4_size 15 = .ok (.invokevirtual 29, 3) := by decide +kernel
theorem dX4_size_18 : decode cX4_size 18 = .ok (.iadd, 1) := by decide +kernel
theorem dX4_size_19 : decode cX4_size 19 = .ok (.ireturn, 1) := by decide +kernel
theorem dX4_mark_0 : decode cX4_mark 0 = .ok (.aload_n 1, 1) := by decide +kernel
theorem dX4_mark_1 : decode cX4_mark 1 = .ok (.bipush 21, 2) := by decide +kernel
theorem dX4_mark_3 : decode cX4_mark 3 = .ok (.invokevirtual 19, 3) := by decide +kernel
theorem dX4_mark_6 : decode cX4_mark 6 = .ok (.aload_n 0, 1) := by decide +kernel
theorem dX4_mark_7 : decode cX4_mark 7 = .ok (.aload_n 1, 1) := by decide +kernel
theorem dX4_mark_8 : decode cX4_mark 8 = .ok (.invokespecial 34, 3) := by decide +kernel
theorem dX4_mark_11 : decode cX4_mark 11 = .ok (.aload_n 1, 1) := by decide +kernel
theorem dX4_mark_12 : decode cX4_mark 12 = .ok (.getfield 35, 3) := by decide +kernel
theorem dX4_mark_15 : decode cX4_mark 15 = .ok (.iadd, 1) := by decide +kernel
theorem dX4_mark_16 : decode cX4_mark 16 = .ok (.ireturn, 1) := by decide +kernel
theorem dX5_init_0 : decode cX5_init 0 = .ok (.aload_n 0, 1) := by decide +kernel
theorem dX5_init_1 : decode cX5_init 1 = .ok (.invokespecial 3, 3) := by decide +kernel
theorem dX5_init_4 : decode cX5_init 4 = .ok (.aload_n 0, 1) := by decide +kernel
theorem dX5_init_5 : decode cX5_init 5 = .ok (.aload_n 1, 1) := by decide +kernel
theorem dX5_init_6 : decode cX5_init 6 = .ok (.putfield 9, 3) := by decide +kernel
theorem dX5_init_9 : decode cX5_init 9 = .ok (.aload_n 0, 1) := by decide +kernel
theorem dX5_init_10 : decode cX5_init 10 = .ok (.bipush 12, 2) := by decide +kernel
theorem dX5_init_12 : decode cX5_init 12 = .ok (.newarray .int, 2) := by decide +kernel
theorem dX5_init_14 : decode cX5_init 14 = .ok (.putfield 15, 3) := by decide +kernel
theorem dX5_init_17 : decode cX5_init 17 = .ok (.aload_n 0, 1) := by decide +kernel
theorem dX5_init_18 : decode cX5_init 18 = .ok (.bipush 12, 2) := by decide +kernel
theorem dX5_init_20 : decode cX5_init 20 = .ok (.newarray .int, 2) := by decide +kernel
theorem dX5_init_22 : decode cX5_init 22 = .ok (.putfield 19, 3) := by decide +kernel
theorem dX5_init_25 : decode cX5_init 25 = .ok (.aload_n 0, 1) := by decide +kernel
theorem dX5_init_26 : decode cX5_init 26 = .ok (.bipush 12, 2) := by decide +kernel
theorem dX5_init_28 : decode cX5_init 28 = .ok (.newarray .int, 2) := by decide +kernel
theorem dX5_init_30 : decode cX5_init 30 = .ok (.putfield 22, 3) := by decide +kernel
theorem dX5_init_33 : decode cX5_init 33 = .ok (.aload_n 0, 1) := by decide +kernel
theorem dX5_init_34 : decode cX5_init 34 = .ok (.bipush 6, 2) := by decide +kernel
theorem dX5_init_36 : decode cX5_init 36 = .ok (.newarray .int, 2) := by decide +kernel
theorem dX5_init_38 : decode cX5_init 38 = .ok (.putfield 25, 3) := by decide +kernel
theorem dX5_init_41 : decode cX5_init 41 = .ok (.aload_n 0, 1) := by decide +kernel
theorem dX5_init_42 : decode cX5_init 42 = .ok (.bipush 6, 2) := by decide +kernel
theorem dX5_init_44 : decode cX5_init 44 = .ok (.newarray .int, 2) := by decide +kernel
theorem dX5_init_46 : decode cX5_init 46 = .ok (.putfield 28, 3) := by decide +kernel
theorem dX5_init_49 : decode cX5_init 49 = .ok (.aload_n 0, 1) := by decide +kernel
theorem dX5_init_50 : decode cX5_init 50 = .ok (.bipush 6, 2) := by decide +kernel
theorem dX5_init_52 : decode cX5_init 52 = .ok (.newarray .int, 2) := by decide +kernel
theorem dX5_init_54 : decode cX5_init 54 = .ok (.putfield 31, 3) := by decide +kernel
theorem dX5_init_57 : decode cX5_init 57 = .ok (.aload_n 0, 1) := by decide +kernel
theorem dX5_init_58 : decode cX5_init 58 = .ok (.bipush 6, 2) := by decide +kernel
theorem dX5_init_60 : decode cX5_init 60 = .ok (.newarray .int, 2) := by decide +kernel
theorem dX5_init_62 : decode cX5_init 62 = .ok (.putfield 34, 3) := by decide +kernel
theorem dX5_init_65 : decode cX5_init 65 = .ok (.return_, 1) := by decide +kernel
theorem dX5_clear_0 : decode cX5_clear 0 = .ok (.aload_n 0, 1) := by decide +kernel
theorem dX5_clear_1 : decode cX5_clear 1 = .ok (.iconst 0, 1) := by decide +kernel
theorem dX5_clear_2 : decode cX5_clear 2 = .ok (.putfield 37, 3) := by decide +kernel
theorem dX5_clear_5 : decode cX5_clear 5 = .ok (.aload_n 0, 1) := by decide +kernel
theorem dX5_clear_6 : decode cX5_clear 6 = .ok (.iconst 0, 1) := by decide +kernel
theorem dX5_clear_7 : decode cX5_clear 7 = .ok (.putfield 41, 3) := by decide +kernel
theorem dX5_clear_10 : decode cX5_clear 10 = .ok (.aload_n 0, 1) := by decide +kernel
theorem dX5_clear_11 : decode cX5_clear 11 = .ok (.iconst 0, 1) := by decide +kernel
theorem dX5_clear_12 : decode cX5_clear 12 = .ok (.putfield 44, 3) := by decide +kernel
theorem dX5_clear_15 : decode cX5_clear 15 = .ok (.aload_n 0, 1) := by decide +kernel
theorem dX5_clear_16 : decode cX5_clear 16 = .ok (.iconst 0, 1) := by decide +kernel
theorem dX5_clear_17 : decode cX5_clear 17 = .ok (.putfield 47, 3) := by decide +kernel
theorem dX5_clear_20 : decode cX5_clear 20 = .ok (.return_, 1) := by decide +kernel
theorem dX5_become_0 : decode cX5_become 0 = .ok (.aload_n 0, 1) := by decide +kernel
theorem dX5_become_1 : decode cX5_become 1 = .ok (.aload_n 1, 1) := by decide +kernel
theorem dX5_become_2 : decode cX5_become 2 = .ok (.getfield 50, 3) := by decide +kernel
theorem dX5_become_5 : decode cX5_become 5 = .ok (.putfield 50, 3) := by decide +kernel
theorem dX5_become_8 : decode cX5_become 8 = .ok (.aload_n 0, 1) := by decide +kernel
theorem dX5_become_9 : decode cX5_become 9 = .ok (.aload_n 1, 1) := by decide +kernel
theorem dX5_become_10 : decode cX5_become 10 = .ok (.getfield 54, 3) := by decide +kernel
theorem dX5_become_13 : decode cX5_become 13 = .ok (.putfield 54, 3) := by decide +kernel
theorem dX5_become_16 : decode cX5_become 16 = .ok (.aload_n 0, 1) := by decide +kernel
theorem dX5_become_17 : decode cX5_become 17 = .ok (.aload_n 1, 1) := by decide +kernel
theorem dX5_become_18 : decode cX5_become 18 = .ok (.getfield 57, 3) := by decide +kernel
theorem dX5_become_21 : decode cX5_become 21 = .ok (.putfield 57, 3) := by decide +kernel
theorem dX5_become_24 : decode cX5_become 24 = .ok (.aload_n 0, 1) := by decide +kernel
theorem dX5_become_25 : decode cX5_become 25 = .ok (.aload_n 1, 1) := by decide +kernel
theorem dX5_become_26 : decode cX5_become 26 = .ok (.getfield 37, 3) := by decide +kernel
theorem dX5_become_29 : decode cX5_become 29 = .ok (.putfield 37, 3) := by decide +kernel
theorem dX5_become_32 : decode cX5_become 32 = .ok (.aload_n 0, 1) := by decide +kernel
theorem dX5_become_33 : decode cX5_become 33 = .ok (.aload_n 1, 1) := by decide +kernel
theorem dX5_become_34 : decode cX5_become 34 = .ok (.getfield 41, 3) := by decide +kernel
theorem dX5_become_37 : decode cX5_become 37 = .ok (.putfield 41, 3) := by decide +kernel
theorem dX5_become_40 : decode cX5_become 40 = .ok (.aload_n 0, 1) := by decide +kernel
theorem dX5_become_41 : decode cX5_become 41 = .ok (.aload_n 1, 1) := by decide +kernel
theorem dX5_become_42 : decode cX5_become 42 = .ok (.getfield 44, 3) := by decide +kernel
theorem dX5_become_45 : decode cX5_become 45 = .ok (.putfield 44, 3) := by decide +kernel
theorem dX5_become_48 : decode cX5_become 48 = .ok (.aload_n 0, 1) := by decide +kernel
theorem dX5_become_49 : decode cX5_become 49 = .ok (.aload_n 1, 1) := by decide +kernel
theorem dX5_become_50 : decode cX5_become 50 = .ok (.getfield 47, 3) := by decide +kernel
theorem dX5_become_53 : decode cX5_become 53 = .ok (.putfield 47, 3) := by decide +kernel
theorem dX5_become_56 : decode cX5_become 56 = .ok (.aload_n 1, 1) := by decide +kernel
theorem dX5_become_57 : decode cX5_become 57 = .ok (.getfield 15, 3) := by decide +kernel
theorem dX5_become_60 : decode cX5_become 60 = .ok (.iconst 0, 1) := by decide +kernel
theorem dX5_become_61 : decode cX5_become 61 = .ok (.aload_n 0, 1) := by decide +kernel
theorem dX5_become_62 : decode cX5_become 62 = .ok (.getfield 15, 3) := by decide +kernel
theorem dX5_become_65 : decode cX5_become 65 = .ok (.iconst 0, 1) := by decide +kernel
theorem dX5_become_66 : decode cX5_become 66 = .ok (.bipush 12, 2) := by decide +kernel
theorem dX5_become_68 : decode cX5_become 68 = .ok (.invokestatic 60, 3) := by decide +kernel
theorem dX5_become_71 : decode cX5_become 71 = .ok (.aload_n 1, 1) := by decide +kernel
theorem dX5_become_72 : decode cX5_become 72 = .ok (.getfield 19, 3) := by decide +kernel
theorem dX5_become_75 : decode cX5_become 75 = .ok (.iconst 0, 1) := by decide +kernel
theorem dX5_become_76 : decode cX5_become 76 = .ok (.aload_n 0, 1) := by decide +kernel
theorem dX5_become_77 : decode cX5_become 77 = .ok (.getfield 19, 3) := by decide +kernel
theorem dX5_become_80 : decode cX5_become 80 = .ok (.iconst 0, 1) := by decide +kernel
theorem dX5_become_81 : decode cX5_become 81 = .ok (.bipush 12, 2) := by decide +kernel
theorem dX5_become_83 : decode cX5_become 83 = .ok (.invokestatic 60, 3) := by decide +kernel
theorem dX5_become_86 : decode cX5_become 86 = .ok (.aload_n 1, 1) := by decide +kernel
theorem dX5_become_87 : decode cX5_become 87 = .ok (.getfield 22, 3) := by decide +kernel
theorem dX5_become_90 : decode cX5_become 90 = .ok (.iconst 0, 1) := by decide +kernel
theorem dX5_become_91 : decode cX5_become 91 = .ok (.aload_n 0, 1) := by decide +kernel
theorem dX5_become_92 : decode cX5_become 92 = .ok (.getfield 22, 3) := by decide +kernel
theorem dX5_become_95 : decode cX5_become 95 = .ok (.iconst 0, 1) := by decide +kernel
theorem dX5_become_96 : decode cX5_become 96 = .ok (.bipush 12, 2) := by decide +kernel
theorem dX5_become_98 : decode cX5_become 98 = .ok (.invokestatic 60, 3) := by decide +kernel
theorem dX5_become_101 : decode cX5_become 101 = .ok (.aload_n 1, 1) := by decide +kernel
theorem dX5_become_102 : decode cX5_become 102 = .ok (.getfield 25, 3) := by decide +kernel
theorem dX5_become_105 : decode cX5_become 105 = .ok (.iconst 0, 1) := by decide +kernel
theorem dX5_become_106 : decode cX5_become 106 = .ok (.aload_n 0, 1) := by decide +kernel
theorem dX5_become_107 : decode cX5_become 107 = .ok (.getfield 25, 3) := by decide +kernel
theorem dX5_become_110 : decode cX5_become 110 = .ok (.iconst 0, 1) := by decide +kernel
theorem dX5_become_111 : decode cX5_become 111 = .ok (.bipush 6, 2) := by decide +kernel
theorem dX5_become_113 : decode cX5_become 113 = .ok (.invokestatic 60, 3) := by decide +kernel
theorem dX5_become_116 : decode cX5_become 116 = .ok (.aload_n 1, 1) := by decide +kernel
theorem dX5_become_117 : decode cX5_become 117 = .ok (.getfield 28, 3) := by decide +kernel
theorem dX5_become_120 : decode cX5_become 120 = .ok (.iconst 0, 1) := by decide +kernel
theorem dX5_become_121 : decode cX5_become 121 = .ok (.aload_n 0, 1) := by decide +kernel
theorem dX5_become_122 : decode cX5_become 122 = .ok (.getfield 28, 3) := by decide +kernel
theorem dX5_become_125 : decode cX5_become 125 = .ok (.iconst 0, 1) := by decide +kernel
theorem dX5_become_126 : decode cX5_become 126 = .ok (.bipush 6, 2) := by decide +kernel
theorem dX5_become_128 : decode cX5_become 128 = .ok (.invokestatic 60, 3) := by decide +kernel
theorem dX5_become_131 : decode cX5_become 131 = .ok (.aload_n 1, 1) := by decide +kernel
theorem dX5_become_132 : decode cX5_become 132 = .ok (.getfield 31, 3) := by decide +kernel
theorem dX5_become_135 : decode cX5_become 135 = .ok (.iconst 0, 1) := by decide +kernel
theorem dX5_become_136 : decode cX5_become 136 = .ok (.aload_n 0, 1) := by decide +kernel
theorem dX5_become_137 : decode cX5_become 137 = .ok (.getfield 31, 3) := by decide +kernel
theorem dX5_become_140 : decode cX5_become 140 = .ok (.iconst 0, 1) := by decide +kernel
theorem dX5_become_141 : decode cX5_become 141 = .ok (.bipush 6, 2) := by decide +kernel
theorem dX5_become_143 : decode cX5_become 143 = .ok (.invokestatic 60, 3) := by decide +kernel
theorem dX5_become_146 : decode cX5_become 146 = .ok (.aload_n 1, 1) := by decide +kernel
theorem dX5_become_147 : decode cX5_become 147 = .ok (.getfield 34, 3) := by decide +kernel
theorem dX5_become_150 : decode cX5_become 150 = .ok (.iconst 0, 1) := by decide +kernel
theorem dX5_become_151 : decode cX5_become 151 = .ok (.aload_n 0, 1) := by decide +kernel
theorem dX5_become_152 : decode cX5_become 152 = .ok (.getfield 34, 3) := by decide +kernel
theorem dX5_become_155 : decode cX5_become 155 = .ok (.iconst 0, 1) := by decide +kernel
theorem dX5_become_156 : decode cX5_become 156 = .ok (.bipush 6, 2) := by decide +kernel
theorem dX5_become_158 : decode cX5_become 158 = .ok (.invokestatic 60, 3) := by decide +kernel
theorem dX5_become_161 : decode cX5_become 161 = .ok (.return_, 1) := by decide +kernel
theorem dX5_save_0 : decode cX5_save 0 = .ok (.aload_n 1, 1) := by decide +kernel
theorem dX5_save_1 : decode cX5_save 1 = .ok (.iconst 0, 1) := by decide +kernel
theorem dX5_save_2 : decode cX5_save 2 = .ok (.aload_n 0, 1) := by decide +kernel
theorem dX5_save_3 : decode cX5_save 3 = .ok (.getfield 37, 3) := by decide +kernel
theorem dX5_save_6 : decode cX5_save 6 = .ok (.iastore, 1) := by decide +kernel
theorem dX5_save_7 : decode cX5_save 7 = .ok (.aload_n 1, 1) := by decide +kernel
theorem dX5_save_8 : decode cX5_save 8 = .ok (.iconst 1, 1) := by decide +kernel
theorem dX5_save_9 : decode cX5_save 9 = .ok (.aload_n 0, 1) := by decide +kernel
theorem dX5_save_10 : decode cX5_save 10 = .ok (.getfield 47, 3) := by decide +kernel
theorem dX5_save_13 : decode cX5_save 13 = .ok (.iastore, 1) := by decide +kernel
theorem dX5_save_14 : decode cX5_save 14 = .ok (.aload_n 0, 1) := by decide +kernel
theorem dX5_save_15 : decode cX5_save 15 = .ok (.getfield 31, 3) := by decide +kernel
theorem dX5_save_18 : decode cX5_save 18 = .ok (.iconst 0, 1) := by decide +kernel
theorem dX5_save_19 : decode cX5_save 19 = .ok (.aload_n 1, 1) := by decide +kernel
theorem dX5_save_20 : decode cX5_save 20 = .ok (.iconst 2, 1) := by decide +kernel
theorem dX5_save_21 : decode cX5_save 21 = .ok (.bipush 6, 2) := by decide +kernel
theorem dX5_save_23 : decode cX5_save 23 = .ok (.invokestatic 60, 3) := by decide +kernel
theorem dX5_save_26 : decode cX5_save 26 = .ok (.aload_n 0, 1) := by decide +kernel
theorem dX5_save_27 : decode cX5_save 27 = .ok (.getfield 34, 3) := by decide +kernel
theorem dX5_save_30 : decode cX5_save 30 = .ok (.iconst 0, 1) := by decide +kernel
theorem dX5_save_31 : decode cX5_save 31 = .ok (.aload_n 1, 1) := by decide +kernel
theorem dX5_save_32 : decode cX5_save 32 = .ok (.bipush 8, 2) := by decide +kernel
theorem dX5_save_34 : decode cX5_save 34 = .ok (.bipush 6, 2) := by decide +kernel
theorem dX5_save_36 : decode cX5_save 36 = .ok (.invokestatic 60, 3) := by decide +kernel
theorem dX5_save_39 : decode cX5_save 39 = .ok (.return_, 1) := by decide +kernel
theorem dX5_load_0 : decode cX5_load 0 = .ok (.aload_n 0, 1) := by decide +kernel
theorem dX5_load_1 : decode cX5_load 1 = .ok (.aload_n 1, 1) := by decide +kernel
theorem dX5_load_2 : decode cX5_load 2 = .ok (.iconst 0, 1) := by decide +kernel
theorem dX5_load_3 : decode cX5_load 3 = .ok (.iaload, 1) := by decide +kernel
theorem dX5_load_4 : decode cX5_load 4 = .ok (.putfield 37, 3) := by decide +kernel
theorem dX5_load_7 : decode cX5_load 7 = .ok (.aload_n 0, 1) := by decide +kernel
theorem dX5_load_8 : decode cX5_load 8 = .ok (.aload_n 1, 1) := by decide +kernel
theorem dX5_load_9 : decode cX5_load 9 = .ok (.iconst 1, 1) := by decide +kernel
theorem dX5_load_10 : decode cX5_load 10 = .ok (.iaload, 1) := by decide +kernel
theorem dX5_load_11 : decode cX5_load 11 = .ok (.putfield 47, 3) := by decide +kernel
theorem dX5_load_14 : decode cX5_load 14 = .ok (.aload_n 1, 1) := by decide +kernel
theorem dX5_load_15 : decode cX5_load 15 = .ok (.iconst 2, 1) := by decide +kernel
theorem dX5_load_16 : decode cX5_load 16 = .ok (.aload_n 0, 1) := by decide +kernel
theorem dX5_load_17 : decode cX5_load 17 = .ok (.getfield 31, 3) := by decide +kernel
theorem dX5_load_20 : decode cX5_load 20 = .ok (.iconst 0, 1) := by decide +kernel
theorem dX5_load_21 : decode cX5_load 21 = .ok (.bipush 6, 2) := by decide +kernel
theorem dX5_load_23 : decode cX5_load 23 = .ok (.invokestatic 60, 3) := by decide +kernel
theorem dX5_load_26 : decode cX5_load 26 = .ok (.aload_n 1, 1) := by decide +kernel
theorem dX5_load_27 : decode cX5_load 27 = .ok (.bipush 8, 2) := by decide +kernel
theorem dX5_load_29 : decode cX5_load 29 = .ok (.aload_n 0, 1) := by decide +kernel
theorem dX5_load_30 : decode cX5_load 30 = .ok (.getfield 34, 3) := by decide +kernel
theorem dX5_load_33 : decode cX5_load 33 = .ok (.iconst 0, 1) := by decide +kernel
theorem dX5_load_34 : decode cX5_load 34 = .ok (.bipush 6, 2) := by decide +kernel
theorem dX5_load_36 : decode cX5_load 36 = .ok (.invokestatic 60, 3) := by decide +kernel
theorem dX5_load_39 : decode cX5_load 39 = .ok (.return_, 1) := by decide +kernel
theorem dX5_addPath_0 : decode cX5_addPath 0 = .ok (.aload_n 0, 1) := by decide +kernel
theorem dX5_addPath_1 : decode cX5_addPath 1 = .ok (.getfield 15, 3) := by decide +kernel
theorem dX5_addPath_4 : decode cX5_addPath 4 = .ok (.aload_n 0, 1) := by decide +kernel
theorem dX5_addPath_5 : decode cX5_addPath 5 = .ok (.getfield 41, 3) := by decide +kernel
theorem dX5_addPath_8 : decode cX5_addPath 8 = .ok (.iload_n 1, 1) := by decide +kernel
theorem dX5_addPath_9 : decode cX5_addPath 9 = .ok (.iastore, 1) := by decide +kernel
theorem dX5_addPath_10 : decode cX5_addPath 10 = .ok (.aload_n 0, 1) := by decide +kernel
theorem dX5_addPath_11 : decode cX5_addPath 11 = .ok (.getfield 19, 3) := by decide +kernel
theorem dX5_addPath_14 : decode cX5_addPath 14 = .ok (.aload_n 0, 1) := by decide +kernel
theorem dX5_addPath_15 : decode cX5_addPath 15 = .ok (.getfield 41, 3) := by decide +kernel
theorem dX5_addPath_18 : decode cX5_addPath 18 = .ok (.iload_n 2, 1) := by decide +kernel
theorem dX5_addPath_19 : decode cX5_addPath 19 = .ok (.iastore, 1) := by decide +kernel
theorem dX5_addPath_20 : decode cX5_addPath 20 = .ok (.aload_n 0, 1) := by decide +kernel
theorem dX5_addPath_21 : decode cX5_addPath 21 = .ok (.getfield 22, 3) := by decide +kernel
theorem dX5_addPath_24 : decode cX5_addPath 24 = .ok (.aload_n 0, 1) := by decide +kernel
theorem dX5_addPath_25 : decode cX5_addPath 25 = .ok (.getfield 41, 3) := by decide +kernel
theorem dX5_addPath_28 : decode cX5_addPath 28 = .ok (.iload_n 3, 1) := by decide +kernel
theorem dX5_addPath_29 : decode cX5_addPath 29 = .ok (.iastore, 1) := by decide +kernel
theorem dX5_addPath_30 : decode cX5_addPath 30 = .ok (.aload_n 0, 1) := by decide +kernel
theorem dX5_addPath_31 : decode cX5_addPath 31 = .ok (.dup, 1) := by decide +kernel
theorem dX5_addPath_32 : decode cX5_addPath 32 = .ok (.getfield 41, 3) := by decide +kernel
theorem dX5_addPath_35 : decode cX5_addPath 35 = .ok (.iconst 1, 1) := by decide +kernel
theorem dX5_addPath_36 : decode cX5_addPath 36 = .ok (.iadd, 1) := by decide +kernel
theorem dX5_addPath_37 : decode cX5_addPath 37 = .ok (.putfield 41, 3) := by decide +kernel
theorem dX5_addPath_40 : decode cX5_addPath 40 = .ok (.return_, 1) := by decide +kernel
theorem dX5_addWitness_0 : decode cX5_addWitness 0 = .ok (.aload_n 0, 1) := by decide +kernel
theorem dX5_addWitness_1 : decode cX5_addWitness 1 = .ok (.getfield 25, 3) := by decide +kernel
theorem dX5_addWitness_4 : decode cX5_addWitness 4 = .ok (.aload_n 0, 1) := by decide +kernel
theorem dX5_addWitness_5 : decode cX5_addWitness 5 = .ok (.getfield 44, 3) := by decide +kernel
theorem dX5_addWitness_8 : decode cX5_addWitness 8 = .ok (.iload_n 1, 1) := by decide +kernel
theorem dX5_addWitness_9 : decode cX5_addWitness 9 = .ok (.iastore, 1) := by decide +kernel
theorem dX5_addWitness_10 : decode cX5_addWitness 10 = .ok (.aload_n 0, 1) := by decide +kernel
theorem dX5_addWitness_11 : decode cX5_addWitness 11 = .ok (.getfield 31, 3) := by decide +kernel
theorem dX5_addWitness_14 : decode cX5_addWitness 14 = .ok (.aload_n 0, 1) := by decide +kernel
theorem dX5_addWitness_15 : decode cX5_addWitness 15 = .ok (.getfield 44, 3) := by decide +kernel
theorem dX5_addWitness_18 : decode cX5_addWitness 18 = .ok (.iload_n 2, 1) := by decide +kernel
theorem dX5_addWitness_19 : decode cX5_addWitness 19 = .ok (.iastore, 1) := by decide +kernel
theorem dX5_addWitness_20 : decode cX5_addWitness 20 = .ok (.aload_n 0, 1) := by decide +kernel
theorem dX5_addWitness_21 : decode cX5_addWitness 21 = .ok (.getfield 28, 3) := by decide +kernel
theorem dX5_addWitness_24 : decode cX5_addWitness 24 = .ok (.aload_n 0, 1) := by decide +kernel
theorem dX5_addWitness_25 : decode cX5_addWitness 25 = .ok (.getfield 44, 3) := by decide +kernel
theorem dX5_addWitness_28 : decode cX5_addWitness 28 = .ok (.iload_n 3, 1) := by decide +kernel
theorem dX5_addWitness_29 : decode cX5_addWitness 29 = .ok (.iastore, 1) := by decide +kernel
theorem dX5_addWitness_30 : decode cX5_addWitness 30 = .ok (.aload_n 0, 1) := by decide +kernel
theorem dX5_addWitness_31 : decode cX5_addWitness 31 = .ok (.getfield 34, 3) := by decide +kernel
theorem dX5_addWitness_34 : decode cX5_addWitness 34 = .ok (.aload_n 0, 1) := by decide +kernel
theorem dX5_addWitness_35 : decode cX5_addWitness 35 = .ok (.getfield 44, 3) := by decide +kernel
theorem dX5_addWitness_38 : decode cX5_addWitness 38 = .ok (.iconst 0, 1) := by decide +kernel
theorem dX5_addWitness_39 : decode cX5_addWitness 39 = .ok (.iastore, 1) := by decide +kernel
theorem dX5_addWitness_40 : decode cX5_addWitness 40 = .ok (.aload_n 0, 1) := by decide +kernel
theorem dX5_addWitness_41 : decode cX5_addWitness 41 = .ok (.dup, 1) := by decide +kernel
theorem dX5_addWitness_42 : decode cX5_addWitness 42 = .ok (.getfield 44, 3) := by decide +kernel
theorem dX5_addWitness_45 : decode cX5_addWitness 45 = .ok (.iconst 1, 1) := by decide +kernel
theorem dX5_addWitness_46 : decode cX5_addWitness 46 = .ok (.iadd, 1) := by decide +kernel
theorem dX5_addWitness_47 : decode cX5_addWitness 47 = .ok (.putfield 44, 3) := by decide +kernel
theorem dX5_addWitness_50 : decode cX5_addWitness 50 = .ok (.return_, 1) := by decide +kernel
theorem dX5_hasPath_0 : decode cX5_hasPath 0 = .ok (.iload_n 1, 1) := by decide +kernel
theorem dX5_hasPath_1 : decode cX5_hasPath 1 = .ok (.ifCond .lt 15, 3) := by decide +kernel
theorem dX5_hasPath_4 : decode cX5_hasPath 4 = .ok (.iload_n 1, 1) := by decide +kernel
theorem dX5_hasPath_5 : decode cX5_hasPath 5 = .ok (.aload_n 0, 1) := by decide +kernel
theorem dX5_hasPath_6 : decode cX5_hasPath 6 = .ok (.getfield 41, 3) := by decide +kernel
theorem dX5_hasPath_9 : decode cX5_hasPath 9 = .ok (.if_icmp .ge 7, 3) := by decide +kernel
theorem dX5_hasPath_12 : decode cX5_hasPath 12 = .ok (.iconst 1, 1) := by decide +kernel
theorem dX5_hasPath_13 : decode cX5_hasPath 13 = .ok (.goto 4, 3) := by decide +kernel
theorem dX5_hasPath_16 : decode cX5_hasPath 16 = .ok (.iconst 0, 1) := by decide +kernel
theorem dX5_hasPath_17 : decode cX5_hasPath 17 = .ok (.ireturn, 1) := by decide +kernel
theorem dX5_hasWitness_0 : decode cX5_hasWitness 0 = .ok (.iload_n 1, 1) := by decide +kernel
theorem dX5_hasWitness_1 : decode cX5_hasWitness 1 = .ok (.ifCond .lt 15, 3) := by decide +kernel
theorem dX5_hasWitness_4 : decode cX5_hasWitness 4 = .ok (.iload_n 1, 1) := by decide +kernel
theorem dX5_hasWitness_5 : decode cX5_hasWitness 5 = .ok (.aload_n 0, 1) := by decide +kernel
theorem dX5_hasWitness_6 : decode cX5_hasWitness 6 = .ok (.getfield 44, 3) := by decide +kernel
theorem dX5_hasWitness_9 : decode cX5_hasWitness 9 = .ok (.if_icmp .ge 7, 3) := by decide +kernel
theorem dX5_hasWitness_12 : decode cX5_hasWitness 12 = .ok (.iconst 1, 1) := by decide +kernel
theorem dX5_hasWitness_13 : decode cX5_hasWitness 13 = .ok (.goto 4, 3) := by decide +kernel
theorem dX5_hasWitness_16 : decode cX5_hasWitness 16 = .ok (.iconst 0, 1) := by decide +kernel
theorem dX5_hasWitness_17 : decode cX5_hasWitness 17 = .ok (.ireturn, 1) := by decide +kernel
theorem dX5_isJoined_0 : decode cX5_isJoined 0 = .ok (.aload_n 0, 1) := by decide +kernel
theorem dX5_isJoined_1 : decode cX5_isJoined 1 = .ok (.iload_n 1, 1) := by decide +kernel
theorem dX5_isJoined_2 : decode cX5_isJoined 2 = .ok (.invokevirtual 66, 3) := by decide +kernel
theorem dX5_isJoined_5 : decode cX5_isJoined 5 = .ok (.aload_n 0, 1) := by decide +kernel
theorem dX5_isJoined_6 : decode cX5_isJoined 6 = .ok (.iload_n 2, 1) := by decide +kernel
theorem dX5_isJoined_7 : decode cX5_isJoined 7 = .ok (.invokevirtual 66, 3) := by decide +kernel
theorem dX5_isJoined_10 : decode cX5_isJoined 10 = .ok (.iand, 1) := by decide +kernel
theorem dX5_isJoined_11 : decode cX5_isJoined 11 = .ok (.ifCond .eq 7, 3) := by decide +kernel
theorem dX5_isJoined_14 : decode cX5_isJoined 14 = .ok (.iconst 1, 1) := by decide +kernel
theorem dX5_isJoined_15 : decode cX5_isJoined 15 = .ok (.goto 4, 3) := by decide +kernel
theorem dX5_isJoined_18 : decode cX5_isJoined 18 = .ok (.iconst 0, 1) := by decide +kernel
theorem dX5_isJoined_19 : decode cX5_isJoined 19 = .ok (.ireturn, 1) := by decide +kernel
theorem dX5_allPaths_0 : decode cX5_allPaths 0 = .ok (.iconst 1, 1) := by decide +kernel
theorem dX5_allPaths_1 : decode cX5_allPaths 1 = .ok (.aload_n 0, 1) := by decide +kernel
theorem dX5_allPaths_2 : decode cX5_allPaths 2 = .ok (.getfield 41, 3) := by decide +kernel
theorem dX5_allPaths_5 : decode cX5_allPaths 5 = .ok (.ishl, 1) := by decide +kernel
theorem dX5_allPaths_6 : decode cX5_allPaths 6 = .ok (.iconst 1, 1) := by decide +kernel
theorem dX5_allPaths_7 : decode cX5_allPaths 7 = .ok (.isub, 1) := by decide +kernel
theorem dX5_allPaths_8 : decode cX5_allPaths 8 = .ok (.ireturn, 1) := by decide +kernel
theorem dX5_open_0 : decode cX5_open 0 = .ok (.aload_n 0, 1) := by decide +kernel
theorem dX5_open_1 : decode cX5_open 1 = .ok (.invokevirtual 70, 3) := by decide +kernel
theorem dX5_open_4 : decode cX5_open 4 = .ok (.aload_n 0, 1) := by decide +kernel
theorem dX5_open_5 : decode cX5_open 5 = .ok (.getfield 47, 3) := by decide +kernel
theorem dX5_open_8 : decode cX5_open 8 = .ok (.iconst (-1), 1) := by decide +kernel
theorem dX5_open_9 : decode cX5_open 9 = .ok (.ixor, 1) := by decide +kernel
theorem dX5_open_10 : decode cX5_open 10 = .ok (.iand, 1) := by decide +kernel
theorem dX5_open_11 : decode cX5_open 11 = .ok (.ireturn, 1) := by decide +kernel
theorem dX5_pathsAt_0 : decode cX5_pathsAt 0 = .ok (.iconst 0, 1) := by decide +kernel
theorem dX5_pathsAt_1 : decode cX5_pathsAt 1 = .ok (.istore_n 2, 1) := by decide +kernel
theorem dX5_pathsAt_2 : decode cX5_pathsAt 2 = .ok (.iconst 0, 1) := by decide +kernel
theorem dX5_pathsAt_3 : decode cX5_pathsAt 3 = .ok (.istore_n 3, 1) := by decide +kernel
theorem dX5_pathsAt_4 : decode cX5_pathsAt 4 = .ok (.iload_n 3, 1) := by decide +kernel
theorem dX5_pathsAt_5 : decode cX5_pathsAt 5 = .ok (.aload_n 0, 1) := by decide +kernel
theorem dX5_pathsAt_6 : decode cX5_pathsAt 6 = .ok (.getfield 41, 3) := by decide +kernel
theorem dX5_pathsAt_9 : decode cX5_pathsAt 9 = .ok (.if_icmp .ge 35, 3) := by decide +kernel
theorem dX5_pathsAt_12 : decode cX5_pathsAt 12 = .ok (.aload_n 0, 1) := by decide +kernel
theorem dX5_pathsAt_13 : decode cX5_pathsAt 13 = .ok (.getfield 15, 3) := by decide +kernel
theorem dX5_pathsAt_16 : decode cX5_pathsAt 16 = .ok (.iload_n 3, 1) := by decide +kernel
theorem dX5_pathsAt_17 : decode cX5_pathsAt 17 = .ok (.iaload, 1) := by decide +kernel
theorem dX5_pathsAt_18 : decode cX5_pathsAt 18 = .ok (.iload_n 1, 1) := by decide +kernel
theorem dX5_pathsAt_19 : decode cX5_pathsAt 19 = .ok (.if_icmp .eq 13, 3) := by decide +kernel
theorem dX5_pathsAt_22 : decode cX5_pathsAt 22 = .ok (.aload_n 0, 1) := by decide +kernel
theorem dX5_pathsAt_23 : decode cX5_pathsAt 23 = .ok (.getfield 19, 3) := by decide +kernel
theorem dX5_pathsAt_26 : decode cX5_pathsAt 26 = .ok (.iload_n 3, 1) := by decide +kernel
theorem dX5_pathsAt_27 : decode cX5_pathsAt 27 = .ok (.iaload, 1) := by decide +kernel
theorem dX5_pathsAt_28 : decode cX5_pathsAt 28 = .ok (.iload_n 1, 1) := by decide +kernel
theorem dX5_pathsAt_29 : decode cX5_pathsAt 29 = .ok (.if_icmp .ne 9, 3) := by decide +kernel
theorem dX5_pathsAt_32 : decode cX5_pathsAt 32 = .ok (.iload_n 2, 1) := by decide +kernel
theorem dX5_pathsAt_33 : decode cX5_pathsAt 33 = .ok (.iconst 1, 1) := by decide +kernel
theorem dX5_pathsAt_34 : decode cX5_pathsAt 34 = .ok (.iload_n 3, 1) := by decide +kernel
theorem dX5_pathsAt_35 : decode cX5_pathsAt 35 = .ok (.ishl, 1) := by decide +kernel
theorem dX5_pathsAt_36 : decode cX5_pathsAt 36 = .ok (.ior, 1) := by decide +kernel
theorem dX5_pathsAt_37 : decode cX5_pathsAt 37 = .ok (.istore_n 2, 1) := by decide +kernel
theorem dX5_pathsAt_38 : decode cX5_pathsAt 38 = .ok (.iinc 3 1, 3) := by decide +kernel
theorem dX5_pathsAt_41 : decode cX5_pathsAt 41 = .ok (.goto (-37), 3) := by decide +kernel
theorem dX5_pathsAt_44 : decode cX5_pathsAt 44 = .ok (.iload_n 2, 1) := by decide +kernel
theorem dX5_pathsAt_45 : decode cX5_pathsAt 45 = .ok (.ireturn, 1) := by decide +kernel
theorem dX5_isAlive_0 : decode cX5_isAlive 0 = .ok (.aload_n 0, 1) := by decide +kernel
theorem dX5_isAlive_1 : decode cX5_isAlive 1 = .ok (.getfield 31, 3) := by decide +kernel
theorem dX5_isAlive_4 : decode cX5_isAlive 4 = .ok (.iload_n 1, 1) := by decide +kernel
theorem dX5_isAlive_5 : decode cX5_isAlive 5 = .ok (.iaload, 1) := by decide +kernel
theorem dX5_isAlive_6 : decode cX5_isAlive 6 = .ok (.aload_n 0, 1) := by decide +kernel
theorem dX5_isAlive_7 : decode cX5_isAlive 7 = .ok (.getfield 9, 3) := by decide +kernel
theorem dX5_isAlive_10 : decode cX5_isAlive 10 = .ok (.aload_n 0, 1) := by decide +kernel
theorem dX5_isAlive_11 : decode cX5_isAlive 11 = .ok (.getfield 25, 3) := by decide +kernel
theorem dX5_isAlive_14 : decode cX5_isAlive 14 = .ok (.iload_n 1, 1) := by decide +kernel
theorem dX5_isAlive_15 : decode cX5_isAlive 15 = .ok (.iaload, 1) := by decide +kernel
theorem dX5_isAlive_16 : decode cX5_isAlive 16 = .ok (.aaload, 1) := by decide +kernel
theorem dX5_isAlive_17 : decode cX5_isAlive 17 = .ok (.aload_n 0, 1) := by decide +kernel
theorem dX5_isAlive_18 : decode cX5_isAlive 18 = .ok (.getfield 57, 3) := by decide +kernel
theorem dX5_isAlive_21 : decode cX5_isAlive 21 = .ok (.invokevirtual 74, 3) := by decide +kernel
theorem dX5_isAlive_24 : decode cX5_isAlive 24 = .ok (.if_icmp .gt 7, 3) := by decide +kernel
theorem dX5_isAlive_27 : decode cX5_isAlive 27 = .ok (.iconst 1, 1) := by decide +kernel
theorem dX5_isAlive_28 : decode cX5_isAlive 28 = .ok (.goto 4, 3) := by decide +kernel
theorem dX5_isAlive_31 : decode cX5_isAlive 31 = .ok (.iconst 0, 1) := by decide +kernel
theorem dX5_isAlive_32 : decode cX5_isAlive 32 = .ok (.ireturn, 1) := by decide +kernel
theorem dX5_swears_0 : decode cX5_swears 0 = .ok (.aload_n 0, 1) := by decide +kernel
theorem dX5_swears_1 : decode cX5_swears 1 = .ok (.iload_n 1, 1) := by decide +kernel
theorem dX5_swears_2 : decode cX5_swears 2 = .ok (.invokevirtual 79, 3) := by decide +kernel
theorem dX5_swears_5 : decode cX5_swears 5 = .ok (.ifCond .eq 12, 3) := by decide +kernel
theorem dX5_swears_8 : decode cX5_swears 8 = .ok (.aload_n 0, 1) := by decide +kernel
theorem dX5_swears_9 : decode cX5_swears 9 = .ok (.getfield 34, 3) := by decide +kernel
theorem dX5_swears_12 : decode cX5_swears 12 = .ok (.iload_n 1, 1) := by decide +kernel
theorem dX5_swears_13 : decode cX5_swears 13 = .ok (.iaload, 1) := by decide +kernel
theorem dX5_swears_14 : decode cX5_swears 14 = .ok (.goto 4, 3) := by decide +kernel
theorem dX5_swears_17 : decode cX5_swears 17 = .ok (.iconst 0, 1) := by decide +kernel
theorem dX5_swears_18 : decode cX5_swears 18 = .ok (.ireturn, 1) := by decide +kernel
theorem dX5_living_0 : decode cX5_living 0 = .ok (.iconst 0, 1) := by decide +kernel
theorem dX5_living_1 : decode cX5_living 1 = .ok (.istore_n 1, 1) := by decide +kernel
theorem dX5_living_2 : decode cX5_living 2 = .ok (.iconst 0, 1) := by decide +kernel
theorem dX5_living_3 : decode cX5_living 3 = .ok (.istore_n 2, 1) := by decide +kernel
theorem dX5_living_4 : decode cX5_living 4 = .ok (.iload_n 2, 1) := by decide +kernel
theorem dX5_living_5 : decode cX5_living 5 = .ok (.aload_n 0, 1) := by decide +kernel
theorem dX5_living_6 : decode cX5_living 6 = .ok (.getfield 44, 3) := by decide +kernel
theorem dX5_living_9 : decode cX5_living 9 = .ok (.if_icmp .ge 23, 3) := by decide +kernel
theorem dX5_living_12 : decode cX5_living 12 = .ok (.aload_n 0, 1) := by decide +kernel
theorem dX5_living_13 : decode cX5_living 13 = .ok (.iload_n 2, 1) := by decide +kernel
theorem dX5_living_14 : decode cX5_living 14 = .ok (.invokevirtual 79, 3) := by decide +kernel
theorem dX5_living_17 : decode cX5_living 17 = .ok (.ifCond .eq 9, 3) := by decide +kernel
theorem dX5_living_20 : decode cX5_living 20 = .ok (.iload_n 1, 1) := by decide +kernel
theorem dX5_living_21 : decode cX5_living 21 = .ok (.iconst 1, 1) := by decide +kernel
theorem dX5_living_22 : decode cX5_living 22 = .ok (.iload_n 2, 1) := by decide +kernel
theorem dX5_living_23 : decode cX5_living 23 = .ok (.ishl, 1) := by decide +kernel
theorem dX5_living_24 : decode cX5_living 24 = .ok (.ior, 1) := by decide +kernel
theorem dX5_living_25 : decode cX5_living 25 = .ok (.istore_n 1, 1) := by decide +kernel
theorem dX5_living_26 : decode cX5_living 26 = .ok (.iinc 2 1, 3) := by decide +kernel
theorem dX5_living_29 : decode cX5_living 29 = .ok (.goto (-25), 3) := by decide +kernel
theorem dX5_living_32 : decode cX5_living 32 = .ok (.iload_n 1, 1) := by decide +kernel
theorem dX5_living_33 : decode cX5_living 33 = .ok (.ireturn, 1) := by decide +kernel
theorem dX5_swearing_0 : decode cX5_swearing 0 = .ok (.iconst 0, 1) := by decide +kernel
theorem dX5_swearing_1 : decode cX5_swearing 1 = .ok (.istore_n 2, 1) := by decide +kernel
theorem dX5_swearing_2 : decode cX5_swearing 2 = .ok (.iconst 0, 1) := by decide +kernel
theorem dX5_swearing_3 : decode cX5_swearing 3 = .ok (.istore_n 3, 1) := by decide +kernel
theorem dX5_swearing_4 : decode cX5_swearing 4 = .ok (.iload_n 3, 1) := by decide +kernel
theorem dX5_swearing_5 : decode cX5_swearing 5 = .ok (.aload_n 0, 1) := by decide +kernel
theorem dX5_swearing_6 : decode cX5_swearing 6 = .ok (.getfield 44, 3) := by decide +kernel
theorem dX5_swearing_9 : decode cX5_swearing 9 = .ok (.if_icmp .ge 23, 3) := by decide +kernel
theorem dX5_swearing_12 : decode cX5_swearing 12 = .ok (.iload_n 2, 1) := by decide +kernel
theorem dX5_swearing_13 : decode cX5_swearing 13 = .ok (.aload_n 0, 1) := by decide +kernel
theorem dX5_swearing_14 : decode cX5_swearing 14 = .ok (.iload_n 3, 1) := by decide +kernel
theorem dX5_swearing_15 : decode cX5_swearing 15 = .ok (.invokevirtual 83, 3) := by decide +kernel
theorem dX5_swearing_18 : decode cX5_swearing 18 = .ok (.iload_n 1, 1) := by decide +kernel
theorem dX5_swearing_19 : decode cX5_swearing 19 = .ok (.invokestatic 86, 3) := by decide +kernel
theorem dX5_swearing_22 : decode cX5_swearing 22 = .ok (.iload_n 3, 1) := by decide +kernel
theorem dX5_swearing_23 : decode cX5_swearing 23 = .ok (.ishl, 1) := by decide +kernel
theorem dX5_swearing_24 : decode cX5_swearing 24 = .ok (.ior, 1) := by decide +kernel
theorem dX5_swearing_25 : decode cX5_swearing 25 = .ok (.istore_n 2, 1) := by decide +kernel
theorem dX5_swearing_26 : decode cX5_swearing 26 = .ok (.iinc 3 1, 3) := by decide +kernel
theorem dX5_swearing_29 : decode cX5_swearing 29 = .ok (.goto (-25), 3) := by decide +kernel
theorem dX5_swearing_32 : decode cX5_swearing 32 = .ok (.iload_n 2, 1) := by decide +kernel
theorem dX5_swearing_33 : decode cX5_swearing 33 = .ok (.ireturn, 1) := by decide +kernel
theorem dX5_sworn_0 : decode cX5_sworn 0 = .ok (.iconst 0, 1) := by decide +kernel
theorem dX5_sworn_1 : decode cX5_sworn 1 = .ok (.istore_n 2, 1) := by decide +kernel
theorem dX5_sworn_2 : decode cX5_sworn 2 = .ok (.iconst 0, 1) := by decide +kernel
theorem dX5_sworn_3 : decode cX5_sworn 3 = .ok (.istore_n 3, 1) := by decide +kernel
theorem dX5_sworn_4 : decode cX5_sworn 4 = .ok (.iload_n 3, 1) := by decide +kernel
theorem dX5_sworn_5 : decode cX5_sworn 5 = .ok (.aload_n 0, 1) := by decide +kernel
theorem dX5_sworn_6 : decode cX5_sworn 6 = .ok (.getfield 44, 3) := by decide +kernel
theorem dX5_sworn_9 : decode cX5_sworn 9 = .ok (.if_icmp .ge 26, 3) := by decide +kernel
theorem dX5_sworn_12 : decode cX5_sworn 12 = .ok (.iload_n 1, 1) := by decide +kernel
theorem dX5_sworn_13 : decode cX5_sworn 13 = .ok (.iload_n 3, 1) := by decide +kernel
theorem dX5_sworn_14 : decode cX5_sworn 14 = .ok (.invokestatic 86, 3) := by decide +kernel
theorem dX5_sworn_17 : decode cX5_sworn 17 = .ok (.iconst 1, 1) := by decide +kernel
theorem dX5_sworn_18 : decode cX5_sworn 18 = .ok (.if_icmp .ne 11, 3) := by decide +kernel
theorem dX5_sworn_21 : decode cX5_sworn 21 = .ok (.iload_n 2, 1) := by decide +kernel
theorem dX5_sworn_22 : decode cX5_sworn 22 = .ok (.aload_n 0, 1) := by decide +kernel
theorem dX5_sworn_23 : decode cX5_sworn 23 = .ok (.iload_n 3, 1) := by decide +kernel
theorem dX5_sworn_24 : decode cX5_sworn 24 = .ok (.invokevirtual 83, 3) := by decide +kernel
theorem dX5_sworn_27 : decode cX5_sworn 27 = .ok (.ior, 1) := by decide +kernel
theorem dX5_sworn_28 : decode cX5_sworn 28 = .ok (.istore_n 2, 1) := by decide +kernel
theorem dX5_sworn_29 : decode cX5_sworn 29 = .ok (.iinc 3 1, 3) := by decide +kernel
theorem dX5_sworn_32 : decode cX5_sworn 32 = .ok (.goto (-28), 3) := by decide +kernel
theorem dX5_sworn_35 : decode cX5_sworn 35 = .ok (.iload_n 2, 1) := by decide +kernel
theorem dX5_sworn_36 : decode cX5_sworn 36 = .ok (.ireturn, 1) := by decide +kernel
theorem dX5_ways_0 : decode cX5_ways 0 = .ok (.aload_n 0, 1) := by decide +kernel
theorem dX5_ways_1 : decode cX5_ways 1 = .ok (.iconst 1, 1) := by decide +kernel
theorem dX5_ways_2 : decode cX5_ways 2 = .ok (.aload_n 0, 1) := by decide +kernel
theorem dX5_ways_3 : decode cX5_ways 3 = .ok (.getfield 44, 3) := by decide +kernel
theorem dX5_ways_6 : decode cX5_ways 6 = .ok (.ishl, 1) := by decide +kernel
theorem dX5_ways_7 : decode cX5_ways 7 = .ok (.iconst 1, 1) := by decide +kernel
theorem dX5_ways_8 : decode cX5_ways 8 = .ok (.isub, 1) := by decide +kernel
theorem dX5_ways_9 : decode cX5_ways 9 = .ok (.invokevirtual 90, 3) := by decide +kernel
theorem dX5_ways_12 : decode cX5_ways 12 = .ok (.ireturn, 1) := by decide +kernel
theorem dX5_seenBy_0 : decode cX5_seenBy 0 = .ok (.aload_n 0, 1) := by decide +kernel
theorem dX5_seenBy_1 : decode cX5_seenBy 1 = .ok (.iload_n 1, 1) := by decide +kernel
theorem dX5_seenBy_2 : decode cX5_seenBy 2 = .ok (.invokevirtual 79, 3) := by decide +kernel
theorem dX5_seenBy_5 : decode cX5_seenBy 5 = .ok (.ifCond .eq 28, 3) := by decide +kernel
theorem dX5_seenBy_8 : decode cX5_seenBy 8 = .ok (.aload_n 0, 1) := by decide +kernel
theorem dX5_seenBy_9 : decode cX5_seenBy 9 = .ok (.getfield 9, 3) := by decide +kernel
theorem dX5_seenBy_12 : decode cX5_seenBy 12 = .ok (.aload_n 0, 1) := by decide +kernel
theorem dX5_seenBy_13 : decode cX5_seenBy 13 = .ok (.getfield 25, 3) := by decide +kernel
theorem dX5_seenBy_16 : decode cX5_seenBy 16 = .ok (.iload_n 1, 1) := by decide +kernel
theorem dX5_seenBy_17 : decode cX5_seenBy 17 = .ok (.iaload, 1) := by decide +kernel
theorem dX5_seenBy_18 : decode cX5_seenBy 18 = .ok (.aaload, 1) := by decide +kernel
theorem dX5_seenBy_19 : decode cX5_seenBy 19 = .ok (.aload_n 0, 1) := by decide +kernel
theorem dX5_seenBy_20 : decode cX5_seenBy 20 = .ok (.aload_n 0, 1) := by decide +kernel
theorem dX5_seenBy_21 : decode cX5_seenBy 21 = .ok (.getfield 28, 3) := by decide +kernel
theorem dX5_seenBy_24 : decode cX5_seenBy 24 = .ok (.iload_n 1, 1) := by decide +kernel
theorem dX5_seenBy_25 : decode cX5_seenBy 25 = .ok (.iaload, 1) := by decide +kernel
theorem dX5_seenBy_26 : decode cX5_seenBy 26 = .ok (.aload_n 2, 1) := by decide +kernel
theorem dX5_seenBy_27 : decode cX5_seenBy 27 = .ok (.invokevirtual 93, 3) := by decide +kernel
theorem dX5_seenBy_30 : decode cX5_seenBy 30 = .ok (.goto 4, 3) := by decide +kernel
theorem dX5_seenBy_33 : decode cX5_seenBy 33 = .ok (.iconst 0, 1) := by decide +kernel
theorem dX5_seenBy_34 : decode cX5_seenBy 34 = .ok (.ireturn, 1) := by decide +kernel
theorem dX5_waysBehind_0 : decode cX5_waysBehind 0 = .ok (.iconst 0, 1) := by decide +kernel
theorem dX5_waysBehind_1 : decode cX5_waysBehind 1 = .ok (.istore_n 2, 1) := by decide +kernel
theorem dX5_waysBehind_2 : decode cX5_waysBehind 2 = .ok (.iconst 0, 1) := by decide +kernel
theorem dX5_waysBehind_3 : decode cX5_waysBehind 3 = .ok (.istore_n 3, 1) := by decide +kernel
theorem dX5_waysBehind_4 : decode cX5_waysBehind 4 = .ok (.iload_n 3, 1) := by decide +kernel
theorem dX5_waysBehind_5 : decode cX5_waysBehind 5 = .ok (.aload_n 0, 1) := by decide +kernel
theorem dX5_waysBehind_6 : decode cX5_waysBehind 6 = .ok (.getfield 44, 3) := by decide +kernel
theorem dX5_waysBehind_9 : decode cX5_waysBehind 9 = .ok (.if_icmp .ge 24, 3) := by decide +kernel
theorem dX5_waysBehind_12 : decode cX5_waysBehind 12 = .ok (.iload_n 2, 1) := by decide +kernel
theorem dX5_waysBehind_13 : decode cX5_waysBehind 13 = .ok (.aload_n 0, 1) := by decide +kernel
theorem dX5_waysBehind_14 : decode cX5_waysBehind 14 = .ok (.iload_n 3, 1) := by decide +kernel
theorem dX5_waysBehind_15 : decode cX5_waysBehind 15 = .ok (.invokevirtual 83, 3) := by decide +kernel
theorem dX5_waysBehind_18 : decode cX5_waysBehind 18 = .ok (.aload_n 0, 1) := by decide +kernel
theorem dX5_waysBehind_19 : decode cX5_waysBehind 19 = .ok (.iload_n 3, 1) := by decide +kernel
theorem dX5_waysBehind_20 : decode cX5_waysBehind 20 = .ok (.aload_n 1, 1) := by decide +kernel
theorem dX5_waysBehind_21 : decode cX5_waysBehind 21 = .ok (.invokevirtual 97, 3) := by decide +kernel
theorem dX5_waysBehind_24 : decode cX5_waysBehind 24 = .ok (.ior, 1) := by decide +kernel
theorem dX5_waysBehind_25 : decode cX5_waysBehind 25 = .ok (.ior, 1) := by decide +kernel
theorem dX5_waysBehind_26 : decode cX5_waysBehind 26 = .ok (.istore_n 2, 1) := by decide +kernel
theorem dX5_waysBehind_27 : decode cX5_waysBehind 27 = .ok (.iinc 3 1, 3) := by decide +kernel
theorem dX5_waysBehind_30 : decode cX5_waysBehind 30 = .ok (.goto (-26), 3) := by decide +kernel
theorem dX5_waysBehind_33 : decode cX5_waysBehind 33 = .ok (.iload_n 2, 1) := by decide +kernel
theorem dX5_waysBehind_34 : decode cX5_waysBehind 34 = .ok (.ireturn, 1) := by decide +kernel
theorem dX5_see_0 : decode cX5_see 0 = .ok (.iconst 0, 1) := by decide +kernel
theorem dX5_see_1 : decode cX5_see 1 = .ok (.istore_n 2, 1) := by decide +kernel
theorem dX5_see_2 : decode cX5_see 2 = .ok (.iload_n 2, 1) := by decide +kernel
theorem dX5_see_3 : decode cX5_see 3 = .ok (.aload_n 0, 1) := by decide +kernel
theorem dX5_see_4 : decode cX5_see 4 = .ok (.getfield 44, 3) := by decide +kernel
theorem dX5_see_7 : decode cX5_see 7 = .ok (.if_icmp .ge 24, 3) := by decide +kernel
theorem dX5_see_10 : decode cX5_see 10 = .ok (.aload_n 0, 1) := by decide +kernel
theorem dX5_see_11 : decode cX5_see 11 = .ok (.getfield 34, 3) := by decide +kernel
theorem dX5_see_14 : decode cX5_see 14 = .ok (.iload_n 2, 1) := by decide +kernel
theorem dX5_see_15 : decode cX5_see 15 = .ok (.dup2, 1) := by decide +kernel
theorem dX5_see_16 : decode cX5_see 16 = .ok (.iaload, 1) := by decide +kernel
theorem dX5_see_17 : decode cX5_see 17 = .ok (.aload_n 0, 1) := by decide +kernel
theorem dX5_see_18 : decode cX5_see 18 = .ok (.iload_n 2, 1) := by decide +kernel
theorem dX5_see_19 : decode cX5_see 19 = .ok (.aload_n 1, 1) := by decide +kernel
theorem dX5_see_20 : decode cX5_see 20 = .ok (.invokevirtual 97, 3) := by decide +kernel
theorem dX5_see_23 : decode cX5_see 23 = .ok (.ior, 1) := by decide +kernel
theorem dX5_see_24 : decode cX5_see 24 = .ok (.iastore, 1) := by decide +kernel
theorem dX5_see_25 : decode cX5_see 25 = .ok (.iinc 2 1, 3) := by decide +kernel
theorem dX5_see_28 : decode cX5_see 28 = .ok (.goto (-26), 3) := by decide +kernel
theorem dX5_see_31 : decode cX5_see 31 = .ok (.return_, 1) := by decide +kernel
theorem dX5_pass_0 : decode cX5_pass 0 = .ok (.iconst 0, 1) := by decide +kernel
theorem dX5_pass_1 : decode cX5_pass 1 = .ok (.istore_n 1, 1) := by decide +kernel
theorem dX5_pass_2 : decode cX5_pass 2 = .ok (.iload_n 1, 1) := by decide +kernel
theorem dX5_pass_3 : decode cX5_pass 3 = .ok (.aload_n 0, 1) := by decide +kernel
theorem dX5_pass_4 : decode cX5_pass 4 = .ok (.getfield 44, 3) := by decide +kernel
theorem dX5_pass_7 : decode cX5_pass 7 = .ok (.if_icmp .ge 57, 3) := by decide +kernel
theorem dX5_pass_10 : decode cX5_pass 10 = .ok (.aload_n 0, 1) := by decide +kernel
theorem dX5_pass_11 : decode cX5_pass 11 = .ok (.iload_n 1, 1) := by decide +kernel
theorem dX5_pass_12 : decode cX5_pass 12 = .ok (.invokevirtual 79, 3) := by decide +kernel
theorem dX5_pass_15 : decode cX5_pass 15 = .ok (.ifCond .eq 13, 3) := by decide +kernel
theorem dX5_pass_18 : decode cX5_pass 18 = .ok (.aload_n 0, 1) := by decide +kernel
theorem dX5_pass_19 : decode cX5_pass 19 = .ok (.getfield 31, 3) := by decide +kernel
theorem dX5_pass_22 : decode cX5_pass 22 = .ok (.iload_n 1, 1) := by decide +kernel
theorem dX5_pass_23 : decode cX5_pass 23 = .ok (.dup2, 1) := by decide +kernel
theorem dX5_pass_24 : decode cX5_pass 24 = .ok (.iaload, 1) := by decide +kernel
theorem dX5_pass_25 : decode cX5_pass 25 = .ok (.iconst 1, 1) := by decide +kernel
theorem dX5_pass_26 : decode cX5_pass 26 = .ok (.iadd, 1) := by decide +kernel
theorem dX5_pass_27 : decode cX5_pass 27 = .ok (.iastore, 1) := by decide +kernel
theorem dX5_pass_28 : decode cX5_pass 28 = .ok (.aload_n 0, 1) := by decide +kernel
theorem dX5_pass_29 : decode cX5_pass 29 = .ok (.getfield 34, 3) := by decide +kernel
theorem dX5_pass_32 : decode cX5_pass 32 = .ok (.iload_n 1, 1) := by decide +kernel
theorem dX5_pass_33 : decode cX5_pass 33 = .ok (.aload_n 0, 1) := by decide +kernel
theorem dX5_pass_34 : decode cX5_pass 34 = .ok (.getfield 9, 3) := by decide +kernel
theorem dX5_pass_37 : decode cX5_pass 37 = .ok (.aload_n 0, 1) := by decide +kernel
theorem dX5_pass_38 : decode cX5_pass 38 = .ok (.getfield 25, 3) := by decide +kernel
theorem dX5_pass_41 : decode cX5_pass 41 = .ok (.iload_n 1, 1) := by decide +kernel
theorem dX5_pass_42 : decode cX5_pass 42 = .ok (.iaload, 1) := by decide +kernel
theorem dX5_pass_43 : decode cX5_pass 43 = .ok (.aaload, 1) := by decide +kernel
theorem dX5_pass_44 : decode cX5_pass 44 = .ok (.aload_n 0, 1) := by decide +kernel
theorem dX5_pass_45 : decode cX5_pass 45 = .ok (.getfield 34, 3) := by decide +kernel
theorem dX5_pass_48 : decode cX5_pass 48 = .ok (.iload_n 1, 1) := by decide +kernel
theorem dX5_pass_49 : decode cX5_pass 49 = .ok (.iaload, 1) := by decide +kernel
theorem dX5_pass_50 : decode cX5_pass 50 = .ok (.aload_n 0, 1) := by decide +kernel
theorem dX5_pass_51 : decode cX5_pass 51 = .ok (.getfield 37, 3) := by decide +kernel
theorem dX5_pass_54 : decode cX5_pass 54 = .ok (.invokevirtual 101, 3) := by decide +kernel
theorem dX5_pass_57 : decode cX5_pass 57 = .ok (.iastore, 1) := by decide +kernel
theorem dX5_pass_58 : decode cX5_pass 58 = .ok (.iinc 1 1, 3) := by decide +kernel
theorem dX5_pass_61 : decode cX5_pass 61 = .ok (.goto (-59), 3) := by decide +kernel
theorem dX5_pass_64 : decode cX5_pass 64 = .ok (.aload_n 0, 1) := by decide +kernel
theorem dX5_pass_65 : decode cX5_pass 65 = .ok (.dup, 1) := by decide +kernel
theorem dX5_pass_66 : decode cX5_pass 66 = .ok (.getfield 37, 3) := by decide +kernel
theorem dX5_pass_69 : decode cX5_pass 69 = .ok (.iconst 1, 1) := by decide +kernel
theorem dX5_pass_70 : decode cX5_pass 70 = .ok (.iadd, 1) := by decide +kernel
theorem dX5_pass_71 : decode cX5_pass 71 = .ok (.putfield 37, 3) := by decide +kernel
theorem dX5_pass_74 : decode cX5_pass 74 = .ok (.return_, 1) := by decide +kernel
theorem dX6_init_0 : decode cX6_init 0 = .ok (.aload_n 0, 1) := by decide +kernel
theorem dX6_init_1 : decode cX6_init 1 = .ok (.invokespecial 3, 3) := by decide +kernel
theorem dX6_init_4 : decode cX6_init 4 = .ok (.aload_n 0, 1) := by decide +kernel
theorem dX6_init_5 : decode cX6_init 5 = .ok (.bipush 8, 2) := by decide +kernel
theorem dX6_init_7 : decode cX6_init 7 = .ok (.bipush 40, 2) := by decide +kernel
theorem dX6_init_9 : decode cX6_init 9 = .ok (.multianewarray 9 2, 4) := by decide +kernel
theorem dX6_init_13 : decode cX6_init 13 = .ok (.putfield 11, 3) := by decide +kernel
theorem dX6_init_16 : decode cX6_init 16 = .ok (.aload_n 0, 1) := by decide +kernel
theorem dX6_init_17 : decode cX6_init 17 = .ok (.bipush 8, 2) := by decide +kernel
theorem dX6_init_19 : decode cX6_init 19 = .ok (.newarray .int, 2) := by decide +kernel
theorem dX6_init_21 : decode cX6_init 21 = .ok (.putfield 16, 3) := by decide +kernel
theorem dX6_init_24 : decode cX6_init 24 = .ok (.aload_n 0, 1) := by decide +kernel
theorem dX6_init_25 : decode cX6_init 25 = .ok (.bipush 8, 2) := by decide +kernel
theorem dX6_init_27 : decode cX6_init 27 = .ok (.newarray .int, 2) := by decide +kernel
theorem dX6_init_29 : decode cX6_init 29 = .ok (.putfield 20, 3) := by decide +kernel
theorem dX6_init_32 : decode cX6_init 32 = .ok (.iconst 0, 1) := by decide +kernel
theorem dX6_init_33 : decode cX6_init 33 = .ok (.istore_n 1, 1) := by decide +kernel
theorem dX6_init_34 : decode cX6_init 34 = .ok (.iload_n 1, 1) := by decide +kernel
theorem dX6_init_35 : decode cX6_init 35 = .ok (.bipush 8, 2) := by decide +kernel
theorem dX6_init_37 : decode cX6_init 37 = .ok (.if_icmp .ge 16, 3) := by decide +kernel
theorem dX6_init_40 : decode cX6_init 40 = .ok (.aload_n 0, 1) := by decide +kernel
theorem dX6_init_41 : decode cX6_init 41 = .ok (.getfield 20, 3) := by decide +kernel
theorem dX6_init_44 : decode cX6_init 44 = .ok (.iload_n 1, 1) := by decide +kernel
theorem dX6_init_45 : decode cX6_init 45 = .ok (.iconst (-1), 1) := by decide +kernel
theorem dX6_init_46 : decode cX6_init 46 = .ok (.iastore, 1) := by decide +kernel
theorem dX6_init_47 : decode cX6_init 47 = .ok (.iinc 1 1, 3) := by decide +kernel
theorem dX6_init_50 : decode cX6_init 50 = .ok (.goto (-16), 3) := by decide +kernel
theorem dX6_init_53 : decode cX6_init 53 = .ok (.return_, 1) := by decide +kernel
theorem dX6_isMissing_0 : decode cX6_isMissing 0 = .ok (.aload_n 0, 1) := by decide +kernel
theorem dX6_isMissing_1 : decode cX6_isMissing 1 = .ok (.getfield 20, 3) := by decide +kernel
theorem dX6_isMissing_4 : decode cX6_isMissing 4 = .ok (.iload_n 1, 1) := by decide +kernel
theorem dX6_isMissing_5 : decode cX6_isMissing 5 = .ok (.iaload, 1) := by decide +kernel
theorem dX6_isMissing_6 : decode cX6_isMissing 6 = .ok (.iconst (-1), 1) := by decide +kernel
theorem dX6_isMissing_7 : decode cX6_isMissing 7 = .ok (.if_icmp .ne 7, 3) := by decide +kernel
theorem dX6_isMissing_10 : decode cX6_isMissing 10 = .ok (.iconst 1, 1) := by decide +kernel
theorem dX6_isMissing_11 : decode cX6_isMissing 11 = .ok (.goto 4, 3) := by decide +kernel
theorem dX6_isMissing_14 : decode cX6_isMissing 14 = .ok (.iconst 0, 1) := by decide +kernel
theorem dX6_isMissing_15 : decode cX6_isMissing 15 = .ok (.ireturn, 1) := by decide +kernel
theorem dX6_has_0 : decode cX6_has 0 = .ok (.iload_n 2, 1) := by decide +kernel
theorem dX6_has_1 : decode cX6_has 1 = .ok (.ifCond .lt 33, 3) := by decide +kernel
theorem dX6_has_4 : decode cX6_has 4 = .ok (.iload_n 3, 1) := by decide +kernel
theorem dX6_has_5 : decode cX6_has 5 = .ok (.ifCond .lt 29, 3) := by decide +kernel
theorem dX6_has_8 : decode cX6_has 8 = .ok (.iload_n 2, 1) := by decide +kernel
theorem dX6_has_9 : decode cX6_has 9 = .ok (.aload_n 0, 1) := by decide +kernel
theorem dX6_has_10 : decode cX6_has 10 = .ok (.getfield 20, 3) := by decide +kernel
theorem dX6_has_13 : decode cX6_has 13 = .ok (.iload_n 1, 1) := by decide +kernel
theorem dX6_has_14 : decode cX6_has 14 = .ok (.iaload, 1) := by decide +kernel
theorem dX6_has_15 : decode cX6_has 15 = .ok (.if_icmp .gt 19, 3) := by decide +kernel
theorem dX6_has_18 : decode cX6_has 18 = .ok (.iload_n 3, 1) := by decide +kernel
theorem dX6_has_19 : decode cX6_has 19 = .ok (.aload_n 0, 1) := by decide +kernel
theorem dX6_has_20 : decode cX6_has 20 = .ok (.getfield 20, 3) := by decide +kernel
theorem dX6_has_23 : decode cX6_has 23 = .ok (.iload_n 1, 1) := by decide +kernel
theorem dX6_has_24 : decode cX6_has 24 = .ok (.iaload, 1) := by decide +kernel
theorem dX6_has_25 : decode cX6_has 25 = .ok (.iload_n 2, 1) := by decide +kernel
theorem dX6_has_26 : decode cX6_has 26 = .ok (.isub, 1) := by decide +kernel
theorem dX6_has_27 : decode cX6_has 27 = .ok (.if_icmp .gt 7, 3) := by decide +kernel
theorem dX6_has_30 : decode cX6_has 30 = .ok (.iconst 1, 1) := by decide +kernel
theorem dX6_has_31 : decode cX6_has 31 = .ok (.goto 4, 3) := by decide +kernel
theorem dX6_has_34 : decode cX6_has 34 = .ok (.iconst 0, 1) := by decide +kernel
theorem dX6_has_35 : decode cX6_has 35 = .ok (.ireturn, 1) := by decide +kernel
theorem dX6_amiss_0 : decode cX6_amiss 0 = .ok (.aload_n 0, 1) := by decide +kernel
theorem dX6_amiss_1 : decode cX6_amiss 1 = .ok (.iload_n 1, 1) := by decide +kernel
theorem dX6_amiss_2 : decode cX6_amiss 2 = .ok (.invokevirtual 23, 3) := by decide +kernel
theorem dX6_amiss_5 : decode cX6_amiss 5 = .ok (.ifCond .eq 7, 3) := by decide +kernel
theorem dX6_amiss_8 : decode cX6_amiss 8 = .ok (.iconst 1, 1) := by decide +kernel
theorem dX6_amiss_9 : decode cX6_amiss 9 = .ok (.goto 18, 3) := by decide +kernel
theorem dX6_amiss_12 : decode cX6_amiss 12 = .ok (.aload_n 0, 1) := by decide +kernel
theorem dX6_amiss_13 : decode cX6_amiss 13 = .ok (.iload_n 1, 1) := by decide +kernel
theorem dX6_amiss_14 : decode cX6_amiss 14 = .ok (.iload_n 2, 1) := by decide +kernel
theorem dX6_amiss_15 : decode cX6_amiss 15 = .ok (.iload_n 3, 1) := by decide +kernel
theorem dX6_amiss_16 : decode cX6_amiss 16 = .ok (.invokevirtual 27, 3) := by decide +kernel
theorem dX6_amiss_19 : decode cX6_amiss 19 = .ok (.ifCond .eq 7, 3) := by decide +kernel
theorem dX6_amiss_22 : decode cX6_amiss 22 = .ok (.iconst 0, 1) := by decide +kernel
theorem dX6_amiss_23 : decode cX6_amiss 23 = .ok (.goto 4, 3) := by decide +kernel
theorem dX6_amiss_26 : decode cX6_amiss 26 = .ok (.iconst 2, 1) := by decide +kernel
theorem dX6_amiss_27 : decode cX6_amiss 27 = .ok (.ireturn, 1) := by decide +kernel
theorem dX6_lay_0 : decode cX6_lay 0 = .ok (.aload_n 0, 1) := by decide +kernel
theorem dX6_lay_1 : decode cX6_lay 1 = .ok (.getfield 16, 3) := by decide +kernel
theorem dX6_lay_4 : decode cX6_lay 4 = .ok (.iload_n 1, 1) := by decide +kernel
theorem dX6_lay_5 : decode cX6_lay 5 = .ok (.iload_n 2, 1) := by decide +kernel
theorem dX6_lay_6 : decode cX6_lay 6 = .ok (.iastore, 1) := by decide +kernel
theorem dX6_lay_7 : decode cX6_lay 7 = .ok (.aload_n 0, 1) := by decide +kernel
theorem dX6_lay_8 : decode cX6_lay 8 = .ok (.getfield 20, 3) := by decide +kernel
theorem dX6_lay_11 : decode cX6_lay 11 = .ok (.iload_n 1, 1) := by decide +kernel
theorem dX6_lay_12 : decode cX6_lay 12 = .ok (.iload_n 3, 1) := by decide +kernel
theorem dX6_lay_13 : decode cX6_lay 13 = .ok (.iastore, 1) := by decide +kernel
theorem dX6_lay_14 : decode cX6_lay 14 = .ok (.iconst 0, 1) := by decide +kernel
theorem dX6_lay_15 : decode cX6_lay 15 = .ok (.istore 4, 2) := by decide +kernel
theorem dX6_lay_17 : decode cX6_lay 17 = .ok (.iload 4, 2) := by decide +kernel
theorem dX6_lay_19 : decode cX6_lay 19 = .ok (.iload_n 3, 1) := by decide +kernel
theorem dX6_lay_20 : decode cX6_lay 20 = .ok (.if_icmp .ge 19, 3) := by decide +kernel
theorem dX6_lay_23 : decode cX6_lay 23 = .ok (.aload_n 0, 1) := by decide +kernel
theorem dX6_lay_24 : decode cX6_lay 24 = .ok (.getfield 11, 3) := by decide +kernel
theorem dX6_lay_27 : decode cX6_lay 27 = .ok (.iload_n 1, 1) := by decide +kernel
theorem dX6_lay_28 : decode cX6_lay 28 = .ok (.aaload, 1) := by decide +kernel
theorem dX6_lay_29 : decode cX6_lay 29 = .ok (.iload 4, 2) := by decide +kernel
theorem dX6_lay_31 : decode cX6_lay 31 = .ok (.iconst 0, 1) := by decide +kernel
theorem dX6_lay_32 : decode cX6_lay 32 = .ok (.iastore, 1) := by decide +kernel
theorem dX6_lay_33 : decode cX6_lay 33 = .ok (.iinc 4 1, 3) := by decide +kernel
theorem dX6_lay_36 : decode cX6_lay 36 = .ok (.goto (-19), 3) := by decide +kernel
theorem dX6_lay_39 : decode cX6_lay 39 = .ok (.return_, 1) := by decide +kernel
theorem dX6_put_0 : decode cX6_put 0 = .ok (.aload_n 0, 1) := by decide +kernel
theorem dX6_put_1 : decode cX6_put 1 = .ok (.getfield 16, 3) := by decide +kernel
theorem dX6_put_4 : decode cX6_put 4 = .ok (.iload_n 1, 1) := by decide +kernel
theorem dX6_put_5 : decode cX6_put 5 = .ok (.iaload, 1) := by decide +kernel
theorem dX6_put_6 : decode cX6_put 6 = .ok (.ifCond .ne 8, 3) := by decide +kernel
theorem dX6_put_9 : decode cX6_put 9 = .ok (.iload_n 3, 1) := by decide +kernel
theorem dX6_put_10 : decode cX6_put 10 = .ok (.i2b, 1) := by decide +kernel
theorem dX6_put_11 : decode cX6_put 11 = .ok (.goto 19, 3) := by decide +kernel
theorem dX6_put_14 : decode cX6_put 14 = .ok (.aload_n 0, 1) := by decide +kernel
theorem dX6_put_15 : decode cX6_put 15 = .ok (.getfield 16, 3) := by decide +kernel
theorem dX6_put_18 : decode cX6_put 18 = .ok (.iload_n 1, 1) := by decide +kernel
theorem dX6_put_19 : decode cX6_put 19 = .ok (.iaload, 1) := by decide +kernel
theorem dX6_put_20 : decode cX6_put 20 = .ok (.iconst 1, 1) := by decide +kernel
theorem dX6_put_21 : decode cX6_put 21 = .ok (.if_icmp .ne 8, 3) := by decide +kernel
theorem dX6_put_24 : decode cX6_put 24 = .ok (.iload_n 3, 1) := by decide +kernel
theorem dX6_put_25 : decode cX6_put 25 = .ok (.i2s, 1) := by decide +kernel
theorem dX6_put_26 : decode cX6_put 26 = .ok (.goto 4, 3) := by decide +kernel
theorem dX6_put_29 : decode cX6_put 29 = .ok (.iload_n 3, 1) := by decide +kernel
theorem dX6_put_30 : decode cX6_put 30 = .ok (.istore 4, 2) := by decide +kernel
theorem dX6_put_32 : decode cX6_put 32 = .ok (.aload_n 0, 1) := by decide +kernel
theorem dX6_put_33 : decode cX6_put 33 = .ok (.getfield 11, 3) := by decide +kernel
theorem dX6_put_36 : decode cX6_put 36 = .ok (.iload_n 1, 1) := by decide +kernel
theorem dX6_put_37 : decode cX6_put 37 = .ok (.aaload, 1) := by decide +kernel
theorem dX6_put_38 : decode cX6_put 38 = .ok (.iload_n 2, 1) := by decide +kernel
theorem dX6_put_39 : decode cX6_put 39 = .ok (.iload 4, 2) := by decide +kernel
theorem dX6_put_41 : decode cX6_put 41 = .ok (.iastore, 1) := by decide +kernel
theorem dX6_put_42 : decode cX6_put 42 = .ok (.iload 4, 2) := by decide +kernel
theorem dX6_put_44 : decode cX6_put 44 = .ok (.ireturn, 1) := by decide +kernel
theorem dX6_standing_0 : decode cX6_standing 0 = .ok (.iconst 0, 1) := by decide +kernel
theorem dX6_standing_1 : decode cX6_standing 1 = .ok (.istore_n 1, 1) := by decide +kernel
theorem dX6_standing_2 : decode cX6_standing 2 = .ok (.iconst 0, 1) := by decide +kernel
theorem dX6_standing_3 : decode cX6_standing 3 = .ok (.istore_n 2, 1) := by decide +kernel
theorem dX6_standing_4 : decode cX6_standing 4 = .ok (.iload_n 2, 1) := by decide +kernel
theorem dX6_standing_5 : decode cX6_standing 5 = .ok (.bipush 8, 2) := by decide +kernel
theorem dX6_standing_7 : decode cX6_standing 7 = .ok (.if_icmp .ge 20, 3) := by decide +kernel
theorem dX6_standing_10 : decode cX6_standing 10 = .ok (.aload_n 0, 1) := by decide +kernel
theorem dX6_standing_11 : decode cX6_standing 11 = .ok (.iload_n 2, 1) := by decide +kernel
theorem dX6_standing_12 : decode cX6_standing 12 = .ok (.invokevirtual 23, 3) := by decide +kernel
theorem dX6_standing_15 : decode cX6_standing 15 = .ok (.ifCond .ne 6, 3) := by decide +kernel
theorem dX6_standing_18 : decode cX6_standing 18 = .ok (.iinc 1 1, 3) := by decide +kernel
theorem dX6_standing_21 : decode cX6_standing 21 = .ok (.iinc 2 1, 3) := by decide +kernel
theorem dX6_standing_24 : decode cX6_standing 24 = .ok (.goto (-20), 3) := by decide +kernel
theorem dX6_standing_27 : decode cX6_standing 27 = .ok (.iload_n 1, 1) := by decide +kernel
theorem dX6_standing_28 : decode cX6_standing 28 = .ok (.ireturn, 1) := by decide +kernel
theorem dX7_init_0 : decode cX7_init 0 = .ok (.aload_n 0, 1) := by decide +kernel
theorem dX7_init_1 : decode cX7_init 1 = .ok (.invokespecial 1, 3) := by decide +kernel
theorem dX7_init_4 : decode cX7_init 4 = .ok (.return_, 1) := by decide +kernel
theorem dX7_sees_0 : decode cX7_sees 0 = .ok (.aload_n 3, 1) := by decide +kernel
theorem dX7_sees_1 : decode cX7_sees 1 = .ok (.getfield 7, 3) := by decide +kernel
theorem dX7_sees_4 : decode cX7_sees 4 = .ok (.ireturn, 1) := by decide +kernel
theorem dX7_keeps_0 : decode cX7_keeps 0 = .ok (.iload_n 1, 1) := by decide +kernel
theorem dX7_keeps_1 : decode cX7_keeps 1 = .ok (.iload_n 1, 1) := by decide +kernel
theorem dX7_keeps_2 : decode cX7_keeps 2 = .ok (.iconst 1, 1) := by decide +kernel
theorem dX7_keeps_3 : decode cX7_keeps 3 = .ok (.isub, 1) := by decide +kernel
theorem dX7_keeps_4 : decode cX7_keeps 4 = .ok (.iand, 1) := by decide +kernel
theorem dX7_keeps_5 : decode cX7_keeps 5 = .ok (.ireturn, 1) := by decide +kernel
theorem dX7_size_0 : decode cX7_size 0 = .ok (.aload_n 1, 1) := by decide +kernel
theorem dX7_size_1 : decode cX7_size 1 = .ok (.bipush 14, 2) := by decide +kernel
theorem dX7_size_3 : decode cX7_size 3 = .ok (.invokevirtual 13, 3) := by decide +kernel
theorem dX7_size_6 : decode cX7_size 6 = .ok (.iconst 2, 1) := by decide +kernel
theorem dX7_size_7 : decode cX7_size 7 = .ok (.aload_n 0, 1) := by decide +kernel
theorem dX7_size_8 : decode cX7_size 8 = .ok (.aload_n 1, 1) := by decide +kernel
theorem dX7_size_9 : decode cX7_size 9 = .ok (.invokespecial 19, 3) := by decide +kernel
theorem dX7_size_12 : decode cX7_size 12 = .ok (.imul, 1) := by decide +kernel
theorem dX7_size_13 : decode cX7_size 13 = .ok (.ireturn, 1) := by decide +kernel
theorem dX8_init_0 : decode cX8_init 0 = .ok (.aload_n 0, 1) := by decide +kernel
theorem dX8_init_1 : decode cX8_init 1 = .ok (.invokespecial 1, 3) := by decide +kernel
theorem dX8_init_4 : decode cX8_init 4 = .ok (.return_, 1) := by decide +kernel
theorem dX8_sees_0 : decode cX8_sees 0 = .ok (.aload_n 3, 1) := by decide +kernel
theorem dX8_sees_1 : decode cX8_sees 1 = .ok (.getfield 7, 3) := by decide +kernel
theorem dX8_sees_4 : decode cX8_sees 4 = .ok (.ireturn, 1) := by decide +kernel
theorem dX8_keeps_0 : decode cX8_keeps 0 = .ok (.iload_n 2, 1) := by decide +kernel
theorem dX8_keeps_1 : decode cX8_keeps 1 = .ok (.iconst 3, 1) := by decide +kernel
theorem dX8_keeps_2 : decode cX8_keeps 2 = .ok (.irem, 1) := by decide +kernel
theorem dX8_keeps_3 : decode cX8_keeps 3 = .ok (.iconst 2, 1) := by decide +kernel
theorem dX8_keeps_4 : decode cX8_keeps 4 = .ok (.if_icmp .ne 7, 3) := by decide +kernel
theorem dX8_keeps_7 : decode cX8_keeps 7 = .ok (.iconst 0, 1) := by decide +kernel
theorem dX8_keeps_8 : decode cX8_keeps 8 = .ok (.goto 4, 3) := by decide +kernel
theorem dX8_keeps_11 : decode cX8_keeps 11 = .ok (.iload_n 1, 1) := by decide +kernel
theorem dX8_keeps_12 : decode cX8_keeps 12 = .ok (.ireturn, 1) := by decide +kernel
theorem dX8_size_0 : decode cX8_size 0 = .ok (.aload_n 1, 1) := by decide +kernel
theorem dX8_size_1 : decode cX8_size 1 = .ok (.bipush 13, 2) := by decide +kernel
theorem dX8_size_3 : decode cX8_size 3 = .ok (.invokevirtual 13, 3) := by decide +kernel
theorem dX8_size_6 : decode cX8_size 6 = .ok (.aload_n 0, 1) := by decide +kernel
theorem dX8_size_7 : decode cX8_size 7 = .ok (.aload_n 1, 1) := by decide +kernel
theorem dX8_size_8 : decode cX8_size 8 = .ok (.invokespecial 19, 3) := by decide +kernel
theorem dX8_size_11 : decode cX8_size 11 = .ok (.bipush 100, 2) := by decide +kernel
theorem dX8_size_13 : decode cX8_size 13 = .ok (.isub, 1) := by decide +kernel
theorem dX8_size_14 : decode cX8_size 14 = .ok (.ireturn, 1) := by decide +kernel
theorem dX8_mark_0 : decode cX8_mark 0 = .ok (.aload_n 1, 1) := by decide +kernel
theorem dX8_mark_1 : decode cX8_mark 1 = .ok (.bipush 23, 2) := by decide +kernel
theorem dX8_mark_3 : decode cX8_mark 3 = .ok (.invokevirtual 13, 3) := by decide +kernel
theorem dX8_mark_6 : decode cX8_mark 6 = .ok (.aload_n 0, 1) := by decide +kernel
theorem dX8_mark_7 : decode cX8_mark 7 = .ok (.aload_n 1, 1) := by decide +kernel
theorem dX8_mark_8 : decode cX8_mark 8 = .ok (.invokespecial 23, 3) := by decide +kernel
theorem dX8_mark_11 : decode cX8_mark 11 = .ok (.istore_n 2, 1) := by decide +kernel
theorem dX8_mark_12 : decode cX8_mark 12 = .ok (.iload_n 2, 1) := by decide +kernel
theorem dX8_mark_13 : decode cX8_mark 13 = .ok (.aload_n 0, 1) := by decide +kernel
theorem dX8_mark_14 : decode cX8_mark 14 = .ok (.aload_n 1, 1) := by decide +kernel
theorem dX8_mark_15 : decode cX8_mark 15 = .ok (.invokevirtual 26, 3) := by decide +kernel
theorem dX8_mark_18 : decode cX8_mark 18 = .ok (.isub, 1) := by decide +kernel
theorem dX8_mark_19 : decode cX8_mark 19 = .ok (.ireturn, 1) := by decide +kernel
theorem dX9_init_0 : decode cX9_init 0 = .ok (.aload_n 0, 1) := by decide +kernel
theorem dX9_init_1 : decode cX9_init 1 = .ok (.invokespecial 3, 3) := by decide +kernel
theorem dX9_init_4 : decode cX9_init 4 = .ok (.aload_n 0, 1) := by decide +kernel
theorem dX9_init_5 : decode cX9_init 5 = .ok (.sipush 140, 3) := by decide +kernel
theorem dX9_init_8 : decode cX9_init 8 = .ok (.newarray .int, 2) := by decide +kernel
theorem dX9_init_10 : decode cX9_init 10 = .ok (.putfield 9, 3) := by decide +kernel
theorem dX9_init_13 : decode cX9_init 13 = .ok (.return_, 1) := by decide +kernel
theorem dX9_append_0 : decode cX9_append 0 = .ok (.aload_n 0, 1) := by decide +kernel
theorem dX9_append_1 : decode cX9_append 1 = .ok (.getfield 9, 3) := by decide +kernel
theorem dX9_append_4 : decode cX9_append 4 = .ok (.aload_n 0, 1) := by decide +kernel
theorem dX9_append_5 : decode cX9_append 5 = .ok (.getfield 15, 3) := by decide +kernel
theorem dX9_append_8 : decode cX9_append 8 = .ok (.iload_n 1, 1) := by decide +kernel
theorem dX9_append_9 : decode cX9_append 9 = .ok (.iastore, 1) := by decide +kernel
theorem dX9_append_10 : decode cX9_append 10 = .ok (.aload_n 0, 1) := by decide +kernel
theorem dX9_append_11 : decode cX9_append 11 = .ok (.dup, 1) := by decide +kernel
theorem dX9_append_12 : decode cX9_append 12 = .ok (.getfield 15, 3) := by decide +kernel
theorem dX9_append_15 : decode cX9_append 15 = .ok (.iconst 1, 1) := by decide +kernel
theorem dX9_append_16 : decode cX9_append 16 = .ok (.iadd, 1) := by decide +kernel
theorem dX9_append_17 : decode cX9_append 17 = .ok (.putfield 15, 3) := by decide +kernel
theorem dX9_append_20 : decode cX9_append 20 = .ok (.return_, 1) := by decide +kernel
theorem dX9_read_0 : decode cX9_read 0 = .ok (.aload_n 1, 1) := by decide +kernel
theorem dX9_read_1 : decode cX9_read 1 = .ok (.invokevirtual 19, 3) := by decide +kernel
theorem dX9_read_4 : decode cX9_read 4 = .ok (.aload_n 0, 1) := by decide +kernel
theorem dX9_read_5 : decode cX9_read 5 = .ok (.iconst 0, 1) := by decide +kernel
theorem dX9_read_6 : decode cX9_read 6 = .ok (.putfield 24, 3) := by decide +kernel
theorem dX9_read_9 : decode cX9_read 9 = .ok (.aload_n 0, 1) := by decide +kernel
theorem dX9_read_10 : decode cX9_read 10 = .ok (.invokevirtual 27, 3) := by decide +kernel
theorem dX9_read_13 : decode cX9_read 13 = .ok (.aload_n 0, 1) := by decide +kernel
theorem dX9_read_14 : decode cX9_read 14 = .ok (.aload_n 1, 1) := by decide +kernel
theorem dX9_read_15 : decode cX9_read 15 = .ok (.invokevirtual 30, 3) := by decide +kernel
theorem dX9_read_18 : decode cX9_read 18 = .ok (.ifCond .ne 5, 3) := by decide +kernel
theorem dX9_read_21 : decode cX9_read 21 = .ok (.iconst 0, 1) := by decide +kernel
theorem dX9_read_22 : decode cX9_read 22 = .ok (.ireturn, 1) := by decide +kernel
theorem dX9_read_23 : decode cX9_read 23 = .ok (.iconst 0, 1) := by decide +kernel
theorem dX9_read_24 : decode cX9_read 24 = .ok (.istore_n 2, 1) := by decide +kernel
theorem dX9_read_25 : decode cX9_read 25 = .ok (.iload_n 2, 1) := by decide +kernel
theorem dX9_read_26 : decode cX9_read 26 = .ok (.bipush 12, 2) := by decide +kernel
theorem dX9_read_28 : decode cX9_read 28 = .ok (.if_icmp .gt 32, 3) := by decide +kernel
theorem dX9_read_31 : decode cX9_read 31 = .ok (.iload_n 2, 1) := by decide +kernel
theorem dX9_read_32 : decode cX9_read 32 = .ok (.ifCond .eq 12, 3) := by decide +kernel
theorem dX9_read_35 : decode cX9_read 35 = .ok (.aload_n 0, 1) := by decide +kernel
theorem dX9_read_36 : decode cX9_read 36 = .ok (.getfield 34, 3) := by decide +kernel
theorem dX9_read_39 : decode cX9_read 39 = .ok (.bipush 112, 2) := by decide +kernel
theorem dX9_read_41 : decode cX9_read 41 = .ok (.if_icmp .ne 19, 3) := by decide +kernel
theorem dX9_read_44 : decode cX9_read 44 = .ok (.aload_n 0, 1) := by decide +kernel
theorem dX9_read_45 : decode cX9_read 45 = .ok (.aload_n 1, 1) := by decide +kernel
theorem dX9_read_46 : decode cX9_read 46 = .ok (.invokevirtual 37, 3) := by decide +kernel
theorem dX9_read_49 : decode cX9_read 49 = .ok (.ifCond .ne 5, 3) := by decide +kernel
theorem dX9_read_52 : decode cX9_read 52 = .ok (.iconst 0, 1) := by decide +kernel
theorem dX9_read_53 : decode cX9_read 53 = .ok (.ireturn, 1) := by decide +kernel
theorem dX9_read_54 : decode cX9_read 54 = .ok (.iinc 2 1, 3) := by decide +kernel
theorem dX9_read_57 : decode cX9_read 57 = .ok (.goto (-32), 3) := by decide +kernel
theorem dX9_read_60 : decode cX9_read 60 = .ok (.iconst 0, 1) := by decide +kernel
theorem dX9_read_61 : decode cX9_read 61 = .ok (.istore_n 2, 1) := by decide +kernel
theorem dX9_read_62 : decode cX9_read 62 = .ok (.iload_n 2, 1) := by decide +kernel
theorem dX9_read_63 : decode cX9_read 63 = .ok (.bipush 6, 2) := by decide +kernel
theorem dX9_read_65 : decode cX9_read 65 = .ok (.if_icmp .gt 29, 3) := by decide +kernel
theorem dX9_read_68 : decode cX9_read 68 = .ok (.aload_n 0, 1) := by decide +kernel
theorem dX9_read_69 : decode cX9_read 69 = .ok (.getfield 34, 3) := by decide +kernel
theorem dX9_read_72 : decode cX9_read 72 = .ok (.invokestatic 40, 3) := by decide +kernel
theorem dX9_read_75 : decode cX9_read 75 = .ok (.ifCond .eq 19, 3) := by decide +kernel
theorem dX9_read_78 : decode cX9_read 78 = .ok (.aload_n 0, 1) := by decide +kernel
theorem dX9_read_79 : decode cX9_read 79 = .ok (.aload_n 1, 1) := by decide +kernel
theorem dX9_read_80 : decode cX9_read 80 = .ok (.invokevirtual 44, 3) := by decide +kernel
theorem dX9_read_83 : decode cX9_read 83 = .ok (.ifCond .ne 5, 3) := by decide +kernel
theorem dX9_read_86 : decode cX9_read 86 = .ok (.iconst 0, 1) := by decide +kernel
theorem dX9_read_87 : decode cX9_read 87 = .ok (.ireturn, 1) := by decide +kernel
theorem dX9_read_88 : decode cX9_read 88 = .ok (.iinc 2 1, 3) := by decide +kernel
theorem dX9_read_91 : decode cX9_read 91 = .ok (.goto (-29), 3) := by decide +kernel
theorem dX9_read_94 : decode cX9_read 94 = .ok (.aload_n 0, 1) := by decide +kernel
theorem dX9_read_95 : decode cX9_read 95 = .ok (.getfield 34, 3) := by decide +kernel
theorem dX9_read_98 : decode cX9_read 98 = .ok (.ifCond .eq 9, 3) := by decide +kernel
theorem dX9_read_101 : decode cX9_read 101 = .ok (.aload_n 0, 1) := by decide +kernel
theorem dX9_read_102 : decode cX9_read 102 = .ok (.iconst 1, 1) := by decide +kernel
theorem dX9_read_103 : decode cX9_read 103 = .ok (.invokevirtual 47, 3) := by decide +kernel
theorem dX9_read_106 : decode cX9_read 106 = .ok (.ireturn, 1) := by decide +kernel
theorem dX9_read_107 : decode cX9_read 107 = .ok (.aload_n 1, 1) := by decide +kernel
theorem dX9_read_108 : decode cX9_read 108 = .ok (.iconst 1, 1) := by decide +kernel
theorem dX9_read_109 : decode cX9_read 109 = .ok (.putfield 51, 3) := by decide +kernel
theorem dX9_read_112 : decode cX9_read 112 = .ok (.iconst 1, 1) := by decide +kernel
theorem dX9_read_113 : decode cX9_read 113 = .ok (.ireturn, 1) := by decide +kernel
theorem dX9_readLaw_0 : decode cX9_readLaw 0 = .ok (.aload_n 0, 1) := by decide +kernel
theorem dX9_readLaw_1 : decode cX9_readLaw 1 = .ok (.bipush 99, 2) := by decide +kernel
theorem dX9_readLaw_3 : decode cX9_readLaw 3 = .ok (.invokevirtual 55, 3) := by decide +kernel
theorem dX9_readLaw_6 : decode cX9_readLaw 6 = .ok (.ifCond .eq 13, 3) := by decide +kernel
theorem dX9_readLaw_9 : decode cX9_readLaw 9 = .ok (.aload_n 0, 1) := by decide +kernel
theorem dX9_readLaw_10 : decode cX9_readLaw 10 = .ok (.iconst 0, 1) := by decide +kernel
theorem dX9_readLaw_11 : decode cX9_readLaw 11 = .ok (.bipush 7, 2) := by decide +kernel
theorem dX9_readLaw_13 : decode cX9_readLaw 13 = .ok (.invokevirtual 58, 3) := by decide +kernel
theorem dX9_readLaw_16 : decode cX9_readLaw 16 = .ok (.ifCond .ne 5, 3) := by decide +kernel
theorem dX9_readLaw_19 : decode cX9_readLaw 19 = .ok (.iconst 0, 1) := by decide +kernel
theorem dX9_readLaw_20 : decode cX9_readLaw 20 = .ok (.ireturn, 1) := by decide +kernel
theorem dX9_readLaw_21 : decode cX9_readLaw 21 = .ok (.aload_n 1, 1) := by decide +kernel
theorem dX9_readLaw_22 : decode cX9_readLaw 22 = .ok (.aload_n 0, 1) := by decide +kernel
theorem dX9_readLaw_23 : decode cX9_readLaw 23 = .ok (.getfield 62, 3) := by decide +kernel
theorem dX9_readLaw_26 : decode cX9_readLaw 26 = .ok (.putfield 65, 3) := by decide +kernel
theorem dX9_readLaw_29 : decode cX9_readLaw 29 = .ok (.aload_n 0, 1) := by decide +kernel
theorem dX9_readLaw_30 : decode cX9_readLaw 30 = .ok (.invokevirtual 27, 3) := by decide +kernel
theorem dX9_readLaw_33 : decode cX9_readLaw 33 = .ok (.aload_n 0, 1) := by decide +kernel
theorem dX9_readLaw_34 : decode cX9_readLaw 34 = .ok (.bipush 44, 2) := by decide +kernel
theorem dX9_readLaw_36 : decode cX9_readLaw 36 = .ok (.invokevirtual 55, 3) := by decide +kernel
theorem dX9_readLaw_39 : decode cX9_readLaw 39 = .ok (.ifCond .eq 14, 3) := by decide +kernel
theorem dX9_readLaw_42 : decode cX9_readLaw 42 = .ok (.aload_n 0, 1) := by decide +kernel
theorem dX9_readLaw_43 : decode cX9_readLaw 43 = .ok (.bipush 20, 2) := by decide +kernel
theorem dX9_readLaw_45 : decode cX9_readLaw 45 = .ok (.bipush 90, 2) := by decide +kernel
theorem dX9_readLaw_47 : decode cX9_readLaw 47 = .ok (.invokevirtual 58, 3) := by decide +kernel
theorem dX9_readLaw_50 : decode cX9_readLaw 50 = .ok (.ifCond .ne 5, 3) := by decide +kernel
theorem dX9_readLaw_53 : decode cX9_readLaw 53 = .ok (.iconst 0, 1) := by decide +kernel
theorem dX9_readLaw_54 : decode cX9_readLaw 54 = .ok (.ireturn, 1) := by decide +kernel
theorem dX9_readLaw_55 : decode cX9_readLaw 55 = .ok (.aload_n 1, 1) := by decide +kernel
theorem dX9_readLaw_56 : decode cX9_readLaw 56 = .ok (.aload_n 0, 1) := by decide +kernel
theorem dX9_readLaw_57 : decode cX9_readLaw 57 = .ok (.getfield 62, 3) := by decide +kernel
theorem dX9_readLaw_60 : decode cX9_readLaw 60 = .ok (.putfield 68, 3) := by decide +kernel
theorem dX9_readLaw_63 : decode cX9_readLaw 63 = .ok (.aload_n 0, 1) := by decide +kernel
theorem dX9_readLaw_64 : decode cX9_readLaw 64 = .ok (.invokevirtual 27, 3) := by decide +kernel
theorem dX9_readLaw_67 : decode cX9_readLaw 67 = .ok (.aload_n 0, 1) := by decide +kernel
theorem dX9_readLaw_68 : decode cX9_readLaw 68 = .ok (.bipush 59, 2) := by decide +kernel
theorem dX9_readLaw_70 : decode cX9_readLaw 70 = .ok (.invokevirtual 55, 3) := by decide +kernel
theorem dX9_readLaw_73 : decode cX9_readLaw 73 = .ok (.ireturn, 1) := by decide +kernel
theorem dX9_readPath_0 : decode cX9_readPath 0 = .ok (.aload_n 0, 1) := by decide +kernel
theorem dX9_readPath_1 : decode cX9_readPath 1 = .ok (.getfield 34, 3) := by decide +kernel
theorem dX9_readPath_4 : decode cX9_readPath 4 = .ok (.bipush 112, 2) := by decide +kernel
theorem dX9_readPath_6 : decode cX9_readPath 6 = .ok (.if_icmp .ne 18, 3) := by decide +kernel
theorem dX9_readPath_9 : decode cX9_readPath 9 = .ok (.aload_n 1, 1) := by decide +kernel
theorem dX9_readPath_10 : decode cX9_readPath 10 = .ok (.getfield 71, 3) := by decide +kernel
theorem dX9_readPath_13 : decode cX9_readPath 13 = .ok (.bipush 12, 2) := by decide +kernel
theorem dX9_readPath_15 : decode cX9_readPath 15 = .ok (.if_icmp .lt 9, 3) := by decide +kernel
theorem dX9_readPath_18 : decode cX9_readPath 18 = .ok (.aload_n 0, 1) := by decide +kernel
theorem dX9_readPath_19 : decode cX9_readPath 19 = .ok (.iconst 3, 1) := by decide +kernel
theorem dX9_readPath_20 : decode cX9_readPath 20 = .ok (.invokevirtual 47, 3) := by decide +kernel
theorem dX9_readPath_23 : decode cX9_readPath 23 = .ok (.ireturn, 1) := by decide +kernel
theorem dX9_readPath_24 : decode cX9_readPath 24 = .ok (.aload_n 0, 1) := by decide +kernel
theorem dX9_readPath_25 : decode cX9_readPath 25 = .ok (.bipush 112, 2) := by decide +kernel
theorem dX9_readPath_27 : decode cX9_readPath 27 = .ok (.invokevirtual 55, 3) := by decide +kernel
theorem dX9_readPath_30 : decode cX9_readPath 30 = .ok (.ifCond .eq 13, 3) := by decide +kernel
theorem dX9_readPath_33 : decode cX9_readPath 33 = .ok (.aload_n 0, 1) := by decide +kernel
theorem dX9_readPath_34 : decode cX9_readPath 34 = .ok (.iconst 0, 1) := by decide +kernel
theorem dX9_readPath_35 : decode cX9_readPath 35 = .ok (.bipush 7, 2) := by decide +kernel
theorem dX9_readPath_37 : decode cX9_readPath 37 = .ok (.invokevirtual 58, 3) := by decide +kernel
theorem dX9_readPath_40 : decode cX9_readPath 40 = .ok (.ifCond .ne 5, 3) := by decide +kernel
theorem dX9_readPath_43 : decode cX9_readPath 43 = .ok (.iconst 0, 1) := by decide +kernel
theorem dX9_readPath_44 : decode cX9_readPath 44 = .ok (.ireturn, 1) := by decide +kernel
theorem dX9_readPath_45 : decode cX9_readPath 45 = .ok (.aload_n 0, 1) := by decide +kernel
theorem dX9_readPath_46 : decode cX9_readPath 46 = .ok (.getfield 62, 3) := by decide +kernel
theorem dX9_readPath_49 : decode cX9_readPath 49 = .ok (.istore_n 2, 1) := by decide +kernel
theorem dX9_readPath_50 : decode cX9_readPath 50 = .ok (.aload_n 0, 1) := by decide +kernel
theorem dX9_readPath_51 : decode cX9_readPath 51 = .ok (.invokevirtual 27, 3) := by decide +kernel
theorem dX9_readPath_54 : decode cX9_readPath 54 = .ok (.aload_n 0, 1) := by decide +kernel
theorem dX9_readPath_55 : decode cX9_readPath 55 = .ok (.bipush 44, 2) := by decide +kernel
theorem dX9_readPath_57 : decode cX9_readPath 57 = .ok (.invokevirtual 55, 3) := by decide +kernel
theorem dX9_readPath_60 : decode cX9_readPath 60 = .ok (.ifCond .eq 13, 3) := by decide +kernel
theorem dX9_readPath_63 : decode cX9_readPath 63 = .ok (.aload_n 0, 1) := by decide +kernel
theorem dX9_readPath_64 : decode cX9_readPath 64 = .ok (.iconst 0, 1) := by decide +kernel
theorem dX9_readPath_65 : decode cX9_readPath 65 = .ok (.bipush 7, 2) := by decide +kernel
theorem dX9_readPath_67 : decode cX9_readPath 67 = .ok (.invokevirtual 58, 3) := by decide +kernel
theorem dX9_readPath_70 : decode cX9_readPath 70 = .ok (.ifCond .ne 5, 3) := by decide +kernel
theorem dX9_readPath_73 : decode cX9_readPath 73 = .ok (.iconst 0, 1) := by decide +kernel
theorem dX9_readPath_74 : decode cX9_readPath 74 = .ok (.ireturn, 1) := by decide +kernel
theorem dX9_readPath_75 : decode cX9_readPath 75 = .ok (.aload_n 0, 1) := by decide +kernel
theorem dX9_readPath_76 : decode cX9_readPath 76 = .ok (.getfield 62, 3) := by decide +kernel
theorem dX9_readPath_79 : decode cX9_readPath 79 = .ok (.istore_n 3, 1) := by decide +kernel
theorem dX9_readPath_80 : decode cX9_readPath 80 = .ok (.iload_n 2, 1) := by decide +kernel
theorem dX9_readPath_81 : decode cX9_readPath 81 = .ok (.iload_n 3, 1) := by decide +kernel
theorem dX9_readPath_82 : decode cX9_readPath 82 = .ok (.if_icmp .eq 12, 3) := by decide +kernel
theorem dX9_readPath_85 : decode cX9_readPath 85 = .ok (.aload_n 1, 1) := by decide +kernel
theorem dX9_readPath_86 : decode cX9_readPath 86 = .ok (.iload_n 2, 1) := by decide +kernel
theorem dX9_readPath_87 : decode cX9_readPath 87 = .ok (.iload_n 3, 1) := by decide +kernel
theorem dX9_readPath_88 : decode cX9_readPath 88 = .ok (.invokevirtual 74, 3) := by decide +kernel
theorem dX9_readPath_91 : decode cX9_readPath 91 = .ok (.ifCond .eq 9, 3) := by decide +kernel
theorem dX9_readPath_94 : decode cX9_readPath 94 = .ok (.aload_n 0, 1) := by decide +kernel
theorem dX9_readPath_95 : decode cX9_readPath 95 = .ok (.iconst 2, 1) := by decide +kernel
theorem dX9_readPath_96 : decode cX9_readPath 96 = .ok (.invokevirtual 47, 3) := by decide +kernel
theorem dX9_readPath_99 : decode cX9_readPath 99 = .ok (.ireturn, 1) := by decide +kernel
theorem dX9_readPath_100 : decode cX9_readPath 100 = .ok (.aload_n 0, 1) := by decide +kernel
theorem dX9_readPath_101 : decode cX9_readPath 101 = .ok (.invokevirtual 27, 3) := by decide +kernel
theorem dX9_readPath_104 : decode cX9_readPath 104 = .ok (.aload_n 0, 1) := by decide +kernel
theorem dX9_readPath_105 : decode cX9_readPath 105 = .ok (.bipush 44, 2) := by decide +kernel
theorem dX9_readPath_107 : decode cX9_readPath 107 = .ok (.invokevirtual 55, 3) := by decide +kernel
theorem dX9_readPath_110 : decode cX9_readPath 110 = .ok (.ifCond .eq 13, 3) := by decide +kernel
theorem dX9_readPath_113 : decode cX9_readPath 113 = .ok (.aload_n 0, 1) := by decide +kernel
theorem dX9_readPath_114 : decode cX9_readPath 114 = .ok (.iconst 1, 1) := by decide +kernel
theorem dX9_readPath_115 : decode cX9_readPath 115 = .ok (.bipush 9, 2) := by decide +kernel
theorem dX9_readPath_117 : decode cX9_readPath 117 = .ok (.invokevirtual 58, 3) := by decide +kernel
theorem dX9_readPath_120 : decode cX9_readPath 120 = .ok (.ifCond .ne 5, 3) := by decide +kernel
theorem dX9_readPath_123 : decode cX9_readPath 123 = .ok (.iconst 0, 1) := by decide +kernel
theorem dX9_readPath_124 : decode cX9_readPath 124 = .ok (.ireturn, 1) := by decide +kernel
theorem dX9_readPath_125 : decode cX9_readPath 125 = .ok (.aload_n 1, 1) := by decide +kernel
theorem dX9_readPath_126 : decode cX9_readPath 126 = .ok (.iload_n 2, 1) := by decide +kernel
theorem dX9_readPath_127 : decode cX9_readPath 127 = .ok (.iload_n 3, 1) := by decide +kernel
theorem dX9_readPath_128 : decode cX9_readPath 128 = .ok (.aload_n 0, 1) := by decide +kernel
theorem dX9_readPath_129 : decode cX9_readPath 129 = .ok (.getfield 62, 3) := by decide +kernel
theorem dX9_readPath_132 : decode cX9_readPath 132 = .ok (.invokevirtual 77, 3) := by decide +kernel
theorem dX9_readPath_135 : decode cX9_readPath 135 = .ok (.aload_n 0, 1) := by decide +kernel
theorem dX9_readPath_136 : decode cX9_readPath 136 = .ok (.invokevirtual 27, 3) := by decide +kernel
theorem dX9_readPath_139 : decode cX9_readPath 139 = .ok (.aload_n 0, 1) := by decide +kernel
theorem dX9_readPath_140 : decode cX9_readPath 140 = .ok (.bipush 59, 2) := by decide +kernel
theorem dX9_readPath_142 : decode cX9_readPath 142 = .ok (.invokevirtual 55, 3) := by decide +kernel
theorem dX9_readPath_145 : decode cX9_readPath 145 = .ok (.ireturn, 1) := by decide +kernel
theorem dX9_readWitness_0 : decode cX9_readWitness 0 = .ok (.aload_n 1, 1) := by decide +kernel
theorem dX9_readWitness_1 : decode cX9_readWitness 1 = .ok (.getfield 81, 3) := by decide +kernel
theorem dX9_readWitness_4 : decode cX9_readWitness 4 = .ok (.bipush 6, 2) := by decide +kernel
theorem dX9_readWitness_6 : decode cX9_readWitness 6 = .ok (.if_icmp .lt 9, 3) := by decide +kernel
theorem dX9_readWitness_9 : decode cX9_readWitness 9 = .ok (.aload_n 0, 1) := by decide +kernel
theorem dX9_readWitness_10 : decode cX9_readWitness 10 = .ok (.iconst 3, 1) := by decide +kernel
theorem dX9_readWitness_11 : decode cX9_readWitness 11 = .ok (.invokevirtual 47, 3) := by decide +kernel
theorem dX9_readWitness_14 : decode cX9_readWitness 14 = .ok (.ireturn, 1) := by decide +kernel
theorem dX9_readWitness_15 : decode cX9_readWitness 15 = .ok (.aload_n 0, 1) := by decide +kernel
theorem dX9_readWitness_16 : decode cX9_readWitness 16 = .ok (.getfield 34, 3) := by decide +kernel
theorem dX9_readWitness_19 : decode cX9_readWitness 19 = .ok (.invokestatic 40, 3) := by decide +kernel
theorem dX9_readWitness_22 : decode cX9_readWitness 22 = .ok (.istore_n 2, 1) := by decide +kernel
theorem dX9_readWitness_23 : decode cX9_readWitness 23 = .ok (.aload_n 0, 1) := by decide +kernel
theorem dX9_readWitness_24 : decode cX9_readWitness 24 = .ok (.invokevirtual 27, 3) := by decide +kernel
theorem dX9_readWitness_27 : decode cX9_readWitness 27 = .ok (.aload_n 0, 1) := by decide +kernel
theorem dX9_readWitness_28 : decode cX9_readWitness 28 = .ok (.iconst 0, 1) := by decide +kernel
theorem dX9_readWitness_29 : decode cX9_readWitness 29 = .ok (.bipush 60, 2) := by decide +kernel
theorem dX9_readWitness_31 : decode cX9_readWitness 31 = .ok (.invokevirtual 58, 3) := by decide +kernel
theorem dX9_readWitness_34 : decode cX9_readWitness 34 = .ok (.ifCond .ne 5, 3) := by decide +kernel
theorem dX9_readWitness_37 : decode cX9_readWitness 37 = .ok (.iconst 0, 1) := by decide +kernel
theorem dX9_readWitness_38 : decode cX9_readWitness 38 = .ok (.ireturn, 1) := by decide +kernel
theorem dX9_readWitness_39 : decode cX9_readWitness 39 = .ok (.aload_n 0, 1) := by decide +kernel
theorem dX9_readWitness_40 : decode cX9_readWitness 40 = .ok (.getfield 62, 3) := by decide +kernel
theorem dX9_readWitness_43 : decode cX9_readWitness 43 = .ok (.istore_n 3, 1) := by decide +kernel
theorem dX9_readWitness_44 : decode cX9_readWitness 44 = .ok (.aload_n 0, 1) := by decide +kernel
theorem dX9_readWitness_45 : decode cX9_readWitness 45 = .ok (.invokevirtual 27, 3) := by decide +kernel
theorem dX9_readWitness_48 : decode cX9_readWitness 48 = .ok (.aload_n 0, 1) := by decide +kernel
theorem dX9_readWitness_49 : decode cX9_readWitness 49 = .ok (.bipush 44, 2) := by decide +kernel
theorem dX9_readWitness_51 : decode cX9_readWitness 51 = .ok (.invokevirtual 55, 3) := by decide +kernel
theorem dX9_readWitness_54 : decode cX9_readWitness 54 = .ok (.ifCond .eq 13, 3) := by decide +kernel
theorem dX9_readWitness_57 : decode cX9_readWitness 57 = .ok (.aload_n 0, 1) := by decide +kernel
theorem dX9_readWitness_58 : decode cX9_readWitness 58 = .ok (.iconst 0, 1) := by decide +kernel
theorem dX9_readWitness_59 : decode cX9_readWitness 59 = .ok (.bipush 7, 2) := by decide +kernel
theorem dX9_readWitness_61 : decode cX9_readWitness 61 = .ok (.invokevirtual 58, 3) := by decide +kernel
theorem dX9_readWitness_64 : decode cX9_readWitness 64 = .ok (.ifCond .ne 5, 3) := by decide +kernel
theorem dX9_readWitness_67 : decode cX9_readWitness 67 = .ok (.iconst 0, 1) := by decide +kernel
theorem dX9_readWitness_68 : decode cX9_readWitness 68 = .ok (.ireturn, 1) := by decide +kernel
theorem dX9_readWitness_69 : decode cX9_readWitness 69 = .ok (.aload_n 1, 1) := by decide +kernel
theorem dX9_readWitness_70 : decode cX9_readWitness 70 = .ok (.iload_n 2, 1) := by decide +kernel
theorem dX9_readWitness_71 : decode cX9_readWitness 71 = .ok (.iload_n 3, 1) := by decide +kernel
theorem dX9_readWitness_72 : decode cX9_readWitness 72 = .ok (.aload_n 0, 1) := by decide +kernel
theorem dX9_readWitness_73 : decode cX9_readWitness 73 = .ok (.getfield 62, 3) := by decide +kernel
theorem dX9_readWitness_76 : decode cX9_readWitness 76 = .ok (.invokevirtual 84, 3) := by decide +kernel
theorem dX9_readWitness_79 : decode cX9_readWitness 79 = .ok (.aload_n 0, 1) := by decide +kernel
theorem dX9_readWitness_80 : decode cX9_readWitness 80 = .ok (.invokevirtual 27, 3) := by decide +kernel
theorem dX9_readWitness_83 : decode cX9_readWitness 83 = .ok (.aload_n 0, 1) := by decide +kernel
theorem dX9_readWitness_84 : decode cX9_readWitness 84 = .ok (.bipush 59, 2) := by decide +kernel
theorem dX9_readWitness_86 : decode cX9_readWitness 86 = .ok (.invokevirtual 55, 3) := by decide +kernel
theorem dX9_readWitness_89 : decode cX9_readWitness 89 = .ok (.ireturn, 1) := by decide +kernel
theorem dX9_sortOf_0 : decode cX9_sortOf 0 = .ok (.iload_n 0, 1) := by decide +kernel
theorem dX9_sortOf_1 : decode cX9_sortOf 1 = .ok (.lookupswitch 61 #[(99, 53), (102, 55), (109, 59), (110, 51), (115, 57)], 51) := by decide +kernel
theorem dX9_sortOf_52 : decode cX9_sortOf 52 = .ok (.iconst 1, 1) := by decide +kernel
theorem dX9_sortOf_53 : decode cX9_sortOf 53 = .ok (.ireturn, 1) := by decide +kernel
theorem dX9_sortOf_54 : decode cX9_sortOf 54 = .ok (.iconst 2, 1) := by decide +kernel
theorem dX9_sortOf_55 : decode cX9_sortOf 55 = .ok (.ireturn, 1) := by decide +kernel
theorem dX9_sortOf_56 : decode cX9_sortOf 56 = .ok (.iconst 3, 1) := by decide +kernel
theorem dX9_sortOf_57 : decode cX9_sortOf 57 = .ok (.ireturn, 1) := by decide +kernel
theorem dX9_sortOf_58 : decode cX9_sortOf 58 = .ok (.iconst 4, 1) := by decide +kernel
theorem dX9_sortOf_59 : decode cX9_sortOf 59 = .ok (.ireturn, 1) := by decide +kernel
theorem dX9_sortOf_60 : decode cX9_sortOf 60 = .ok (.iconst 5, 1) := by decide +kernel
theorem dX9_sortOf_61 : decode cX9_sortOf 61 = .ok (.ireturn, 1) := by decide +kernel
theorem dX9_sortOf_62 : decode cX9_sortOf 62 = .ok (.iconst 0, 1) := by decide +kernel
theorem dX9_sortOf_63 : decode cX9_sortOf 63 = .ok (.ireturn, 1) := by decide +kernel
theorem dX9_fails_0 : decode cX9_fails 0 = .ok (.aload_n 0, 1) := by decide +kernel
theorem dX9_fails_1 : decode cX9_fails 1 = .ok (.iload_n 1, 1) := by decide +kernel
theorem dX9_fails_2 : decode cX9_fails 2 = .ok (.putfield 87, 3) := by decide +kernel
theorem dX9_fails_5 : decode cX9_fails 5 = .ok (.aload_n 0, 1) := by decide +kernel
theorem dX9_fails_6 : decode cX9_fails 6 = .ok (.aload_n 0, 1) := by decide +kernel
theorem dX9_fails_7 : decode cX9_fails 7 = .ok (.getfield 90, 3) := by decide +kernel
theorem dX9_fails_10 : decode cX9_fails 10 = .ok (.putfield 93, 3) := by decide +kernel
theorem dX9_fails_13 : decode cX9_fails 13 = .ok (.iconst 0, 1) := by decide +kernel
theorem dX9_fails_14 : decode cX9_fails 14 = .ok (.ireturn, 1) := by decide +kernel
theorem dX9_takes_0 : decode cX9_takes 0 = .ok (.aload_n 0, 1) := by decide +kernel
theorem dX9_takes_1 : decode cX9_takes 1 = .ok (.getfield 34, 3) := by decide +kernel
theorem dX9_takes_4 : decode cX9_takes 4 = .ok (.iload_n 1, 1) := by decide +kernel
theorem dX9_takes_5 : decode cX9_takes 5 = .ok (.if_icmp .eq 9, 3) := by decide +kernel
theorem dX9_takes_8 : decode cX9_takes 8 = .ok (.aload_n 0, 1) := by decide +kernel
theorem dX9_takes_9 : decode cX9_takes 9 = .ok (.iconst 1, 1) := by decide +kernel
theorem dX9_takes_10 : decode cX9_takes 10 = .ok (.invokevirtual 47, 3) := by decide +kernel
theorem dX9_takes_13 : decode cX9_takes 13 = .ok (.ireturn, 1) := by decide +kernel
theorem dX9_takes_14 : decode cX9_takes 14 = .ok (.aload_n 0, 1) := by decide +kernel
theorem dX9_takes_15 : decode cX9_takes 15 = .ok (.invokevirtual 27, 3) := by decide +kernel
theorem dX9_takes_18 : decode cX9_takes 18 = .ok (.iconst 1, 1) := by decide +kernel
theorem dX9_takes_19 : decode cX9_takes 19 = .ok (.ireturn, 1) := by decide +kernel
theorem dX9_isNumber_0 : decode cX9_isNumber 0 = .ok (.aload_n 0, 1) := by decide +kernel
theorem dX9_isNumber_1 : decode cX9_isNumber 1 = .ok (.getfield 34, 3) := by decide +kernel
theorem dX9_isNumber_4 : decode cX9_isNumber 4 = .ok (.iconst 1, 1) := by decide +kernel
theorem dX9_isNumber_5 : decode cX9_isNumber 5 = .ok (.if_icmp .eq 9, 3) := by decide +kernel
theorem dX9_isNumber_8 : decode cX9_isNumber 8 = .ok (.aload_n 0, 1) := by decide +kernel
theorem dX9_isNumber_9 : decode cX9_isNumber 9 = .ok (.iconst 1, 1) := by decide +kernel
theorem dX9_isNumber_10 : decode cX9_isNumber 10 = .ok (.invokevirtual 47, 3) := by decide +kernel
theorem dX9_isNumber_13 : decode cX9_isNumber 13 = .ok (.ireturn, 1) := by decide +kernel
theorem dX9_isNumber_14 : decode cX9_isNumber 14 = .ok (.aload_n 0, 1) := by decide +kernel
theorem dX9_isNumber_15 : decode cX9_isNumber 15 = .ok (.getfield 62, 3) := by decide +kernel
theorem dX9_isNumber_18 : decode cX9_isNumber 18 = .ok (.iload_n 1, 1) := by decide +kernel
theorem dX9_isNumber_19 : decode cX9_isNumber 19 = .ok (.if_icmp .lt 11, 3) := by decide +kernel
theorem dX9_isNumber_22 : decode cX9_isNumber 22 = .ok (.aload_n 0, 1) := by decide +kernel
theorem dX9_isNumber_23 : decode cX9_isNumber 23 = .ok (.getfield 62, 3) := by decide +kernel
theorem dX9_isNumber_26 : decode cX9_isNumber 26 = .ok (.iload_n 2, 1) := by decide +kernel
theorem dX9_isNumber_27 : decode cX9_isNumber 27 = .ok (.if_icmp .le 11, 3) := by decide +kernel
theorem dX9_isNumber_30 : decode cX9_isNumber 30 = .ok (.aload_n 0, 1) := by decide +kernel
theorem dX9_isNumber_31 : decode cX9_isNumber 31 = .ok (.iconst 2, 1) := by decide +kernel
theorem dX9_isNumber_32 : decode cX9_isNumber 32 = .ok (.invokevirtual 47, 3) := by decide +kernel
theorem dX9_isNumber_35 : decode cX9_isNumber 35 = .ok (.ifCond .eq 7, 3) := by decide +kernel
theorem dX9_isNumber_38 : decode cX9_isNumber 38 = .ok (.iconst 1, 1) := by decide +kernel
theorem dX9_isNumber_39 : decode cX9_isNumber 39 = .ok (.goto 4, 3) := by decide +kernel
theorem dX9_isNumber_42 : decode cX9_isNumber 42 = .ok (.iconst 0, 1) := by decide +kernel
theorem dX9_isNumber_43 : decode cX9_isNumber 43 = .ok (.ireturn, 1) := by decide +kernel
theorem dX9_take_0 : decode cX9_take 0 = .ok (.aload_n 0, 1) := by decide +kernel
theorem dX9_take_1 : decode cX9_take 1 = .ok (.aload_n 0, 1) := by decide +kernel
theorem dX9_take_2 : decode cX9_take 2 = .ok (.getfield 24, 3) := by decide +kernel
theorem dX9_take_5 : decode cX9_take 5 = .ok (.putfield 90, 3) := by decide +kernel
theorem dX9_take_8 : decode cX9_take 8 = .ok (.aload_n 0, 1) := by decide +kernel
theorem dX9_take_9 : decode cX9_take 9 = .ok (.getfield 90, 3) := by decide +kernel
theorem dX9_take_12 : decode cX9_take 12 = .ok (.aload_n 0, 1) := by decide +kernel
theorem dX9_take_13 : decode cX9_take 13 = .ok (.getfield 15, 3) := by decide +kernel
theorem dX9_take_16 : decode cX9_take 16 = .ok (.if_icmp .lt 9, 3) := by decide +kernel
theorem dX9_take_19 : decode cX9_take 19 = .ok (.aload_n 0, 1) := by decide +kernel
theorem dX9_take_20 : decode cX9_take 20 = .ok (.iconst 0, 1) := by decide +kernel
theorem dX9_take_21 : decode cX9_take 21 = .ok (.putfield 34, 3) := by decide +kernel
theorem dX9_take_24 : decode cX9_take 24 = .ok (.return_, 1) := by decide +kernel
theorem dX9_take_25 : decode cX9_take 25 = .ok (.aload_n 0, 1) := by decide +kernel
theorem dX9_take_26 : decode cX9_take 26 = .ok (.getfield 9, 3) := by decide +kernel
theorem dX9_take_29 : decode cX9_take 29 = .ok (.aload_n 0, 1) := by decide +kernel
theorem dX9_take_30 : decode cX9_take 30 = .ok (.getfield 90, 3) := by decide +kernel
theorem dX9_take_33 : decode cX9_take 33 = .ok (.iaload, 1) := by decide +kernel
theorem dX9_take_34 : decode cX9_take 34 = .ok (.istore_n 1, 1) := by decide +kernel
theorem dX9_take_35 : decode cX9_take 35 = .ok (.aload_n 0, 1) := by decide +kernel
theorem dX9_take_36 : decode cX9_take 36 = .ok (.aload_n 0, 1) := by decide +kernel
theorem dX9_take_37 : decode cX9_take 37 = .ok (.getfield 90, 3) := by decide +kernel
theorem dX9_take_40 : decode cX9_take 40 = .ok (.iconst 1, 1) := by decide +kernel
theorem dX9_take_41 : decode cX9_take 41 = .ok (.iadd, 1) := by decide +kernel
theorem dX9_take_42 : decode cX9_take 42 = .ok (.putfield 24, 3) := by decide +kernel
theorem dX9_take_45 : decode cX9_take 45 = .ok (.iload_n 1, 1) := by decide +kernel
theorem dX9_take_46 : decode cX9_take 46 = .ok (.invokestatic 96, 3) := by decide +kernel
theorem dX9_take_49 : decode cX9_take 49 = .ok (.ifCond .eq 10, 3) := by decide +kernel
theorem dX9_take_52 : decode cX9_take 52 = .ok (.aload_n 0, 1) := by decide +kernel
theorem dX9_take_53 : decode cX9_take 53 = .ok (.invokevirtual 99, 3) := by decide +kernel
theorem dX9_take_56 : decode cX9_take 56 = .ok (.goto 40, 3) := by decide +kernel
theorem dX9_take_59 : decode cX9_take 59 = .ok (.iload_n 1, 1) := by decide +kernel
theorem dX9_take_60 : decode cX9_take 60 = .ok (.bipush 97, 2) := by decide +kernel
theorem dX9_take_62 : decode cX9_take 62 = .ok (.if_icmp .lt 9, 3) := by decide +kernel
theorem dX9_take_65 : decode cX9_take 65 = .ok (.iload_n 1, 1) := by decide +kernel
theorem dX9_take_66 : decode cX9_take 66 = .ok (.bipush 122, 2) := by decide +kernel
theorem dX9_take_68 : decode cX9_take 68 = .ok (.if_icmp .le 15, 3) := by decide +kernel
theorem dX9_take_71 : decode cX9_take 71 = .ok (.iload_n 1, 1) := by decide +kernel
theorem dX9_take_72 : decode cX9_take 72 = .ok (.bipush 44, 2) := by decide +kernel
theorem dX9_take_74 : decode cX9_take 74 = .ok (.if_icmp .eq 9, 3) := by decide +kernel
theorem dX9_take_77 : decode cX9_take 77 = .ok (.iload_n 1, 1) := by decide +kernel
theorem dX9_take_78 : decode cX9_take 78 = .ok (.bipush 59, 2) := by decide +kernel
theorem dX9_take_80 : decode cX9_take 80 = .ok (.if_icmp .ne 11, 3) := by decide +kernel
theorem dX9_take_83 : decode cX9_take 83 = .ok (.aload_n 0, 1) := by decide +kernel
theorem dX9_take_84 : decode cX9_take 84 = .ok (.iload_n 1, 1) := by decide +kernel
theorem dX9_take_85 : decode cX9_take 85 = .ok (.putfield 34, 3) := by decide +kernel
theorem dX9_take_88 : decode cX9_take 88 = .ok (.goto 8, 3) := by decide +kernel
theorem dX9_take_91 : decode cX9_take 91 = .ok (.aload_n 0, 1) := by decide +kernel
theorem dX9_take_92 : decode cX9_take 92 = .ok (.iconst (-1), 1) := by decide +kernel
theorem dX9_take_93 : decode cX9_take 93 = .ok (.putfield 34, 3) := by decide +kernel
theorem dX9_take_96 : decode cX9_take 96 = .ok (.return_, 1) := by decide +kernel
theorem dX9_takeNumber_0 : decode cX9_takeNumber 0 = .ok (.aload_n 0, 1) := by decide +kernel
theorem dX9_takeNumber_1 : decode cX9_takeNumber 1 = .ok (.iconst 0, 1) := by decide +kernel
theorem dX9_takeNumber_2 : decode cX9_takeNumber 2 = .ok (.putfield 62, 3) := by decide +kernel
theorem dX9_takeNumber_5 : decode cX9_takeNumber 5 = .ok (.aload_n 0, 1) := by decide +kernel
theorem dX9_takeNumber_6 : decode cX9_takeNumber 6 = .ok (.aload_n 0, 1) := by decide +kernel
theorem dX9_takeNumber_7 : decode cX9_takeNumber 7 = .ok (.getfield 90, 3) := by decide +kernel
theorem dX9_takeNumber_10 : decode cX9_takeNumber 10 = .ok (.putfield 24, 3) := by decide +kernel
theorem dX9_takeNumber_13 : decode cX9_takeNumber 13 = .ok (.aload_n 0, 1) := by decide +kernel
theorem dX9_takeNumber_14 : decode cX9_takeNumber 14 = .ok (.getfield 24, 3) := by decide +kernel
theorem dX9_takeNumber_17 : decode cX9_takeNumber 17 = .ok (.aload_n 0, 1) := by decide +kernel
theorem dX9_takeNumber_18 : decode cX9_takeNumber 18 = .ok (.getfield 15, 3) := by decide +kernel
theorem dX9_takeNumber_21 : decode cX9_takeNumber 21 = .ok (.if_icmp .ge 75, 3) := by decide +kernel
theorem dX9_takeNumber_24 : decode cX9_takeNumber 24 = .ok (.aload_n 0, 1) := by decide +kernel
theorem dX9_takeNumber_25 : decode cX9_takeNumber 25 = .ok (.getfield 9, 3) := by decide +kernel
theorem dX9_takeNumber_28 : decode cX9_takeNumber 28 = .ok (.aload_n 0, 1) := by decide +kernel
theorem dX9_takeNumber_29 : decode cX9_takeNumber 29 = .ok (.getfield 24, 3) := by decide +kernel
theorem dX9_takeNumber_32 : decode cX9_takeNumber 32 = .ok (.iaload, 1) := by decide +kernel
theorem dX9_takeNumber_33 : decode cX9_takeNumber 33 = .ok (.invokestatic 96, 3) := by decide +kernel
theorem dX9_takeNumber_36 : decode cX9_takeNumber 36 = .ok (.ifCond .eq 60, 3) := by decide +kernel
theorem dX9_takeNumber_39 : decode cX9_takeNumber 39 = .ok (.aload_n 0, 1) := by decide +kernel
theorem dX9_takeNumber_40 : decode cX9_takeNumber 40 = .ok (.aload_n 0, 1) := by decide +kernel
theorem dX9_takeNumber_41 : decode cX9_takeNumber 41 = .ok (.getfield 24, 3) := by decide +kernel
theorem dX9_takeNumber_44 : decode cX9_takeNumber 44 = .ok (.aload_n 0, 1) := by decide +kernel
theorem dX9_takeNumber_45 : decode cX9_takeNumber 45 = .ok (.getfield 90, 3) := by decide +kernel
theorem dX9_takeNumber_48 : decode cX9_takeNumber 48 = .ok (.isub, 1) := by decide +kernel
theorem dX9_takeNumber_49 : decode cX9_takeNumber 49 = .ok (.iconst 2, 1) := by decide +kernel
theorem dX9_takeNumber_50 : decode cX9_takeNumber 50 = .ok (.if_icmp .ge 26, 3) := by decide +kernel
theorem dX9_takeNumber_53 : decode cX9_takeNumber 53 = .ok (.aload_n 0, 1) := by decide +kernel
theorem dX9_takeNumber_54 : decode cX9_takeNumber 54 = .ok (.getfield 62, 3) := by decide +kernel
theorem dX9_takeNumber_57 : decode cX9_takeNumber 57 = .ok (.bipush 10, 2) := by decide +kernel
theorem dX9_takeNumber_59 : decode cX9_takeNumber 59 = .ok (.imul, 1) := by decide +kernel
theorem dX9_takeNumber_60 : decode cX9_takeNumber 60 = .ok (.aload_n 0, 1) := by decide +kernel
theorem dX9_takeNumber_61 : decode cX9_takeNumber 61 = .ok (.getfield 9, 3) := by decide +kernel
theorem dX9_takeNumber_64 : decode cX9_takeNumber 64 = .ok (.aload_n 0, 1) := by decide +kernel
theorem dX9_takeNumber_65 : decode cX9_takeNumber 65 = .ok (.getfield 24, 3) := by decide +kernel
theorem dX9_takeNumber_68 : decode cX9_takeNumber 68 = .ok (.iaload, 1) := by decide +kernel
theorem dX9_takeNumber_69 : decode cX9_takeNumber 69 = .ok (.iadd, 1) := by decide +kernel
theorem dX9_takeNumber_70 : decode cX9_takeNumber 70 = .ok (.bipush 48, 2) := by decide +kernel
theorem dX9_takeNumber_72 : decode cX9_takeNumber 72 = .ok (.isub, 1) := by decide +kernel
theorem dX9_takeNumber_73 : decode cX9_takeNumber 73 = .ok (.goto 7, 3) := by decide +kernel
theorem dX9_takeNumber_76 : decode cX9_takeNumber 76 = .ok (.aload_n 0, 1) := by decide +kernel
theorem dX9_takeNumber_77 : decode cX9_takeNumber 77 = .ok (.getfield 62, 3) := by decide +kernel
theorem dX9_takeNumber_80 : decode cX9_takeNumber 80 = .ok (.putfield 62, 3) := by decide +kernel
theorem dX9_takeNumber_83 : decode cX9_takeNumber 83 = .ok (.aload_n 0, 1) := by decide +kernel
theorem dX9_takeNumber_84 : decode cX9_takeNumber 84 = .ok (.dup, 1) := by decide +kernel
theorem dX9_takeNumber_85 : decode cX9_takeNumber 85 = .ok (.getfield 24, 3) := by decide +kernel
theorem dX9_takeNumber_88 : decode cX9_takeNumber 88 = .ok (.iconst 1, 1) := by decide +kernel
theorem dX9_takeNumber_89 : decode cX9_takeNumber 89 = .ok (.iadd, 1) := by decide +kernel
theorem dX9_takeNumber_90 : decode cX9_takeNumber 90 = .ok (.putfield 24, 3) := by decide +kernel
theorem dX9_takeNumber_93 : decode cX9_takeNumber 93 = .ok (.goto (-80), 3) := by decide +kernel
theorem dX9_takeNumber_96 : decode cX9_takeNumber 96 = .ok (.aload_n 0, 1) := by decide +kernel
theorem dX9_takeNumber_97 : decode cX9_takeNumber 97 = .ok (.aload_n 0, 1) := by decide +kernel
theorem dX9_takeNumber_98 : decode cX9_takeNumber 98 = .ok (.getfield 24, 3) := by decide +kernel
theorem dX9_takeNumber_101 : decode cX9_takeNumber 101 = .ok (.aload_n 0, 1) := by decide +kernel
theorem dX9_takeNumber_102 : decode cX9_takeNumber 102 = .ok (.getfield 90, 3) := by decide +kernel
theorem dX9_takeNumber_105 : decode cX9_takeNumber 105 = .ok (.isub, 1) := by decide +kernel
theorem dX9_takeNumber_106 : decode cX9_takeNumber 106 = .ok (.iconst 2, 1) := by decide +kernel
theorem dX9_takeNumber_107 : decode cX9_takeNumber 107 = .ok (.if_icmp .le 7, 3) := by decide +kernel
theorem dX9_takeNumber_110 : decode cX9_takeNumber 110 = .ok (.iconst (-1), 1) := by decide +kernel
theorem dX9_takeNumber_111 : decode cX9_takeNumber 111 = .ok (.goto 4, 3) := by decide +kernel
theorem dX9_takeNumber_114 : decode cX9_takeNumber 114 = .ok (.iconst 1, 1) := by decide +kernel
theorem dX9_takeNumber_115 : decode cX9_takeNumber 115 = .ok (.putfield 34, 3) := by decide +kernel
theorem dX9_takeNumber_118 : decode cX9_takeNumber 118 = .ok (.return_, 1) := by decide +kernel
theorem dX9_isFigure_0 : decode cX9_isFigure 0 = .ok (.iload_n 0, 1) := by decide +kernel
theorem dX9_isFigure_1 : decode cX9_isFigure 1 = .ok (.bipush 48, 2) := by decide +kernel
theorem dX9_isFigure_3 : decode cX9_isFigure 3 = .ok (.if_icmp .lt 13, 3) := by decide +kernel
theorem dX9_isFigure_6 : decode cX9_isFigure 6 = .ok (.iload_n 0, 1) := by decide +kernel
theorem dX9_isFigure_7 : decode cX9_isFigure 7 = .ok (.bipush 57, 2) := by decide +kernel
theorem dX9_isFigure_9 : decode cX9_isFigure 9 = .ok (.if_icmp .gt 7, 3) := by decide +kernel
theorem dX9_isFigure_12 : decode cX9_isFigure 12 = .ok (.iconst 1, 1) := by decide +kernel
theorem dX9_isFigure_13 : decode cX9_isFigure 13 = .ok (.goto 4, 3) := by decide +kernel
theorem dX9_isFigure_16 : decode cX9_isFigure 16 = .ok (.iconst 0, 1) := by decide +kernel
theorem dX9_isFigure_17 : decode cX9_isFigure 17 = .ok (.ireturn, 1) := by decide +kernel
theorem dX10_init_0 : decode cX10_init 0 = .ok (.aload_n 0, 1) := by decide +kernel
theorem dX10_init_1 : decode cX10_init 1 = .ok (.invokespecial 1, 3) := by decide +kernel
theorem dX10_init_4 : decode cX10_init 4 = .ok (.return_, 1) := by decide +kernel
theorem dX10_span_0 : decode cX10_span 0 = .ok (.iload_n 1, 1) := by decide +kernel
theorem dX10_span_1 : decode cX10_span 1 = .ok (.ireturn, 1) := by decide +kernel
theorem dX10_sees_0 : decode cX10_sees 0 = .ok (.iconst 0, 1) := by decide +kernel
theorem dX10_sees_1 : decode cX10_sees 1 = .ok (.ireturn, 1) := by decide +kernel
theorem dX10_keeps_0 : decode cX10_keeps 0 = .ok (.iload_n 1, 1) := by decide +kernel
theorem dX10_keeps_1 : decode cX10_keeps 1 = .ok (.ireturn, 1) := by decide +kernel
theorem dX10_size_0 : decode cX10_size 0 = .ok (.aload_n 1, 1) := by decide +kernel
theorem dX10_size_1 : decode cX10_size 1 = .ok (.bipush 10, 2) := by decide +kernel
theorem dX10_size_3 : decode cX10_size 3 = .ok (.invokevirtual 7, 3) := by decide +kernel
theorem dX10_size_6 : decode cX10_size 6 = .ok (.aload_n 1, 1) := by decide +kernel
theorem dX10_size_7 : decode cX10_size 7 = .ok (.getfield 13, 3) := by decide +kernel
theorem dX10_size_10 : decode cX10_size 10 = .ok (.ireturn, 1) := by decide +kernel
theorem dX10_mark_0 : decode cX10_mark 0 = .ok (.aload_n 1, 1) := by decide +kernel
theorem dX10_mark_1 : decode cX10_mark 1 = .ok (.bipush 20, 2) := by decide +kernel
theorem dX10_mark_3 : decode cX10_mark 3 = .ok (.invokevirtual 7, 3) := by decide +kernel
theorem dX10_mark_6 : decode cX10_mark 6 = .ok (.aload_n 1, 1) := by decide +kernel
theorem dX10_mark_7 : decode cX10_mark 7 = .ok (.getfield 17, 3) := by decide +kernel
theorem dX10_mark_10 : decode cX10_mark 10 = .ok (.ireturn, 1) := by decide +kernel
theorem dX11_init_0 : decode cX11_init 0 = .ok (.aload_n 0, 1) := by decide +kernel
theorem dX11_init_1 : decode cX11_init 1 = .ok (.invokespecial 1, 3) := by decide +kernel
theorem dX11_init_4 : decode cX11_init 4 = .ok (.aload_n 0, 1) := by decide +kernel
theorem dX11_init_5 : decode cX11_init 5 = .ok (.new 7, 3) := by decide +kernel
theorem dX11_init_8 : decode cX11_init 8 = .ok (.dup, 1) := by decide +kernel
theorem dX11_init_9 : decode cX11_init 9 = .ok (.invokespecial 9, 3) := by decide +kernel
theorem dX11_init_12 : decode cX11_init 12 = .ok (.putfield 10, 3) := by decide +kernel
theorem dX11_init_15 : decode cX11_init 15 = .ok (.aload_n 0, 1) := by decide +kernel
theorem dX11_init_16 : decode cX11_init 16 = .ok (.new 16, 3) := by decide +kernel
theorem dX11_init_19 : decode cX11_init 19 = .ok (.dup, 1) := by decide +kernel
theorem dX11_init_20 : decode cX11_init 20 = .ok (.invokespecial 18, 3) := by decide +kernel
theorem dX11_init_23 : decode cX11_init 23 = .ok (.putfield 19, 3) := by decide +kernel
theorem dX11_init_26 : decode cX11_init 26 = .ok (.aload_n 0, 1) := by decide +kernel
theorem dX11_init_27 : decode cX11_init 27 = .ok (.bipush 6, 2) := by decide +kernel
theorem dX11_init_29 : decode cX11_init 29 = .ok (.anewarray 23, 3) := by decide +kernel
theorem dX11_init_32 : decode cX11_init 32 = .ok (.putfield 25, 3) := by decide +kernel
theorem dX11_init_35 : decode cX11_init 35 = .ok (.aload_n 0, 1) := by decide +kernel
theorem dX11_init_36 : decode cX11_init 36 = .ok (.getfield 25, 3) := by decide +kernel
theorem dX11_init_39 : decode cX11_init 39 = .ok (.iconst 0, 1) := by decide +kernel
theorem dX11_init_40 : decode cX11_init 40 = .ok (.new 23, 3) := by decide +kernel
theorem dX11_init_43 : decode cX11_init 43 = .ok (.dup, 1) := by decide +kernel
theorem dX11_init_44 : decode cX11_init 44 = .ok (.invokespecial 29, 3) := by decide +kernel
theorem dX11_init_47 : decode cX11_init 47 = .ok (.aastore, 1) := by decide +kernel
theorem dX11_init_48 : decode cX11_init 48 = .ok (.aload_n 0, 1) := by decide +kernel
theorem dX11_init_49 : decode cX11_init 49 = .ok (.getfield 25, 3) := by decide +kernel
theorem dX11_init_52 : decode cX11_init 52 = .ok (.iconst 1, 1) := by decide +kernel
theorem dX11_init_53 : decode cX11_init 53 = .ok (.new 30, 3) := by decide +kernel
theorem dX11_init_56 : decode cX11_init 56 = .ok (.dup, 1) := by decide +kernel
theorem dX11_init_57 : decode cX11_init 57 = .ok (.invokespecial 32, 3) := by decide +kernel
theorem dX11_init_60 : decode cX11_init 60 = .ok (.aastore, 1) := by decide +kernel
theorem dX11_init_61 : decode cX11_init 61 = .ok (.aload_n 0, 1) := by decide +kernel
theorem dX11_init_62 : decode cX11_init 62 = .ok (.getfield 25, 3) := by decide +kernel
theorem dX11_init_65 : decode cX11_init 65 = .ok (.iconst 2, 1) := by decide +kernel
theorem dX11_init_66 : decode cX11_init 66 = .ok (.new 33, 3) := by decide +kernel
theorem dX11_init_69 : decode cX11_init 69 = .ok (.dup, 1) := by decide +kernel
theorem dX11_init_70 : decode cX11_init 70 = .ok (.invokespecial 35, 3) := by decide +kernel
theorem dX11_init_73 : decode cX11_init 73 = .ok (.aastore, 1) := by decide +kernel
theorem dX11_init_74 : decode cX11_init 74 = .ok (.aload_n 0, 1) := by decide +kernel
theorem dX11_init_75 : decode cX11_init 75 = .ok (.getfield 25, 3) := by decide +kernel
theorem dX11_init_78 : decode cX11_init 78 = .ok (.iconst 3, 1) := by decide +kernel
theorem dX11_init_79 : decode cX11_init 79 = .ok (.new 36, 3) := by decide +kernel
theorem dX11_init_82 : decode cX11_init 82 = .ok (.dup, 1) := by decide +kernel
theorem dX11_init_83 : decode cX11_init 83 = .ok (.invokespecial 38, 3) := by decide +kernel
theorem dX11_init_86 : decode cX11_init 86 = .ok (.aastore, 1) := by decide +kernel
theorem dX11_init_87 : decode cX11_init 87 = .ok (.aload_n 0, 1) := by decide +kernel
theorem dX11_init_88 : decode cX11_init 88 = .ok (.getfield 25, 3) := by decide +kernel
theorem dX11_init_91 : decode cX11_init 91 = .ok (.iconst 4, 1) := by decide +kernel
theorem dX11_init_92 : decode cX11_init 92 = .ok (.new 39, 3) := by decide +kernel
theorem dX11_init_95 : decode cX11_init 95 = .ok (.dup, 1) := by decide +kernel
theorem dX11_init_96 : decode cX11_init 96 = .ok (.invokespecial 41, 3) := by decide +kernel
theorem dX11_init_99 : decode cX11_init 99 = .ok (.aastore, 1) := by decide +kernel
theorem dX11_init_100 : decode cX11_init 100 = .ok (.aload_n 0, 1) := by decide +kernel
theorem dX11_init_101 : decode cX11_init 101 = .ok (.getfield 25, 3) := by decide +kernel
theorem dX11_init_104 : decode cX11_init 104 = .ok (.iconst 5, 1) := by decide +kernel
theorem dX11_init_105 : decode cX11_init 105 = .ok (.new 42, 3) := by decide +kernel
theorem dX11_init_108 : decode cX11_init 108 = .ok (.dup, 1) := by decide +kernel
theorem dX11_init_109 : decode cX11_init 109 = .ok (.invokespecial 44, 3) := by decide +kernel
theorem dX11_init_112 : decode cX11_init 112 = .ok (.aastore, 1) := by decide +kernel
theorem dX11_init_113 : decode cX11_init 113 = .ok (.aload_n 0, 1) := by decide +kernel
theorem dX11_init_114 : decode cX11_init 114 = .ok (.new 45, 3) := by decide +kernel
theorem dX11_init_117 : decode cX11_init 117 = .ok (.dup, 1) := by decide +kernel
theorem dX11_init_118 : decode cX11_init 118 = .ok (.aload_n 0, 1) := by decide +kernel
theorem dX11_init_119 : decode cX11_init 119 = .ok (.getfield 25, 3) := by decide +kernel
theorem dX11_init_122 : decode cX11_init 122 = .ok (.invokespecial 47, 3) := by decide +kernel
theorem dX11_init_125 : decode cX11_init 125 = .ok (.putfield 50, 3) := by decide +kernel
theorem dX11_init_128 : decode cX11_init 128 = .ok (.aload_n 0, 1) := by decide +kernel
theorem dX11_init_129 : decode cX11_init 129 = .ok (.new 45, 3) := by decide +kernel
theorem dX11_init_132 : decode cX11_init 132 = .ok (.dup, 1) := by decide +kernel
theorem dX11_init_133 : decode cX11_init 133 = .ok (.aload_n 0, 1) := by decide +kernel
theorem dX11_init_134 : decode cX11_init 134 = .ok (.getfield 25, 3) := by decide +kernel
theorem dX11_init_137 : decode cX11_init 137 = .ok (.invokespecial 47, 3) := by decide +kernel
theorem dX11_init_140 : decode cX11_init 140 = .ok (.putfield 54, 3) := by decide +kernel
theorem dX11_init_143 : decode cX11_init 143 = .ok (.aload_n 0, 1) := by decide +kernel
theorem dX11_init_144 : decode cX11_init 144 = .ok (.iconst 2, 1) := by decide +kernel
theorem dX11_init_145 : decode cX11_init 145 = .ok (.anewarray 45, 3) := by decide +kernel
theorem dX11_init_148 : decode cX11_init 148 = .ok (.putfield 57, 3) := by decide +kernel
theorem dX11_init_151 : decode cX11_init 151 = .ok (.iconst 0, 1) := by decide +kernel
theorem dX11_init_152 : decode cX11_init 152 = .ok (.istore_n 1, 1) := by decide +kernel
theorem dX11_init_153 : decode cX11_init 153 = .ok (.iload_n 1, 1) := by decide +kernel
theorem dX11_init_154 : decode cX11_init 154 = .ok (.iconst 2, 1) := by decide +kernel
theorem dX11_init_155 : decode cX11_init 155 = .ok (.if_icmp .ge 26, 3) := by decide +kernel
theorem dX11_init_158 : decode cX11_init 158 = .ok (.aload_n 0, 1) := by decide +kernel
theorem dX11_init_159 : decode cX11_init 159 = .ok (.getfield 57, 3) := by decide +kernel
theorem dX11_init_162 : decode cX11_init 162 = .ok (.iload_n 1, 1) := by decide +kernel
theorem dX11_init_163 : decode cX11_init 163 = .ok (.new 45, 3) := by decide +kernel
theorem dX11_init_166 : decode cX11_init 166 = .ok (.dup, 1) := by decide +kernel
theorem dX11_init_167 : decode cX11_init 167 = .ok (.aload_n 0, 1) := by decide +kernel
theorem dX11_init_168 : decode cX11_init 168 = .ok (.getfield 25, 3) := by decide +kernel
theorem dX11_init_171 : decode cX11_init 171 = .ok (.invokespecial 47, 3) := by decide +kernel
theorem dX11_init_174 : decode cX11_init 174 = .ok (.aastore, 1) := by decide +kernel
theorem dX11_init_175 : decode cX11_init 175 = .ok (.iinc 1 1, 3) := by decide +kernel
theorem dX11_init_178 : decode cX11_init 178 = .ok (.goto (-25), 3) := by decide +kernel
theorem dX11_init_181 : decode cX11_init 181 = .ok (.aload_n 0, 1) := by decide +kernel
theorem dX11_init_182 : decode cX11_init 182 = .ok (.bipush 24, 2) := by decide +kernel
theorem dX11_init_184 : decode cX11_init 184 = .ok (.bipush 14, 2) := by decide +kernel
theorem dX11_init_186 : decode cX11_init 186 = .ok (.multianewarray 61 2, 4) := by decide +kernel
theorem dX11_init_190 : decode cX11_init 190 = .ok (.putfield 63, 3) := by decide +kernel
theorem dX11_init_193 : decode cX11_init 193 = .ok (.aload_n 0, 1) := by decide +kernel
theorem dX11_init_194 : decode cX11_init 194 = .ok (.new 66, 3) := by decide +kernel
theorem dX11_init_197 : decode cX11_init 197 = .ok (.dup, 1) := by decide +kernel
theorem dX11_init_198 : decode cX11_init 198 = .ok (.invokespecial 68, 3) := by decide +kernel
theorem dX11_init_201 : decode cX11_init 201 = .ok (.putfield 69, 3) := by decide +kernel
theorem dX11_init_204 : decode cX11_init 204 = .ok (.aload_n 0, 1) := by decide +kernel
theorem dX11_init_205 : decode cX11_init 205 = .ok (.new 73, 3) := by decide +kernel
theorem dX11_init_208 : decode cX11_init 208 = .ok (.dup, 1) := by decide +kernel
theorem dX11_init_209 : decode cX11_init 209 = .ok (.invokespecial 75, 3) := by decide +kernel
theorem dX11_init_212 : decode cX11_init 212 = .ok (.putfield 76, 3) := by decide +kernel
theorem dX11_init_215 : decode cX11_init 215 = .ok (.aload_n 0, 1) := by decide +kernel
theorem dX11_init_216 : decode cX11_init 216 = .ok (.bipush 6, 2) := by decide +kernel
theorem dX11_init_218 : decode cX11_init 218 = .ok (.newarray .int, 2) := by decide +kernel
theorem dX11_init_220 : decode cX11_init 220 = .ok (.putfield 80, 3) := by decide +kernel
theorem dX11_init_223 : decode cX11_init 223 = .ok (.return_, 1) := by decide +kernel
theorem dX11_row_0 : decode cX11_row 0 = .ok (.iload_n 1, 1) := by decide +kernel
theorem dX11_row_1 : decode cX11_row 1 = .ok (.invokestatic 84, 3) := by decide +kernel
theorem dX11_row_4 : decode cX11_row 4 = .ok (.ifCond .eq 18, 3) := by decide +kernel
theorem dX11_row_7 : decode cX11_row 7 = .ok (.iload_n 2, 1) := by decide +kernel
theorem dX11_row_8 : decode cX11_row 8 = .ok (.ifCond .lt 14, 3) := by decide +kernel
theorem dX11_row_11 : decode cX11_row 11 = .ok (.iload_n 2, 1) := by decide +kernel
theorem dX11_row_12 : decode cX11_row 12 = .ok (.iconst 2, 1) := by decide +kernel
theorem dX11_row_13 : decode cX11_row 13 = .ok (.if_icmp .gt 9, 3) := by decide +kernel
theorem dX11_row_16 : decode cX11_row 16 = .ok (.iload_n 3, 1) := by decide +kernel
theorem dX11_row_17 : decode cX11_row 17 = .ok (.bipush 40, 2) := by decide +kernel
theorem dX11_row_19 : decode cX11_row 19 = .ok (.if_icmp .le 6, 3) := by decide +kernel
theorem dX11_row_22 : decode cX11_row 22 = .ok (.ldc 88, 2) := by decide +kernel
theorem dX11_row_24 : decode cX11_row 24 = .ok (.ireturn, 1) := by decide +kernel
theorem dX11_row_25 : decode cX11_row 25 = .ok (.iload_n 3, 1) := by decide +kernel
theorem dX11_row_26 : decode cX11_row 26 = .ok (.ifCond .ge 9, 3) := by decide +kernel
theorem dX11_row_29 : decode cX11_row 29 = .ok (.aload_n 0, 1) := by decide +kernel
theorem dX11_row_30 : decode cX11_row 30 = .ok (.iconst 4, 1) := by decide +kernel
theorem dX11_row_31 : decode cX11_row 31 = .ok (.invokevirtual 89, 3) := by decide +kernel
theorem dX11_row_34 : decode cX11_row 34 = .ok (.ireturn, 1) := by decide +kernel
theorem dX11_row_35 : decode cX11_row 35 = .ok (.aload_n 0, 1) := by decide +kernel
theorem dX11_row_36 : decode cX11_row 36 = .ok (.getfield 10, 3) := by decide +kernel
theorem dX11_row_39 : decode cX11_row 39 = .ok (.iload_n 1, 1) := by decide +kernel
theorem dX11_row_40 : decode cX11_row 40 = .ok (.iload_n 2, 1) := by decide +kernel
theorem dX11_row_41 : decode cX11_row 41 = .ok (.iload_n 3, 1) := by decide +kernel
theorem dX11_row_42 : decode cX11_row 42 = .ok (.invokevirtual 93, 3) := by decide +kernel
theorem dX11_row_45 : decode cX11_row 45 = .ok (.aload_n 0, 1) := by decide +kernel
theorem dX11_row_46 : decode cX11_row 46 = .ok (.iload_n 3, 1) := by decide +kernel
theorem dX11_row_47 : decode cX11_row 47 = .ok (.invokevirtual 97, 3) := by decide +kernel
theorem dX11_row_50 : decode cX11_row 50 = .ok (.ireturn, 1) := by decide +kernel
theorem dX11_set_0 : decode cX11_set 0 = .ok (.iload_n 1, 1) := by decide +kernel
theorem dX11_set_1 : decode cX11_set 1 = .ok (.invokestatic 84, 3) := by decide +kernel
theorem dX11_set_4 : decode cX11_set 4 = .ok (.ifCond .ne 6, 3) := by decide +kernel
theorem dX11_set_7 : decode cX11_set 7 = .ok (.ldc 88, 2) := by decide +kernel
theorem dX11_set_9 : decode cX11_set 9 = .ok (.ireturn, 1) := by decide +kernel
theorem dX11_set_10 : decode cX11_set 10 = .ok (.aload_n 0, 1) := by decide +kernel
theorem dX11_set_11 : decode cX11_set 11 = .ok (.getfield 10, 3) := by decide +kernel
theorem dX11_set_14 : decode cX11_set 14 = .ok (.iload_n 1, 1) := by decide +kernel
theorem dX11_set_15 : decode cX11_set 15 = .ok (.iload_n 2, 1) := by decide +kernel
theorem dX11_set_16 : decode cX11_set 16 = .ok (.iconst 1, 1) := by decide +kernel
theorem dX11_set_17 : decode cX11_set 17 = .ok (.invokevirtual 100, 3) := by decide +kernel
theorem dX11_set_20 : decode cX11_set 20 = .ok (.istore 4, 2) := by decide +kernel
theorem dX11_set_22 : decode cX11_set 22 = .ok (.iload 4, 2) := by decide +kernel
theorem dX11_set_24 : decode cX11_set 24 = .ok (.ifCond .eq 10, 3) := by decide +kernel
theorem dX11_set_27 : decode cX11_set 27 = .ok (.aload_n 0, 1) := by decide +kernel
theorem dX11_set_28 : decode cX11_set 28 = .ok (.iload 4, 2) := by decide +kernel
theorem dX11_set_30 : decode cX11_set 30 = .ok (.invokevirtual 89, 3) := by decide +kernel
theorem dX11_set_33 : decode cX11_set 33 = .ok (.ireturn, 1) := by decide +kernel
theorem dX11_set_34 : decode cX11_set 34 = .ok (.aload_n 0, 1) := by decide +kernel
theorem dX11_set_35 : decode cX11_set 35 = .ok (.aload_n 0, 1) := by decide +kernel
theorem dX11_set_36 : decode cX11_set 36 = .ok (.getfield 10, 3) := by decide +kernel
theorem dX11_set_39 : decode cX11_set 39 = .ok (.iload_n 1, 1) := by decide +kernel
theorem dX11_set_40 : decode cX11_set 40 = .ok (.iload_n 2, 1) := by decide +kernel
theorem dX11_set_41 : decode cX11_set 41 = .ok (.iload_n 3, 1) := by decide +kernel
theorem dX11_set_42 : decode cX11_set 42 = .ok (.invokevirtual 104, 3) := by decide +kernel
theorem dX11_set_45 : decode cX11_set 45 = .ok (.invokevirtual 97, 3) := by decide +kernel
theorem dX11_set_48 : decode cX11_set 48 = .ok (.ireturn, 1) := by decide +kernel
theorem dX11_copy_0 : decode cX11_copy 0 = .ok (.iload_n 1, 1) := by decide +kernel
theorem dX11_copy_1 : decode cX11_copy 1 = .ok (.invokestatic 84, 3) := by decide +kernel
theorem dX11_copy_4 : decode cX11_copy 4 = .ok (.ifCond .eq 10, 3) := by decide +kernel
theorem dX11_copy_7 : decode cX11_copy 7 = .ok (.iload_n 3, 1) := by decide +kernel
theorem dX11_copy_8 : decode cX11_copy 8 = .ok (.invokestatic 84, 3) := by decide +kernel
theorem dX11_copy_11 : decode cX11_copy 11 = .ok (.ifCond .ne 6, 3) := by decide +kernel
theorem dX11_copy_14 : decode cX11_copy 14 = .ok (.ldc 88, 2) := by decide +kernel
theorem dX11_copy_16 : decode cX11_copy 16 = .ok (.ireturn, 1) := by decide +kernel
theorem dX11_copy_17 : decode cX11_copy 17 = .ok (.aload_n 0, 1) := by decide +kernel
theorem dX11_copy_18 : decode cX11_copy 18 = .ok (.getfield 10, 3) := by decide +kernel
theorem dX11_copy_21 : decode cX11_copy 21 = .ok (.iload_n 1, 1) := by decide +kernel
theorem dX11_copy_22 : decode cX11_copy 22 = .ok (.invokevirtual 107, 3) := by decide +kernel
theorem dX11_copy_25 : decode cX11_copy 25 = .ok (.ifCond .ne 14, 3) := by decide +kernel
theorem dX11_copy_28 : decode cX11_copy 28 = .ok (.aload_n 0, 1) := by decide +kernel
theorem dX11_copy_29 : decode cX11_copy 29 = .ok (.getfield 10, 3) := by decide +kernel
theorem dX11_copy_32 : decode cX11_copy 32 = .ok (.iload_n 3, 1) := by decide +kernel
theorem dX11_copy_33 : decode cX11_copy 33 = .ok (.invokevirtual 107, 3) := by decide +kernel
theorem dX11_copy_36 : decode cX11_copy 36 = .ok (.ifCond .eq 9, 3) := by decide +kernel
theorem dX11_copy_39 : decode cX11_copy 39 = .ok (.aload_n 0, 1) := by decide +kernel
theorem dX11_copy_40 : decode cX11_copy 40 = .ok (.iconst 1, 1) := by decide +kernel
theorem dX11_copy_41 : decode cX11_copy 41 = .ok (.invokevirtual 89, 3) := by decide +kernel
theorem dX11_copy_44 : decode cX11_copy 44 = .ok (.ireturn, 1) := by decide +kernel
theorem dX11_copy_45 : decode cX11_copy 45 = .ok (.aload_n 0, 1) := by decide +kernel
theorem dX11_copy_46 : decode cX11_copy 46 = .ok (.getfield 10, 3) := by decide +kernel
theorem dX11_copy_49 : decode cX11_copy 49 = .ok (.getfield 110, 3) := by decide +kernel
theorem dX11_copy_52 : decode cX11_copy 52 = .ok (.iload_n 1, 1) := by decide +kernel
theorem dX11_copy_53 : decode cX11_copy 53 = .ok (.iaload, 1) := by decide +kernel
theorem dX11_copy_54 : decode cX11_copy 54 = .ok (.aload_n 0, 1) := by decide +kernel
theorem dX11_copy_55 : decode cX11_copy 55 = .ok (.getfield 10, 3) := by decide +kernel
end
section
theorem dX11_copy_58 : decode cX11_copy 58 = .ok (.getfield 110, 3) := by decide +kernel
theorem dX11_copy_61 : decode cX11_copy 61 = .ok (.iload_n 3, 1) := by decide +kernel
theorem dX11_copy_62 : decode cX11_copy 62 = .ok (.iaload, 1) := by decide +kernel
theorem dX11_copy_63 : decode cX11_copy 63 = .ok (.if_icmp .eq 9, 3) := by decide +kernel
theorem dX11_copy_66 : decode cX11_copy 66 = .ok (.aload_n 0, 1) := by decide +kernel
theorem dX11_copy_67 : decode cX11_copy 67 = .ok (.iconst 5, 1) := by decide +kernel
theorem dX11_copy_68 : decode cX11_copy 68 = .ok (.invokevirtual 89, 3) := by decide +kernel
theorem dX11_copy_71 : decode cX11_copy 71 = .ok (.ireturn, 1) := by decide +kernel
theorem dX11_copy_72 : decode cX11_copy 72 = .ok (.aload_n 0, 1) := by decide +kernel
theorem dX11_copy_73 : decode cX11_copy 73 = .ok (.getfield 10, 3) := by decide +kernel
theorem dX11_copy_76 : decode cX11_copy 76 = .ok (.iload_n 1, 1) := by decide +kernel
theorem dX11_copy_77 : decode cX11_copy 77 = .ok (.iload_n 2, 1) := by decide +kernel
theorem dX11_copy_78 : decode cX11_copy 78 = .ok (.iload 5, 2) := by decide +kernel
theorem dX11_copy_80 : decode cX11_copy 80 = .ok (.invokevirtual 113, 3) := by decide +kernel
theorem dX11_copy_83 : decode cX11_copy 83 = .ok (.ifCond .eq 18, 3) := by decide +kernel
theorem dX11_copy_86 : decode cX11_copy 86 = .ok (.aload_n 0, 1) := by decide +kernel
theorem dX11_copy_87 : decode cX11_copy 87 = .ok (.getfield 10, 3) := by decide +kernel
theorem dX11_copy_90 : decode cX11_copy 90 = .ok (.iload_n 3, 1) := by decide +kernel
theorem dX11_copy_91 : decode cX11_copy 91 = .ok (.iload 4, 2) := by decide +kernel
theorem dX11_copy_93 : decode cX11_copy 93 = .ok (.iload 5, 2) := by decide +kernel
theorem dX11_copy_95 : decode cX11_copy 95 = .ok (.invokevirtual 113, 3) := by decide +kernel
theorem dX11_copy_98 : decode cX11_copy 98 = .ok (.ifCond .ne 9, 3) := by decide +kernel
theorem dX11_copy_101 : decode cX11_copy 101 = .ok (.aload_n 0, 1) := by decide +kernel
theorem dX11_copy_102 : decode cX11_copy 102 = .ok (.iconst 2, 1) := by decide +kernel
theorem dX11_copy_103 : decode cX11_copy 103 = .ok (.invokevirtual 89, 3) := by decide +kernel
theorem dX11_copy_106 : decode cX11_copy 106 = .ok (.ireturn, 1) := by decide +kernel
theorem dX11_copy_107 : decode cX11_copy 107 = .ok (.aload_n 0, 1) := by decide +kernel
theorem dX11_copy_108 : decode cX11_copy 108 = .ok (.getfield 10, 3) := by decide +kernel
theorem dX11_copy_111 : decode cX11_copy 111 = .ok (.getfield 117, 3) := by decide +kernel
theorem dX11_copy_114 : decode cX11_copy 114 = .ok (.iload_n 1, 1) := by decide +kernel
theorem dX11_copy_115 : decode cX11_copy 115 = .ok (.aaload, 1) := by decide +kernel
theorem dX11_copy_116 : decode cX11_copy 116 = .ok (.iload_n 2, 1) := by decide +kernel
theorem dX11_copy_117 : decode cX11_copy 117 = .ok (.aload_n 0, 1) := by decide +kernel
theorem dX11_copy_118 : decode cX11_copy 118 = .ok (.getfield 10, 3) := by decide +kernel
theorem dX11_copy_121 : decode cX11_copy 121 = .ok (.getfield 117, 3) := by decide +kernel
theorem dX11_copy_124 : decode cX11_copy 124 = .ok (.iload_n 3, 1) := by decide +kernel
theorem dX11_copy_125 : decode cX11_copy 125 = .ok (.aaload, 1) := by decide +kernel
theorem dX11_copy_126 : decode cX11_copy 126 = .ok (.iload 4, 2) := by decide +kernel
theorem dX11_copy_128 : decode cX11_copy 128 = .ok (.iload 5, 2) := by decide +kernel
theorem dX11_copy_130 : decode cX11_copy 130 = .ok (.invokestatic 120, 3) := by decide +kernel
theorem dX11_copy_133 : decode cX11_copy 133 = .ok (.aload_n 0, 1) := by decide +kernel
theorem dX11_copy_134 : decode cX11_copy 134 = .ok (.iload 5, 2) := by decide +kernel
theorem dX11_copy_136 : decode cX11_copy 136 = .ok (.invokevirtual 97, 3) := by decide +kernel
theorem dX11_copy_139 : decode cX11_copy 139 = .ok (.ireturn, 1) := by decide +kernel
theorem dX11_drop_0 : decode cX11_drop 0 = .ok (.iload_n 1, 1) := by decide +kernel
theorem dX11_drop_1 : decode cX11_drop 1 = .ok (.invokestatic 84, 3) := by decide +kernel
theorem dX11_drop_4 : decode cX11_drop 4 = .ok (.ifCond .ne 6, 3) := by decide +kernel
theorem dX11_drop_7 : decode cX11_drop 7 = .ok (.ldc 88, 2) := by decide +kernel
theorem dX11_drop_9 : decode cX11_drop 9 = .ok (.ireturn, 1) := by decide +kernel
theorem dX11_drop_10 : decode cX11_drop 10 = .ok (.aload_n 0, 1) := by decide +kernel
theorem dX11_drop_11 : decode cX11_drop 11 = .ok (.getfield 10, 3) := by decide +kernel
theorem dX11_drop_14 : decode cX11_drop 14 = .ok (.iload_n 1, 1) := by decide +kernel
theorem dX11_drop_15 : decode cX11_drop 15 = .ok (.invokevirtual 107, 3) := by decide +kernel
theorem dX11_drop_18 : decode cX11_drop 18 = .ok (.ifCond .eq 9, 3) := by decide +kernel
theorem dX11_drop_21 : decode cX11_drop 21 = .ok (.aload_n 0, 1) := by decide +kernel
theorem dX11_drop_22 : decode cX11_drop 22 = .ok (.iconst 1, 1) := by decide +kernel
theorem dX11_drop_23 : decode cX11_drop 23 = .ok (.invokevirtual 89, 3) := by decide +kernel
theorem dX11_drop_26 : decode cX11_drop 26 = .ok (.ireturn, 1) := by decide +kernel
theorem dX11_drop_27 : decode cX11_drop 27 = .ok (.aload_n 0, 1) := by decide +kernel
theorem dX11_drop_28 : decode cX11_drop 28 = .ok (.getfield 10, 3) := by decide +kernel
theorem dX11_drop_31 : decode cX11_drop 31 = .ok (.getfield 126, 3) := by decide +kernel
theorem dX11_drop_34 : decode cX11_drop 34 = .ok (.iload_n 1, 1) := by decide +kernel
theorem dX11_drop_35 : decode cX11_drop 35 = .ok (.iaload, 1) := by decide +kernel
theorem dX11_drop_36 : decode cX11_drop 36 = .ok (.istore_n 2, 1) := by decide +kernel
theorem dX11_drop_37 : decode cX11_drop 37 = .ok (.aload_n 0, 1) := by decide +kernel
theorem dX11_drop_38 : decode cX11_drop 38 = .ok (.getfield 10, 3) := by decide +kernel
theorem dX11_drop_41 : decode cX11_drop 41 = .ok (.getfield 126, 3) := by decide +kernel
theorem dX11_drop_44 : decode cX11_drop 44 = .ok (.iload_n 1, 1) := by decide +kernel
theorem dX11_drop_45 : decode cX11_drop 45 = .ok (.iconst (-1), 1) := by decide +kernel
theorem dX11_drop_46 : decode cX11_drop 46 = .ok (.iastore, 1) := by decide +kernel
theorem dX11_drop_47 : decode cX11_drop 47 = .ok (.aload_n 0, 1) := by decide +kernel
theorem dX11_drop_48 : decode cX11_drop 48 = .ok (.iload_n 2, 1) := by decide +kernel
theorem dX11_drop_49 : decode cX11_drop 49 = .ok (.invokevirtual 97, 3) := by decide +kernel
theorem dX11_drop_52 : decode cX11_drop 52 = .ok (.ireturn, 1) := by decide +kernel
theorem dX11_feed_0 : decode cX11_feed 0 = .ok (.iload_n 1, 1) := by decide +kernel
theorem dX11_feed_1 : decode cX11_feed 1 = .ok (.ifCond .lt 10, 3) := by decide +kernel
theorem dX11_feed_4 : decode cX11_feed 4 = .ok (.iload_n 1, 1) := by decide +kernel
theorem dX11_feed_5 : decode cX11_feed 5 = .ok (.sipush 255, 3) := by decide +kernel
theorem dX11_feed_8 : decode cX11_feed 8 = .ok (.if_icmp .le 6, 3) := by decide +kernel
theorem dX11_feed_11 : decode cX11_feed 11 = .ok (.ldc 88, 2) := by decide +kernel
theorem dX11_feed_13 : decode cX11_feed 13 = .ok (.ireturn, 1) := by decide +kernel
theorem dX11_feed_14 : decode cX11_feed 14 = .ok (.aload_n 0, 1) := by decide +kernel
theorem dX11_feed_15 : decode cX11_feed 15 = .ok (.getfield 19, 3) := by decide +kernel
theorem dX11_feed_18 : decode cX11_feed 18 = .ok (.getfield 129, 3) := by decide +kernel
theorem dX11_feed_21 : decode cX11_feed 21 = .ok (.sipush 140, 3) := by decide +kernel
theorem dX11_feed_24 : decode cX11_feed 24 = .ok (.if_icmp .lt 6, 3) := by decide +kernel
theorem dX11_feed_27 : decode cX11_feed 27 = .ok (.ldc 133, 2) := by decide +kernel
theorem dX11_feed_29 : decode cX11_feed 29 = .ok (.ireturn, 1) := by decide +kernel
theorem dX11_feed_30 : decode cX11_feed 30 = .ok (.aload_n 0, 1) := by decide +kernel
theorem dX11_feed_31 : decode cX11_feed 31 = .ok (.getfield 19, 3) := by decide +kernel
theorem dX11_feed_34 : decode cX11_feed 34 = .ok (.iload_n 1, 1) := by decide +kernel
theorem dX11_feed_35 : decode cX11_feed 35 = .ok (.invokevirtual 134, 3) := by decide +kernel
theorem dX11_feed_38 : decode cX11_feed 38 = .ok (.aload_n 0, 1) := by decide +kernel
theorem dX11_feed_39 : decode cX11_feed 39 = .ok (.getfield 19, 3) := by decide +kernel
theorem dX11_feed_42 : decode cX11_feed 42 = .ok (.getfield 129, 3) := by decide +kernel
theorem dX11_feed_45 : decode cX11_feed 45 = .ok (.ireturn, 1) := by decide +kernel
theorem dX11_parish_0 : decode cX11_parish 0 = .ok (.aload_n 0, 1) := by decide +kernel
theorem dX11_parish_1 : decode cX11_parish 1 = .ok (.getfield 19, 3) := by decide +kernel
theorem dX11_parish_4 : decode cX11_parish 4 = .ok (.aload_n 0, 1) := by decide +kernel
theorem dX11_parish_5 : decode cX11_parish 5 = .ok (.getfield 54, 3) := by decide +kernel
theorem dX11_parish_8 : decode cX11_parish 8 = .ok (.invokevirtual 138, 3) := by decide +kernel
theorem dX11_parish_11 : decode cX11_parish 11 = .ok (.istore_n 1, 1) := by decide +kernel
theorem dX11_parish_12 : decode cX11_parish 12 = .ok (.aload_n 0, 1) := by decide +kernel
theorem dX11_parish_13 : decode cX11_parish 13 = .ok (.getfield 19, 3) := by decide +kernel
theorem dX11_parish_16 : decode cX11_parish 16 = .ok (.iconst 0, 1) := by decide +kernel
theorem dX11_parish_17 : decode cX11_parish 17 = .ok (.putfield 129, 3) := by decide +kernel
theorem dX11_parish_20 : decode cX11_parish 20 = .ok (.iload_n 1, 1) := by decide +kernel
theorem dX11_parish_21 : decode cX11_parish 21 = .ok (.ifCond .ne 14, 3) := by decide +kernel
theorem dX11_parish_24 : decode cX11_parish 24 = .ok (.ldc 142, 2) := by decide +kernel
theorem dX11_parish_26 : decode cX11_parish 26 = .ok (.aload_n 0, 1) := by decide +kernel
theorem dX11_parish_27 : decode cX11_parish 27 = .ok (.getfield 19, 3) := by decide +kernel
theorem dX11_parish_30 : decode cX11_parish 30 = .ok (.getfield 143, 3) := by decide +kernel
theorem dX11_parish_33 : decode cX11_parish 33 = .ok (.isub, 1) := by decide +kernel
theorem dX11_parish_34 : decode cX11_parish 34 = .ok (.ireturn, 1) := by decide +kernel
theorem dX11_parish_35 : decode cX11_parish 35 = .ok (.aload_n 0, 1) := by decide +kernel
theorem dX11_parish_36 : decode cX11_parish 36 = .ok (.getfield 50, 3) := by decide +kernel
theorem dX11_parish_39 : decode cX11_parish 39 = .ok (.aload_n 0, 1) := by decide +kernel
theorem dX11_parish_40 : decode cX11_parish 40 = .ok (.getfield 54, 3) := by decide +kernel
theorem dX11_parish_43 : decode cX11_parish 43 = .ok (.invokevirtual 146, 3) := by decide +kernel
theorem dX11_parish_46 : decode cX11_parish 46 = .ok (.aload_n 0, 1) := by decide +kernel
theorem dX11_parish_47 : decode cX11_parish 47 = .ok (.invokevirtual 150, 3) := by decide +kernel
theorem dX11_parish_50 : decode cX11_parish 50 = .ok (.aload_n 0, 1) := by decide +kernel
theorem dX11_parish_51 : decode cX11_parish 51 = .ok (.getfield 50, 3) := by decide +kernel
theorem dX11_parish_54 : decode cX11_parish 54 = .ok (.getfield 153, 3) := by decide +kernel
theorem dX11_parish_57 : decode cX11_parish 57 = .ok (.ireturn, 1) := by decide +kernel
theorem dX11_fault_0 : decode cX11_fault 0 = .ok (.aload_n 0, 1) := by decide +kernel
theorem dX11_fault_1 : decode cX11_fault 1 = .ok (.getfield 19, 3) := by decide +kernel
theorem dX11_fault_4 : decode cX11_fault 4 = .ok (.getfield 156, 3) := by decide +kernel
theorem dX11_fault_7 : decode cX11_fault 7 = .ok (.ireturn, 1) := by decide +kernel
theorem dX11_undo_0 : decode cX11_undo 0 = .ok (.aload_n 0, 1) := by decide +kernel
theorem dX11_undo_1 : decode cX11_undo 1 = .ok (.getfield 159, 3) := by decide +kernel
theorem dX11_undo_4 : decode cX11_undo 4 = .ok (.ifCond .ne 6, 3) := by decide +kernel
theorem dX11_undo_7 : decode cX11_undo 7 = .ok (.ldc 162, 2) := by decide +kernel
theorem dX11_undo_9 : decode cX11_undo 9 = .ok (.ireturn, 1) := by decide +kernel
theorem dX11_undo_10 : decode cX11_undo 10 = .ok (.aload_n 0, 1) := by decide +kernel
theorem dX11_undo_11 : decode cX11_undo 11 = .ok (.aload_n 0, 1) := by decide +kernel
theorem dX11_undo_12 : decode cX11_undo 12 = .ok (.getfield 163, 3) := by decide +kernel
theorem dX11_undo_15 : decode cX11_undo 15 = .ok (.bipush 24, 2) := by decide +kernel
theorem dX11_undo_17 : decode cX11_undo 17 = .ok (.iadd, 1) := by decide +kernel
theorem dX11_undo_18 : decode cX11_undo 18 = .ok (.iconst 1, 1) := by decide +kernel
theorem dX11_undo_19 : decode cX11_undo 19 = .ok (.isub, 1) := by decide +kernel
theorem dX11_undo_20 : decode cX11_undo 20 = .ok (.bipush 24, 2) := by decide +kernel
theorem dX11_undo_22 : decode cX11_undo 22 = .ok (.irem, 1) := by decide +kernel
theorem dX11_undo_23 : decode cX11_undo 23 = .ok (.putfield 163, 3) := by decide +kernel
theorem dX11_undo_26 : decode cX11_undo 26 = .ok (.aload_n 0, 1) := by decide +kernel
theorem dX11_undo_27 : decode cX11_undo 27 = .ok (.dup, 1) := by decide +kernel
theorem dX11_undo_28 : decode cX11_undo 28 = .ok (.getfield 159, 3) := by decide +kernel
theorem dX11_undo_31 : decode cX11_undo 31 = .ok (.iconst 1, 1) := by decide +kernel
theorem dX11_undo_32 : decode cX11_undo 32 = .ok (.isub, 1) := by decide +kernel
theorem dX11_undo_33 : decode cX11_undo 33 = .ok (.putfield 159, 3) := by decide +kernel
theorem dX11_undo_36 : decode cX11_undo 36 = .ok (.aload_n 0, 1) := by decide +kernel
theorem dX11_undo_37 : decode cX11_undo 37 = .ok (.getfield 50, 3) := by decide +kernel
theorem dX11_undo_40 : decode cX11_undo 40 = .ok (.aload_n 0, 1) := by decide +kernel
theorem dX11_undo_41 : decode cX11_undo 41 = .ok (.getfield 63, 3) := by decide +kernel
theorem dX11_undo_44 : decode cX11_undo 44 = .ok (.aload_n 0, 1) := by decide +kernel
theorem dX11_undo_45 : decode cX11_undo 45 = .ok (.getfield 163, 3) := by decide +kernel
theorem dX11_undo_48 : decode cX11_undo 48 = .ok (.aaload, 1) := by decide +kernel
theorem dX11_undo_49 : decode cX11_undo 49 = .ok (.invokevirtual 166, 3) := by decide +kernel
theorem dX11_undo_52 : decode cX11_undo 52 = .ok (.aload_n 0, 1) := by decide +kernel
theorem dX11_undo_53 : decode cX11_undo 53 = .ok (.getfield 159, 3) := by decide +kernel
theorem dX11_undo_56 : decode cX11_undo 56 = .ok (.ireturn, 1) := by decide +kernel
theorem dX11_bury_0 : decode cX11_bury 0 = .ok (.aload_n 0, 1) := by decide +kernel
theorem dX11_bury_1 : decode cX11_bury 1 = .ok (.getfield 50, 3) := by decide +kernel
theorem dX11_bury_4 : decode cX11_bury 4 = .ok (.getfield 170, 3) := by decide +kernel
theorem dX11_bury_7 : decode cX11_bury 7 = .ok (.ifCond .ne 6, 3) := by decide +kernel
theorem dX11_bury_10 : decode cX11_bury 10 = .ok (.ldc 162, 2) := by decide +kernel
theorem dX11_bury_12 : decode cX11_bury 12 = .ok (.ireturn, 1) := by decide +kernel
theorem dX11_bury_13 : decode cX11_bury 13 = .ok (.iload_n 1, 1) := by decide +kernel
theorem dX11_bury_14 : decode cX11_bury 14 = .ok (.invokestatic 174, 3) := by decide +kernel
theorem dX11_bury_17 : decode cX11_bury 17 = .ok (.ifCond .ne 6, 3) := by decide +kernel
theorem dX11_bury_20 : decode cX11_bury 20 = .ok (.ldc 88, 2) := by decide +kernel
theorem dX11_bury_22 : decode cX11_bury 22 = .ok (.ireturn, 1) := by decide +kernel
theorem dX11_bury_23 : decode cX11_bury 23 = .ok (.aload_n 0, 1) := by decide +kernel
theorem dX11_bury_24 : decode cX11_bury 24 = .ok (.getfield 69, 3) := by decide +kernel
theorem dX11_bury_27 : decode cX11_bury 27 = .ok (.aload_n 0, 1) := by decide +kernel
theorem dX11_bury_28 : decode cX11_bury 28 = .ok (.getfield 50, 3) := by decide +kernel
theorem dX11_bury_31 : decode cX11_bury 31 = .ok (.iload_n 1, 1) := by decide +kernel
theorem dX11_bury_32 : decode cX11_bury 32 = .ok (.invokevirtual 177, 3) := by decide +kernel
theorem dX11_bury_35 : decode cX11_bury 35 = .ok (.ifCond .ne 6, 3) := by decide +kernel
theorem dX11_bury_38 : decode cX11_bury 38 = .ok (.ldc 162, 2) := by decide +kernel
theorem dX11_bury_40 : decode cX11_bury 40 = .ok (.ireturn, 1) := by decide +kernel
theorem dX11_bury_41 : decode cX11_bury 41 = .ok (.aload_n 0, 1) := by decide +kernel
theorem dX11_bury_42 : decode cX11_bury 42 = .ok (.invokevirtual 181, 3) := by decide +kernel
theorem dX11_bury_45 : decode cX11_bury 45 = .ok (.aload_n 0, 1) := by decide +kernel
theorem dX11_bury_46 : decode cX11_bury 46 = .ok (.getfield 50, 3) := by decide +kernel
theorem dX11_bury_49 : decode cX11_bury 49 = .ok (.aload_n 0, 1) := by decide +kernel
theorem dX11_bury_50 : decode cX11_bury 50 = .ok (.getfield 69, 3) := by decide +kernel
theorem dX11_bury_53 : decode cX11_bury 53 = .ok (.invokevirtual 184, 3) := by decide +kernel
theorem dX11_bury_56 : decode cX11_bury 56 = .ok (.aload_n 0, 1) := by decide +kernel
theorem dX11_bury_57 : decode cX11_bury 57 = .ok (.getfield 50, 3) := by decide +kernel
theorem dX11_bury_60 : decode cX11_bury 60 = .ok (.invokevirtual 188, 3) := by decide +kernel
theorem dX11_bury_63 : decode cX11_bury 63 = .ok (.ireturn, 1) := by decide +kernel
theorem dX11_years_0 : decode cX11_years 0 = .ok (.aload_n 0, 1) := by decide +kernel
theorem dX11_years_1 : decode cX11_years 1 = .ok (.getfield 50, 3) := by decide +kernel
theorem dX11_years_4 : decode cX11_years 4 = .ok (.getfield 170, 3) := by decide +kernel
theorem dX11_years_7 : decode cX11_years 7 = .ok (.ifCond .ne 6, 3) := by decide +kernel
theorem dX11_years_10 : decode cX11_years 10 = .ok (.ldc 162, 2) := by decide +kernel
theorem dX11_years_12 : decode cX11_years 12 = .ok (.ireturn, 1) := by decide +kernel
theorem dX11_years_13 : decode cX11_years 13 = .ok (.iload_n 1, 1) := by decide +kernel
theorem dX11_years_14 : decode cX11_years 14 = .ok (.iconst 1, 1) := by decide +kernel
theorem dX11_years_15 : decode cX11_years 15 = .ok (.if_icmp .lt 9, 3) := by decide +kernel
theorem dX11_years_18 : decode cX11_years 18 = .ok (.iload_n 1, 1) := by decide +kernel
theorem dX11_years_19 : decode cX11_years 19 = .ok (.bipush 24, 2) := by decide +kernel
theorem dX11_years_21 : decode cX11_years 21 = .ok (.if_icmp .le 6, 3) := by decide +kernel
theorem dX11_years_24 : decode cX11_years 24 = .ok (.ldc 88, 2) := by decide +kernel
theorem dX11_years_26 : decode cX11_years 26 = .ok (.ireturn, 1) := by decide +kernel
theorem dX11_years_27 : decode cX11_years 27 = .ok (.aload_n 0, 1) := by decide +kernel
theorem dX11_years_28 : decode cX11_years 28 = .ok (.getfield 50, 3) := by decide +kernel
theorem dX11_years_31 : decode cX11_years 31 = .ok (.getfield 192, 3) := by decide +kernel
theorem dX11_years_34 : decode cX11_years 34 = .ok (.iload_n 1, 1) := by decide +kernel
theorem dX11_years_35 : decode cX11_years 35 = .ok (.iadd, 1) := by decide +kernel
theorem dX11_years_36 : decode cX11_years 36 = .ok (.sipush 999, 3) := by decide +kernel
theorem dX11_years_39 : decode cX11_years 39 = .ok (.if_icmp .le 6, 3) := by decide +kernel
theorem dX11_years_42 : decode cX11_years 42 = .ok (.ldc 133, 2) := by decide +kernel
theorem dX11_years_44 : decode cX11_years 44 = .ok (.ireturn, 1) := by decide +kernel
theorem dX11_years_45 : decode cX11_years 45 = .ok (.iconst 0, 1) := by decide +kernel
theorem dX11_years_46 : decode cX11_years 46 = .ok (.istore_n 2, 1) := by decide +kernel
theorem dX11_years_47 : decode cX11_years 47 = .ok (.iload_n 2, 1) := by decide +kernel
theorem dX11_years_48 : decode cX11_years 48 = .ok (.iload_n 1, 1) := by decide +kernel
theorem dX11_years_49 : decode cX11_years 49 = .ok (.if_icmp .ge 20, 3) := by decide +kernel
theorem dX11_years_52 : decode cX11_years 52 = .ok (.aload_n 0, 1) := by decide +kernel
theorem dX11_years_53 : decode cX11_years 53 = .ok (.invokevirtual 181, 3) := by decide +kernel
theorem dX11_years_56 : decode cX11_years 56 = .ok (.aload_n 0, 1) := by decide +kernel
theorem dX11_years_57 : decode cX11_years 57 = .ok (.getfield 50, 3) := by decide +kernel
theorem dX11_years_60 : decode cX11_years 60 = .ok (.invokevirtual 195, 3) := by decide +kernel
theorem dX11_years_63 : decode cX11_years 63 = .ok (.iinc 2 1, 3) := by decide +kernel
theorem dX11_years_66 : decode cX11_years 66 = .ok (.goto (-19), 3) := by decide +kernel
theorem dX11_years_69 : decode cX11_years 69 = .ok (.aload_n 0, 1) := by decide +kernel
theorem dX11_years_70 : decode cX11_years 70 = .ok (.getfield 50, 3) := by decide +kernel
theorem dX11_years_73 : decode cX11_years 73 = .ok (.invokevirtual 198, 3) := by decide +kernel
theorem dX11_years_76 : decode cX11_years 76 = .ok (.ireturn, 1) := by decide +kernel
theorem dX11_lock_0 : decode cX11_lock 0 = .ok (.aload_n 0, 1) := by decide +kernel
theorem dX11_lock_1 : decode cX11_lock 1 = .ok (.getfield 50, 3) := by decide +kernel
theorem dX11_lock_4 : decode cX11_lock 4 = .ok (.iload_n 1, 1) := by decide +kernel
theorem dX11_lock_5 : decode cX11_lock 5 = .ok (.invokevirtual 201, 3) := by decide +kernel
theorem dX11_lock_8 : decode cX11_lock 8 = .ok (.ifCond .eq 10, 3) := by decide +kernel
theorem dX11_lock_11 : decode cX11_lock 11 = .ok (.iload_n 2, 1) := by decide +kernel
theorem dX11_lock_12 : decode cX11_lock 12 = .ok (.invokestatic 204, 3) := by decide +kernel
theorem dX11_lock_15 : decode cX11_lock 15 = .ok (.ifCond .ne 6, 3) := by decide +kernel
theorem dX11_lock_18 : decode cX11_lock 18 = .ok (.ldc 88, 2) := by decide +kernel
theorem dX11_lock_20 : decode cX11_lock 20 = .ok (.ireturn, 1) := by decide +kernel
theorem dX11_lock_21 : decode cX11_lock 21 = .ok (.aload_n 0, 1) := by decide +kernel
theorem dX11_lock_22 : decode cX11_lock 22 = .ok (.getfield 50, 3) := by decide +kernel
theorem dX11_lock_25 : decode cX11_lock 25 = .ok (.getfield 207, 3) := by decide +kernel
theorem dX11_lock_28 : decode cX11_lock 28 = .ok (.iload_n 1, 1) := by decide +kernel
theorem dX11_lock_29 : decode cX11_lock 29 = .ok (.invokestatic 210, 3) := by decide +kernel
theorem dX11_lock_32 : decode cX11_lock 32 = .ok (.iload_n 2, 1) := by decide +kernel
theorem dX11_lock_33 : decode cX11_lock 33 = .ok (.if_icmp .ne 6, 3) := by decide +kernel
theorem dX11_lock_36 : decode cX11_lock 36 = .ok (.ldc 162, 2) := by decide +kernel
theorem dX11_lock_38 : decode cX11_lock 38 = .ok (.ireturn, 1) := by decide +kernel
theorem dX11_lock_39 : decode cX11_lock 39 = .ok (.aload_n 0, 1) := by decide +kernel
theorem dX11_lock_40 : decode cX11_lock 40 = .ok (.invokevirtual 181, 3) := by decide +kernel
theorem dX11_lock_43 : decode cX11_lock 43 = .ok (.aload_n 0, 1) := by decide +kernel
theorem dX11_lock_44 : decode cX11_lock 44 = .ok (.getfield 50, 3) := by decide +kernel
theorem dX11_lock_47 : decode cX11_lock 47 = .ok (.dup, 1) := by decide +kernel
theorem dX11_lock_48 : decode cX11_lock 48 = .ok (.getfield 207, 3) := by decide +kernel
theorem dX11_lock_51 : decode cX11_lock 51 = .ok (.iconst 1, 1) := by decide +kernel
theorem dX11_lock_52 : decode cX11_lock 52 = .ok (.iload_n 1, 1) := by decide +kernel
theorem dX11_lock_53 : decode cX11_lock 53 = .ok (.ishl, 1) := by decide +kernel
theorem dX11_lock_54 : decode cX11_lock 54 = .ok (.ixor, 1) := by decide +kernel
theorem dX11_lock_55 : decode cX11_lock 55 = .ok (.putfield 207, 3) := by decide +kernel
theorem dX11_lock_58 : decode cX11_lock 58 = .ok (.aload_n 0, 1) := by decide +kernel
theorem dX11_lock_59 : decode cX11_lock 59 = .ok (.getfield 50, 3) := by decide +kernel
theorem dX11_lock_62 : decode cX11_lock 62 = .ok (.getfield 207, 3) := by decide +kernel
theorem dX11_lock_65 : decode cX11_lock 65 = .ok (.ireturn, 1) := by decide +kernel
theorem dX11_follow_0 : decode cX11_follow 0 = .ok (.aload_n 0, 1) := by decide +kernel
theorem dX11_follow_1 : decode cX11_follow 1 = .ok (.getfield 50, 3) := by decide +kernel
theorem dX11_follow_4 : decode cX11_follow 4 = .ok (.iload_n 1, 1) := by decide +kernel
theorem dX11_follow_5 : decode cX11_follow 5 = .ok (.invokevirtual 214, 3) := by decide +kernel
theorem dX11_follow_8 : decode cX11_follow 8 = .ok (.ifCond .ne 6, 3) := by decide +kernel
theorem dX11_follow_11 : decode cX11_follow 11 = .ok (.ldc 88, 2) := by decide +kernel
theorem dX11_follow_13 : decode cX11_follow 13 = .ok (.ireturn, 1) := by decide +kernel
theorem dX11_follow_14 : decode cX11_follow 14 = .ok (.aload_n 0, 1) := by decide +kernel
theorem dX11_follow_15 : decode cX11_follow 15 = .ok (.getfield 50, 3) := by decide +kernel
theorem dX11_follow_18 : decode cX11_follow 18 = .ok (.iload_n 1, 1) := by decide +kernel
theorem dX11_follow_19 : decode cX11_follow 19 = .ok (.invokevirtual 217, 3) := by decide +kernel
theorem dX11_follow_22 : decode cX11_follow 22 = .ok (.ifCond .eq 6, 3) := by decide +kernel
theorem dX11_follow_25 : decode cX11_follow 25 = .ok (.ldc 162, 2) := by decide +kernel
theorem dX11_follow_27 : decode cX11_follow 27 = .ok (.ireturn, 1) := by decide +kernel
theorem dX11_follow_28 : decode cX11_follow 28 = .ok (.aload_n 0, 1) := by decide +kernel
theorem dX11_follow_29 : decode cX11_follow 29 = .ok (.invokevirtual 181, 3) := by decide +kernel
theorem dX11_follow_32 : decode cX11_follow 32 = .ok (.aload_n 0, 1) := by decide +kernel
theorem dX11_follow_33 : decode cX11_follow 33 = .ok (.getfield 50, 3) := by decide +kernel
theorem dX11_follow_36 : decode cX11_follow 36 = .ok (.getfield 220, 3) := by decide +kernel
theorem dX11_follow_39 : decode cX11_follow 39 = .ok (.iload_n 1, 1) := by decide +kernel
theorem dX11_follow_40 : decode cX11_follow 40 = .ok (.iconst 0, 1) := by decide +kernel
theorem dX11_follow_41 : decode cX11_follow 41 = .ok (.iastore, 1) := by decide +kernel
theorem dX11_follow_42 : decode cX11_follow 42 = .ok (.aload_n 0, 1) := by decide +kernel
theorem dX11_follow_43 : decode cX11_follow 43 = .ok (.getfield 50, 3) := by decide +kernel
theorem dX11_follow_46 : decode cX11_follow 46 = .ok (.getfield 223, 3) := by decide +kernel
theorem dX11_follow_49 : decode cX11_follow 49 = .ok (.iload_n 1, 1) := by decide +kernel
theorem dX11_follow_50 : decode cX11_follow 50 = .ok (.iconst 0, 1) := by decide +kernel
theorem dX11_follow_51 : decode cX11_follow 51 = .ok (.iastore, 1) := by decide +kernel
theorem dX11_follow_52 : decode cX11_follow 52 = .ok (.aload_n 0, 1) := by decide +kernel
theorem dX11_follow_53 : decode cX11_follow 53 = .ok (.getfield 50, 3) := by decide +kernel
theorem dX11_follow_56 : decode cX11_follow 56 = .ok (.invokevirtual 198, 3) := by decide +kernel
theorem dX11_follow_59 : decode cX11_follow 59 = .ok (.ireturn, 1) := by decide +kernel
theorem dX11_witness_0 : decode cX11_witness 0 = .ok (.aload_n 0, 1) := by decide +kernel
theorem dX11_witness_1 : decode cX11_witness 1 = .ok (.getfield 50, 3) := by decide +kernel
theorem dX11_witness_4 : decode cX11_witness 4 = .ok (.iload_n 1, 1) := by decide +kernel
theorem dX11_witness_5 : decode cX11_witness 5 = .ok (.invokevirtual 214, 3) := by decide +kernel
theorem dX11_witness_8 : decode cX11_witness 8 = .ok (.ifCond .ne 6, 3) := by decide +kernel
theorem dX11_witness_11 : decode cX11_witness 11 = .ok (.ldc 88, 2) := by decide +kernel
theorem dX11_witness_13 : decode cX11_witness 13 = .ok (.ireturn, 1) := by decide +kernel
theorem dX11_witness_14 : decode cX11_witness 14 = .ok (.iload_n 2, 1) := by decide +kernel
theorem dX11_witness_15 : decode cX11_witness 15 = .ok (.tableswitch 75 0 3 #[29, 39, 49, 66], 29) := by decide +kernel
theorem dX11_witness_44 : decode cX11_witness 44 = .ok (.aload_n 0, 1) := by decide +kernel
theorem dX11_witness_45 : decode cX11_witness 45 = .ok (.getfield 50, 3) := by decide +kernel
theorem dX11_witness_48 : decode cX11_witness 48 = .ok (.getfield 220, 3) := by decide +kernel
theorem dX11_witness_51 : decode cX11_witness 51 = .ok (.iload_n 1, 1) := by decide +kernel
theorem dX11_witness_52 : decode cX11_witness 52 = .ok (.iaload, 1) := by decide +kernel
theorem dX11_witness_53 : decode cX11_witness 53 = .ok (.ireturn, 1) := by decide +kernel
theorem dX11_witness_54 : decode cX11_witness 54 = .ok (.aload_n 0, 1) := by decide +kernel
theorem dX11_witness_55 : decode cX11_witness 55 = .ok (.getfield 50, 3) := by decide +kernel
theorem dX11_witness_58 : decode cX11_witness 58 = .ok (.getfield 226, 3) := by decide +kernel
theorem dX11_witness_61 : decode cX11_witness 61 = .ok (.iload_n 1, 1) := by decide +kernel
theorem dX11_witness_62 : decode cX11_witness 62 = .ok (.iaload, 1) := by decide +kernel
theorem dX11_witness_63 : decode cX11_witness 63 = .ok (.ireturn, 1) := by decide +kernel
theorem dX11_witness_64 : decode cX11_witness 64 = .ok (.aload_n 0, 1) := by decide +kernel
theorem dX11_witness_65 : decode cX11_witness 65 = .ok (.getfield 50, 3) := by decide +kernel
theorem dX11_witness_68 : decode cX11_witness 68 = .ok (.iload_n 1, 1) := by decide +kernel
theorem dX11_witness_69 : decode cX11_witness 69 = .ok (.invokevirtual 217, 3) := by decide +kernel
theorem dX11_witness_72 : decode cX11_witness 72 = .ok (.ifCond .eq 7, 3) := by decide +kernel
theorem dX11_witness_75 : decode cX11_witness 75 = .ok (.iconst 1, 1) := by decide +kernel
theorem dX11_witness_76 : decode cX11_witness 76 = .ok (.goto 4, 3) := by decide +kernel
theorem dX11_witness_79 : decode cX11_witness 79 = .ok (.iconst 0, 1) := by decide +kernel
theorem dX11_witness_80 : decode cX11_witness 80 = .ok (.ireturn, 1) := by decide +kernel
theorem dX11_witness_81 : decode cX11_witness 81 = .ok (.aload_n 0, 1) := by decide +kernel
theorem dX11_witness_82 : decode cX11_witness 82 = .ok (.getfield 50, 3) := by decide +kernel
theorem dX11_witness_85 : decode cX11_witness 85 = .ok (.iload_n 1, 1) := by decide +kernel
theorem dX11_witness_86 : decode cX11_witness 86 = .ok (.invokevirtual 229, 3) := by decide +kernel
theorem dX11_witness_89 : decode cX11_witness 89 = .ok (.ireturn, 1) := by decide +kernel
theorem dX11_witness_90 : decode cX11_witness 90 = .ok (.ldc 88, 2) := by decide +kernel
theorem dX11_witness_92 : decode cX11_witness 92 = .ok (.ireturn, 1) := by decide +kernel
theorem dX11_path_0 : decode cX11_path 0 = .ok (.aload_n 0, 1) := by decide +kernel
theorem dX11_path_1 : decode cX11_path 1 = .ok (.getfield 50, 3) := by decide +kernel
theorem dX11_path_4 : decode cX11_path 4 = .ok (.iload_n 1, 1) := by decide +kernel
theorem dX11_path_5 : decode cX11_path 5 = .ok (.invokevirtual 201, 3) := by decide +kernel
theorem dX11_path_8 : decode cX11_path 8 = .ok (.ifCond .ne 6, 3) := by decide +kernel
theorem dX11_path_11 : decode cX11_path 11 = .ok (.ldc 88, 2) := by decide +kernel
theorem dX11_path_13 : decode cX11_path 13 = .ok (.ireturn, 1) := by decide +kernel
theorem dX11_path_14 : decode cX11_path 14 = .ok (.iload_n 2, 1) := by decide +kernel
theorem dX11_path_15 : decode cX11_path 15 = .ok (.tableswitch 84 0 4 #[33, 43, 53, 63, 75], 33) := by decide +kernel
theorem dX11_path_48 : decode cX11_path 48 = .ok (.aload_n 0, 1) := by decide +kernel
theorem dX11_path_49 : decode cX11_path 49 = .ok (.getfield 50, 3) := by decide +kernel
theorem dX11_path_52 : decode cX11_path 52 = .ok (.getfield 232, 3) := by decide +kernel
theorem dX11_path_55 : decode cX11_path 55 = .ok (.iload_n 1, 1) := by decide +kernel
theorem dX11_path_56 : decode cX11_path 56 = .ok (.iaload, 1) := by decide +kernel
theorem dX11_path_57 : decode cX11_path 57 = .ok (.ireturn, 1) := by decide +kernel
theorem dX11_path_58 : decode cX11_path 58 = .ok (.aload_n 0, 1) := by decide +kernel
theorem dX11_path_59 : decode cX11_path 59 = .ok (.getfield 50, 3) := by decide +kernel
theorem dX11_path_62 : decode cX11_path 62 = .ok (.getfield 235, 3) := by decide +kernel
theorem dX11_path_65 : decode cX11_path 65 = .ok (.iload_n 1, 1) := by decide +kernel
theorem dX11_path_66 : decode cX11_path 66 = .ok (.iaload, 1) := by decide +kernel
theorem dX11_path_67 : decode cX11_path 67 = .ok (.ireturn, 1) := by decide +kernel
theorem dX11_path_68 : decode cX11_path 68 = .ok (.aload_n 0, 1) := by decide +kernel
theorem dX11_path_69 : decode cX11_path 69 = .ok (.getfield 50, 3) := by decide +kernel
theorem dX11_path_72 : decode cX11_path 72 = .ok (.getfield 238, 3) := by decide +kernel
theorem dX11_path_75 : decode cX11_path 75 = .ok (.iload_n 1, 1) := by decide +kernel
theorem dX11_path_76 : decode cX11_path 76 = .ok (.iaload, 1) := by decide +kernel
theorem dX11_path_77 : decode cX11_path 77 = .ok (.ireturn, 1) := by decide +kernel
theorem dX11_path_78 : decode cX11_path 78 = .ok (.aload_n 0, 1) := by decide +kernel
theorem dX11_path_79 : decode cX11_path 79 = .ok (.getfield 50, 3) := by decide +kernel
theorem dX11_path_82 : decode cX11_path 82 = .ok (.getfield 207, 3) := by decide +kernel
theorem dX11_path_85 : decode cX11_path 85 = .ok (.iload_n 1, 1) := by decide +kernel
theorem dX11_path_86 : decode cX11_path 86 = .ok (.invokestatic 210, 3) := by decide +kernel
theorem dX11_path_89 : decode cX11_path 89 = .ok (.ireturn, 1) := by decide +kernel
theorem dX11_path_90 : decode cX11_path 90 = .ok (.aload_n 0, 1) := by decide +kernel
theorem dX11_path_91 : decode cX11_path 91 = .ok (.getfield 50, 3) := by decide +kernel
theorem dX11_path_94 : decode cX11_path 94 = .ok (.iload_n 1, 1) := by decide +kernel
theorem dX11_path_95 : decode cX11_path 95 = .ok (.invokevirtual 241, 3) := by decide +kernel
theorem dX11_path_98 : decode cX11_path 98 = .ok (.ireturn, 1) := by decide +kernel
theorem dX11_path_99 : decode cX11_path 99 = .ok (.ldc 88, 2) := by decide +kernel
theorem dX11_path_101 : decode cX11_path 101 = .ok (.ireturn, 1) := by decide +kernel
theorem dX11_stand_0 : decode cX11_stand 0 = .ok (.aload_n 0, 1) := by decide +kernel
theorem dX11_stand_1 : decode cX11_stand 1 = .ok (.getfield 50, 3) := by decide +kernel
theorem dX11_stand_4 : decode cX11_stand 4 = .ok (.getfield 170, 3) := by decide +kernel
theorem dX11_stand_7 : decode cX11_stand 7 = .ok (.ifCond .ne 6, 3) := by decide +kernel
theorem dX11_stand_10 : decode cX11_stand 10 = .ok (.ldc 162, 2) := by decide +kernel
theorem dX11_stand_12 : decode cX11_stand 12 = .ok (.ireturn, 1) := by decide +kernel
theorem dX11_stand_13 : decode cX11_stand 13 = .ok (.iload_n 1, 1) := by decide +kernel
theorem dX11_stand_14 : decode cX11_stand 14 = .ok (.tableswitch 62 0 3 #[30, 38, 46, 54], 30) := by decide +kernel
theorem dX11_stand_44 : decode cX11_stand 44 = .ok (.aload_n 0, 1) := by decide +kernel
theorem dX11_stand_45 : decode cX11_stand 45 = .ok (.getfield 50, 3) := by decide +kernel
theorem dX11_stand_48 : decode cX11_stand 48 = .ok (.invokevirtual 188, 3) := by decide +kernel
theorem dX11_stand_51 : decode cX11_stand 51 = .ok (.ireturn, 1) := by decide +kernel
theorem dX11_stand_52 : decode cX11_stand 52 = .ok (.aload_n 0, 1) := by decide +kernel
theorem dX11_stand_53 : decode cX11_stand 53 = .ok (.getfield 50, 3) := by decide +kernel
theorem dX11_stand_56 : decode cX11_stand 56 = .ok (.getfield 207, 3) := by decide +kernel
theorem dX11_stand_59 : decode cX11_stand 59 = .ok (.ireturn, 1) := by decide +kernel
theorem dX11_stand_60 : decode cX11_stand 60 = .ok (.aload_n 0, 1) := by decide +kernel
theorem dX11_stand_61 : decode cX11_stand 61 = .ok (.getfield 50, 3) := by decide +kernel
theorem dX11_stand_64 : decode cX11_stand 64 = .ok (.invokevirtual 198, 3) := by decide +kernel
theorem dX11_stand_67 : decode cX11_stand 67 = .ok (.ireturn, 1) := by decide +kernel
theorem dX11_stand_68 : decode cX11_stand 68 = .ok (.aload_n 0, 1) := by decide +kernel
theorem dX11_stand_69 : decode cX11_stand 69 = .ok (.getfield 50, 3) := by decide +kernel
theorem dX11_stand_72 : decode cX11_stand 72 = .ok (.getfield 244, 3) := by decide +kernel
theorem dX11_stand_75 : decode cX11_stand 75 = .ok (.ireturn, 1) := by decide +kernel
theorem dX11_stand_76 : decode cX11_stand 76 = .ok (.ldc 88, 2) := by decide +kernel
theorem dX11_stand_78 : decode cX11_stand 78 = .ok (.ireturn, 1) := by decide +kernel
theorem dX11_ahead_0 : decode cX11_ahead 0 = .ok (.aload_n 0, 1) := by decide +kernel
theorem dX11_ahead_1 : decode cX11_ahead 1 = .ok (.getfield 50, 3) := by decide +kernel
theorem dX11_ahead_4 : decode cX11_ahead 4 = .ok (.getfield 170, 3) := by decide +kernel
theorem dX11_ahead_7 : decode cX11_ahead 7 = .ok (.ifCond .ne 6, 3) := by decide +kernel
theorem dX11_ahead_10 : decode cX11_ahead 10 = .ok (.ldc 162, 2) := by decide +kernel
theorem dX11_ahead_12 : decode cX11_ahead 12 = .ok (.ireturn, 1) := by decide +kernel
theorem dX11_ahead_13 : decode cX11_ahead 13 = .ok (.iload_n 1, 1) := by decide +kernel
theorem dX11_ahead_14 : decode cX11_ahead 14 = .ok (.ifCond .lt 9, 3) := by decide +kernel
theorem dX11_ahead_17 : decode cX11_ahead 17 = .ok (.iload_n 1, 1) := by decide +kernel
theorem dX11_ahead_18 : decode cX11_ahead 18 = .ok (.bipush 60, 2) := by decide +kernel
theorem dX11_ahead_20 : decode cX11_ahead 20 = .ok (.if_icmp .le 6, 3) := by decide +kernel
theorem dX11_ahead_23 : decode cX11_ahead 23 = .ok (.ldc 88, 2) := by decide +kernel
theorem dX11_ahead_25 : decode cX11_ahead 25 = .ok (.ireturn, 1) := by decide +kernel
theorem dX11_ahead_26 : decode cX11_ahead 26 = .ok (.aload_n 0, 1) := by decide +kernel
theorem dX11_ahead_27 : decode cX11_ahead 27 = .ok (.getfield 54, 3) := by decide +kernel
theorem dX11_ahead_30 : decode cX11_ahead 30 = .ok (.aload_n 0, 1) := by decide +kernel
theorem dX11_ahead_31 : decode cX11_ahead 31 = .ok (.getfield 50, 3) := by decide +kernel
theorem dX11_ahead_34 : decode cX11_ahead 34 = .ok (.invokevirtual 146, 3) := by decide +kernel
theorem dX11_ahead_37 : decode cX11_ahead 37 = .ok (.iconst 0, 1) := by decide +kernel
theorem dX11_ahead_38 : decode cX11_ahead 38 = .ok (.istore_n 2, 1) := by decide +kernel
theorem dX11_ahead_39 : decode cX11_ahead 39 = .ok (.iload_n 2, 1) := by decide +kernel
theorem dX11_ahead_40 : decode cX11_ahead 40 = .ok (.iload_n 1, 1) := by decide +kernel
theorem dX11_ahead_41 : decode cX11_ahead 41 = .ok (.if_icmp .ge 16, 3) := by decide +kernel
theorem dX11_ahead_44 : decode cX11_ahead 44 = .ok (.aload_n 0, 1) := by decide +kernel
theorem dX11_ahead_45 : decode cX11_ahead 45 = .ok (.getfield 54, 3) := by decide +kernel
theorem dX11_ahead_48 : decode cX11_ahead 48 = .ok (.invokevirtual 195, 3) := by decide +kernel
theorem dX11_ahead_51 : decode cX11_ahead 51 = .ok (.iinc 2 1, 3) := by decide +kernel
theorem dX11_ahead_54 : decode cX11_ahead 54 = .ok (.goto (-15), 3) := by decide +kernel
theorem dX11_ahead_57 : decode cX11_ahead 57 = .ok (.aload_n 0, 1) := by decide +kernel
theorem dX11_ahead_58 : decode cX11_ahead 58 = .ok (.getfield 54, 3) := by decide +kernel
theorem dX11_ahead_61 : decode cX11_ahead 61 = .ok (.invokevirtual 188, 3) := by decide +kernel
theorem dX11_ahead_64 : decode cX11_ahead 64 = .ok (.ireturn, 1) := by decide +kernel
theorem dX11_lost_0 : decode cX11_lost 0 = .ok (.aload_n 0, 1) := by decide +kernel
theorem dX11_lost_1 : decode cX11_lost 1 = .ok (.getfield 50, 3) := by decide +kernel
theorem dX11_lost_4 : decode cX11_lost 4 = .ok (.iload_n 1, 1) := by decide +kernel
theorem dX11_lost_5 : decode cX11_lost 5 = .ok (.invokevirtual 201, 3) := by decide +kernel
theorem dX11_lost_8 : decode cX11_lost 8 = .ok (.ifCond .ne 6, 3) := by decide +kernel
theorem dX11_lost_11 : decode cX11_lost 11 = .ok (.ldc 88, 2) := by decide +kernel
theorem dX11_lost_13 : decode cX11_lost 13 = .ok (.ireturn, 1) := by decide +kernel
theorem dX11_lost_14 : decode cX11_lost 14 = .ok (.aload_n 0, 1) := by decide +kernel
theorem dX11_lost_15 : decode cX11_lost 15 = .ok (.getfield 54, 3) := by decide +kernel
theorem dX11_lost_18 : decode cX11_lost 18 = .ok (.aload_n 0, 1) := by decide +kernel
theorem dX11_lost_19 : decode cX11_lost 19 = .ok (.getfield 50, 3) := by decide +kernel
theorem dX11_lost_22 : decode cX11_lost 22 = .ok (.invokevirtual 146, 3) := by decide +kernel
theorem dX11_lost_25 : decode cX11_lost 25 = .ok (.iconst 0, 1) := by decide +kernel
theorem dX11_lost_26 : decode cX11_lost 26 = .ok (.istore_n 2, 1) := by decide +kernel
theorem dX11_lost_27 : decode cX11_lost 27 = .ok (.iload_n 2, 1) := by decide +kernel
theorem dX11_lost_28 : decode cX11_lost 28 = .ok (.bipush 60, 2) := by decide +kernel
theorem dX11_lost_30 : decode cX11_lost 30 = .ok (.if_icmp .gt 32, 3) := by decide +kernel
theorem dX11_lost_33 : decode cX11_lost 33 = .ok (.aload_n 0, 1) := by decide +kernel
theorem dX11_lost_34 : decode cX11_lost 34 = .ok (.getfield 54, 3) := by decide +kernel
theorem dX11_lost_37 : decode cX11_lost 37 = .ok (.invokevirtual 188, 3) := by decide +kernel
theorem dX11_lost_40 : decode cX11_lost 40 = .ok (.iload_n 1, 1) := by decide +kernel
theorem dX11_lost_41 : decode cX11_lost 41 = .ok (.invokestatic 210, 3) := by decide +kernel
theorem dX11_lost_44 : decode cX11_lost 44 = .ok (.ifCond .ne 5, 3) := by decide +kernel
theorem dX11_lost_47 : decode cX11_lost 47 = .ok (.iload_n 2, 1) := by decide +kernel
theorem dX11_lost_48 : decode cX11_lost 48 = .ok (.ireturn, 1) := by decide +kernel
theorem dX11_lost_49 : decode cX11_lost 49 = .ok (.aload_n 0, 1) := by decide +kernel
theorem dX11_lost_50 : decode cX11_lost 50 = .ok (.getfield 54, 3) := by decide +kernel
theorem dX11_lost_53 : decode cX11_lost 53 = .ok (.invokevirtual 195, 3) := by decide +kernel
theorem dX11_lost_56 : decode cX11_lost 56 = .ok (.iinc 2 1, 3) := by decide +kernel
theorem dX11_lost_59 : decode cX11_lost 59 = .ok (.goto (-32), 3) := by decide +kernel
theorem dX11_lost_62 : decode cX11_lost 62 = .ok (.ldc 247, 2) := by decide +kernel
theorem dX11_lost_64 : decode cX11_lost 64 = .ok (.ireturn, 1) := by decide +kernel
theorem dX11_goes_0 : decode cX11_goes 0 = .ok (.aload_n 0, 1) := by decide +kernel
theorem dX11_goes_1 : decode cX11_goes 1 = .ok (.getfield 50, 3) := by decide +kernel
theorem dX11_goes_4 : decode cX11_goes 4 = .ok (.getfield 170, 3) := by decide +kernel
theorem dX11_goes_7 : decode cX11_goes 7 = .ok (.ifCond .ne 6, 3) := by decide +kernel
theorem dX11_goes_10 : decode cX11_goes 10 = .ok (.ldc 162, 2) := by decide +kernel
theorem dX11_goes_12 : decode cX11_goes 12 = .ok (.ireturn, 1) := by decide +kernel
theorem dX11_goes_13 : decode cX11_goes 13 = .ok (.iload_n 1, 1) := by decide +kernel
theorem dX11_goes_14 : decode cX11_goes 14 = .ok (.invokestatic 174, 3) := by decide +kernel
theorem dX11_goes_17 : decode cX11_goes 17 = .ok (.ifCond .eq 10, 3) := by decide +kernel
theorem dX11_goes_20 : decode cX11_goes 20 = .ok (.iload_n 2, 1) := by decide +kernel
theorem dX11_goes_21 : decode cX11_goes 21 = .ok (.invokestatic 204, 3) := by decide +kernel
theorem dX11_goes_24 : decode cX11_goes 24 = .ok (.ifCond .ne 6, 3) := by decide +kernel
theorem dX11_goes_27 : decode cX11_goes 27 = .ok (.ldc 88, 2) := by decide +kernel
theorem dX11_goes_29 : decode cX11_goes 29 = .ok (.ireturn, 1) := by decide +kernel
theorem dX11_goes_30 : decode cX11_goes 30 = .ok (.aload_n 0, 1) := by decide +kernel
theorem dX11_goes_31 : decode cX11_goes 31 = .ok (.getfield 69, 3) := by decide +kernel
theorem dX11_goes_34 : decode cX11_goes 34 = .ok (.aload_n 0, 1) := by decide +kernel
theorem dX11_goes_35 : decode cX11_goes 35 = .ok (.getfield 50, 3) := by decide +kernel
theorem dX11_goes_38 : decode cX11_goes 38 = .ok (.aload_n 0, 1) := by decide +kernel
theorem dX11_goes_39 : decode cX11_goes 39 = .ok (.getfield 50, 3) := by decide +kernel
theorem dX11_goes_42 : decode cX11_goes 42 = .ok (.invokevirtual 248, 3) := by decide +kernel
theorem dX11_goes_45 : decode cX11_goes 45 = .ok (.iload_n 1, 1) := by decide +kernel
theorem dX11_goes_46 : decode cX11_goes 46 = .ok (.invokevirtual 251, 3) := by decide +kernel
theorem dX11_goes_49 : decode cX11_goes 49 = .ok (.ifCond .ne 6, 3) := by decide +kernel
theorem dX11_goes_52 : decode cX11_goes 52 = .ok (.ldc 247, 2) := by decide +kernel
theorem dX11_goes_54 : decode cX11_goes 54 = .ok (.ireturn, 1) := by decide +kernel
theorem dX11_goes_55 : decode cX11_goes 55 = .ok (.iload_n 2, 1) := by decide +kernel
theorem dX11_goes_56 : decode cX11_goes 56 = .ok (.ifCond .ne 13, 3) := by decide +kernel
theorem dX11_goes_59 : decode cX11_goes 59 = .ok (.aload_n 0, 1) := by decide +kernel
theorem dX11_goes_60 : decode cX11_goes 60 = .ok (.getfield 69, 3) := by decide +kernel
theorem dX11_goes_63 : decode cX11_goes 63 = .ok (.getfield 255, 3) := by decide +kernel
theorem dX11_goes_66 : decode cX11_goes 66 = .ok (.goto 10, 3) := by decide +kernel
theorem dX11_goes_69 : decode cX11_goes 69 = .ok (.aload_n 0, 1) := by decide +kernel
theorem dX11_goes_70 : decode cX11_goes 70 = .ok (.getfield 69, 3) := by decide +kernel
theorem dX11_goes_73 : decode cX11_goes 73 = .ok (.getfield 258, 3) := by decide +kernel
theorem dX11_goes_76 : decode cX11_goes 76 = .ok (.ireturn, 1) := by decide +kernel
theorem dX11_stop_0 : decode cX11_stop 0 = .ok (.aload_n 0, 1) := by decide +kernel
theorem dX11_stop_1 : decode cX11_stop 1 = .ok (.getfield 50, 3) := by decide +kernel
theorem dX11_stop_4 : decode cX11_stop 4 = .ok (.getfield 170, 3) := by decide +kernel
theorem dX11_stop_7 : decode cX11_stop 7 = .ok (.ifCond .ne 6, 3) := by decide +kernel
theorem dX11_stop_10 : decode cX11_stop 10 = .ok (.ldc 162, 2) := by decide +kernel
theorem dX11_stop_12 : decode cX11_stop 12 = .ok (.ireturn, 1) := by decide +kernel
theorem dX11_stop_13 : decode cX11_stop 13 = .ok (.iload_n 1, 1) := by decide +kernel
theorem dX11_stop_14 : decode cX11_stop 14 = .ok (.invokestatic 174, 3) := by decide +kernel
theorem dX11_stop_17 : decode cX11_stop 17 = .ok (.ifCond .eq 10, 3) := by decide +kernel
theorem dX11_stop_20 : decode cX11_stop 20 = .ok (.iload_n 2, 1) := by decide +kernel
theorem dX11_stop_21 : decode cX11_stop 21 = .ok (.invokestatic 204, 3) := by decide +kernel
theorem dX11_stop_24 : decode cX11_stop 24 = .ok (.ifCond .ne 6, 3) := by decide +kernel
theorem dX11_stop_27 : decode cX11_stop 27 = .ok (.ldc 88, 2) := by decide +kernel
theorem dX11_stop_29 : decode cX11_stop 29 = .ok (.ireturn, 1) := by decide +kernel
theorem dX11_stop_30 : decode cX11_stop 30 = .ok (.iload_n 1, 1) := by decide +kernel
theorem dX11_stop_31 : decode cX11_stop 31 = .ok (.aload_n 0, 1) := by decide +kernel
theorem dX11_stop_32 : decode cX11_stop 32 = .ok (.getfield 50, 3) := by decide +kernel
theorem dX11_stop_35 : decode cX11_stop 35 = .ok (.getfield 244, 3) := by decide +kernel
theorem dX11_stop_38 : decode cX11_stop 38 = .ok (.if_icmp .ne 6, 3) := by decide +kernel
theorem dX11_stop_41 : decode cX11_stop 41 = .ok (.ldc 247, 2) := by decide +kernel
theorem dX11_stop_43 : decode cX11_stop 43 = .ok (.ireturn, 1) := by decide +kernel
theorem dX11_stop_44 : decode cX11_stop 44 = .ok (.aload_n 0, 1) := by decide +kernel
theorem dX11_stop_45 : decode cX11_stop 45 = .ok (.getfield 69, 3) := by decide +kernel
theorem dX11_stop_48 : decode cX11_stop 48 = .ok (.aload_n 0, 1) := by decide +kernel
theorem dX11_stop_49 : decode cX11_stop 49 = .ok (.getfield 50, 3) := by decide +kernel
theorem dX11_stop_52 : decode cX11_stop 52 = .ok (.aload_n 0, 1) := by decide +kernel
theorem dX11_stop_53 : decode cX11_stop 53 = .ok (.getfield 50, 3) := by decide +kernel
theorem dX11_stop_56 : decode cX11_stop 56 = .ok (.invokevirtual 248, 3) := by decide +kernel
theorem dX11_stop_59 : decode cX11_stop 59 = .ok (.iload_n 1, 1) := by decide +kernel
theorem dX11_stop_60 : decode cX11_stop 60 = .ok (.invokevirtual 261, 3) := by decide +kernel
theorem dX11_stop_63 : decode cX11_stop 63 = .ok (.istore_n 3, 1) := by decide +kernel
theorem dX11_stop_64 : decode cX11_stop 64 = .ok (.iload_n 2, 1) := by decide +kernel
theorem dX11_stop_65 : decode cX11_stop 65 = .ok (.ifCond .ne 10, 3) := by decide +kernel
theorem dX11_stop_68 : decode cX11_stop 68 = .ok (.iload_n 3, 1) := by decide +kernel
theorem dX11_stop_69 : decode cX11_stop 69 = .ok (.invokestatic 265, 3) := by decide +kernel
theorem dX11_stop_72 : decode cX11_stop 72 = .ok (.goto 4, 3) := by decide +kernel
theorem dX11_stop_75 : decode cX11_stop 75 = .ok (.iload_n 3, 1) := by decide +kernel
theorem dX11_stop_76 : decode cX11_stop 76 = .ok (.ireturn, 1) := by decide +kernel
theorem dX11_must_0 : decode cX11_must 0 = .ok (.aload_n 0, 1) := by decide +kernel
theorem dX11_must_1 : decode cX11_must 1 = .ok (.getfield 50, 3) := by decide +kernel
theorem dX11_must_4 : decode cX11_must 4 = .ok (.getfield 170, 3) := by decide +kernel
theorem dX11_must_7 : decode cX11_must 7 = .ok (.ifCond .ne 6, 3) := by decide +kernel
theorem dX11_must_10 : decode cX11_must 10 = .ok (.ldc 162, 2) := by decide +kernel
theorem dX11_must_12 : decode cX11_must 12 = .ok (.ireturn, 1) := by decide +kernel
theorem dX11_must_13 : decode cX11_must 13 = .ok (.iload_n 1, 1) := by decide +kernel
theorem dX11_must_14 : decode cX11_must 14 = .ok (.invokestatic 174, 3) := by decide +kernel
theorem dX11_must_17 : decode cX11_must 17 = .ok (.ifCond .ne 6, 3) := by decide +kernel
theorem dX11_must_20 : decode cX11_must 20 = .ok (.ldc 88, 2) := by decide +kernel
theorem dX11_must_22 : decode cX11_must 22 = .ok (.ireturn, 1) := by decide +kernel
theorem dX11_must_23 : decode cX11_must 23 = .ok (.aload_n 0, 1) := by decide +kernel
theorem dX11_must_24 : decode cX11_must 24 = .ok (.getfield 50, 3) := by decide +kernel
theorem dX11_must_27 : decode cX11_must 27 = .ok (.invokevirtual 248, 3) := by decide +kernel
theorem dX11_must_30 : decode cX11_must 30 = .ok (.istore_n 2, 1) := by decide +kernel
theorem dX11_must_31 : decode cX11_must 31 = .ok (.aload_n 0, 1) := by decide +kernel
theorem dX11_must_32 : decode cX11_must 32 = .ok (.getfield 69, 3) := by decide +kernel
theorem dX11_must_35 : decode cX11_must 35 = .ok (.aload_n 0, 1) := by decide +kernel
theorem dX11_must_36 : decode cX11_must 36 = .ok (.getfield 50, 3) := by decide +kernel
theorem dX11_must_39 : decode cX11_must 39 = .ok (.iload_n 2, 1) := by decide +kernel
theorem dX11_must_40 : decode cX11_must 40 = .ok (.iload_n 1, 1) := by decide +kernel
theorem dX11_must_41 : decode cX11_must 41 = .ok (.invokevirtual 251, 3) := by decide +kernel
theorem dX11_must_44 : decode cX11_must 44 = .ok (.ifCond .ne 5, 3) := by decide +kernel
theorem dX11_must_47 : decode cX11_must 47 = .ok (.iconst 0, 1) := by decide +kernel
theorem dX11_must_48 : decode cX11_must 48 = .ok (.ireturn, 1) := by decide +kernel
theorem dX11_must_49 : decode cX11_must 49 = .ok (.aload_n 0, 1) := by decide +kernel
theorem dX11_must_50 : decode cX11_must 50 = .ok (.getfield 69, 3) := by decide +kernel
theorem dX11_must_53 : decode cX11_must 53 = .ok (.getfield 258, 3) := by decide +kernel
theorem dX11_must_56 : decode cX11_must 56 = .ok (.istore_n 3, 1) := by decide +kernel
theorem dX11_must_57 : decode cX11_must 57 = .ok (.iconst 0, 1) := by decide +kernel
theorem dX11_must_58 : decode cX11_must 58 = .ok (.istore 4, 2) := by decide +kernel
theorem dX11_must_60 : decode cX11_must 60 = .ok (.iconst 0, 1) := by decide +kernel
theorem dX11_must_61 : decode cX11_must 61 = .ok (.istore 5, 2) := by decide +kernel
theorem dX11_must_63 : decode cX11_must 63 = .ok (.iload 5, 2) := by decide +kernel
theorem dX11_must_65 : decode cX11_must 65 = .ok (.aload_n 0, 1) := by decide +kernel
theorem dX11_must_66 : decode cX11_must 66 = .ok (.getfield 50, 3) := by decide +kernel
theorem dX11_must_69 : decode cX11_must 69 = .ok (.getfield 153, 3) := by decide +kernel
theorem dX11_must_72 : decode cX11_must 72 = .ok (.if_icmp .ge 51, 3) := by decide +kernel
theorem dX11_must_75 : decode cX11_must 75 = .ok (.iload_n 3, 1) := by decide +kernel
theorem dX11_must_76 : decode cX11_must 76 = .ok (.iload 5, 2) := by decide +kernel
theorem dX11_must_78 : decode cX11_must 78 = .ok (.invokestatic 210, 3) := by decide +kernel
theorem dX11_must_81 : decode cX11_must 81 = .ok (.iconst 1, 1) := by decide +kernel
theorem dX11_must_82 : decode cX11_must 82 = .ok (.if_icmp .ne 35, 3) := by decide +kernel
theorem dX11_must_85 : decode cX11_must 85 = .ok (.aload_n 0, 1) := by decide +kernel
theorem dX11_must_86 : decode cX11_must 86 = .ok (.getfield 69, 3) := by decide +kernel
theorem dX11_must_89 : decode cX11_must 89 = .ok (.aload_n 0, 1) := by decide +kernel
theorem dX11_must_90 : decode cX11_must 90 = .ok (.getfield 50, 3) := by decide +kernel
theorem dX11_must_93 : decode cX11_must 93 = .ok (.iload_n 2, 1) := by decide +kernel
theorem dX11_must_94 : decode cX11_must 94 = .ok (.iconst 1, 1) := by decide +kernel
theorem dX11_must_95 : decode cX11_must 95 = .ok (.iload 5, 2) := by decide +kernel
theorem dX11_must_97 : decode cX11_must 97 = .ok (.ishl, 1) := by decide +kernel
theorem dX11_must_98 : decode cX11_must 98 = .ok (.iconst (-1), 1) := by decide +kernel
theorem dX11_must_99 : decode cX11_must 99 = .ok (.ixor, 1) := by decide +kernel
theorem dX11_must_100 : decode cX11_must 100 = .ok (.iand, 1) := by decide +kernel
theorem dX11_must_101 : decode cX11_must 101 = .ok (.iload_n 1, 1) := by decide +kernel
theorem dX11_must_102 : decode cX11_must 102 = .ok (.invokevirtual 251, 3) := by decide +kernel
theorem dX11_must_105 : decode cX11_must 105 = .ok (.ifCond .ne 12, 3) := by decide +kernel
theorem dX11_must_108 : decode cX11_must 108 = .ok (.iload 4, 2) := by decide +kernel
theorem dX11_must_110 : decode cX11_must 110 = .ok (.iconst 1, 1) := by decide +kernel
theorem dX11_must_111 : decode cX11_must 111 = .ok (.iload 5, 2) := by decide +kernel
theorem dX11_must_113 : decode cX11_must 113 = .ok (.ishl, 1) := by decide +kernel
theorem dX11_must_114 : decode cX11_must 114 = .ok (.ior, 1) := by decide +kernel
theorem dX11_must_115 : decode cX11_must 115 = .ok (.istore 4, 2) := by decide +kernel
theorem dX11_must_117 : decode cX11_must 117 = .ok (.iinc 5 1, 3) := by decide +kernel
theorem dX11_must_120 : decode cX11_must 120 = .ok (.goto (-57), 3) := by decide +kernel
theorem dX11_must_123 : decode cX11_must 123 = .ok (.iload 4, 2) := by decide +kernel
theorem dX11_must_125 : decode cX11_must 125 = .ok (.ireturn, 1) := by decide +kernel
theorem dX11_live_0 : decode cX11_live 0 = .ok (.aload_n 0, 1) := by decide +kernel
theorem dX11_live_1 : decode cX11_live 1 = .ok (.getfield 50, 3) := by decide +kernel
theorem dX11_live_4 : decode cX11_live 4 = .ok (.getfield 170, 3) := by decide +kernel
theorem dX11_live_7 : decode cX11_live 7 = .ok (.ifCond .ne 6, 3) := by decide +kernel
theorem dX11_live_10 : decode cX11_live 10 = .ok (.ldc 162, 2) := by decide +kernel
theorem dX11_live_12 : decode cX11_live 12 = .ok (.ireturn, 1) := by decide +kernel
theorem dX11_live_13 : decode cX11_live 13 = .ok (.iload_n 1, 1) := by decide +kernel
theorem dX11_live_14 : decode cX11_live 14 = .ok (.aload_n 0, 1) := by decide +kernel
theorem dX11_live_15 : decode cX11_live 15 = .ok (.getfield 50, 3) := by decide +kernel
theorem dX11_live_18 : decode cX11_live 18 = .ok (.invokevirtual 270, 3) := by decide +kernel
theorem dX11_live_21 : decode cX11_live 21 = .ok (.iconst (-1), 1) := by decide +kernel
theorem dX11_live_22 : decode cX11_live 22 = .ok (.ixor, 1) := by decide +kernel
theorem dX11_live_23 : decode cX11_live 23 = .ok (.iand, 1) := by decide +kernel
theorem dX11_live_24 : decode cX11_live 24 = .ok (.ifCond .ne 10, 3) := by decide +kernel
theorem dX11_live_27 : decode cX11_live 27 = .ok (.iload_n 2, 1) := by decide +kernel
theorem dX11_live_28 : decode cX11_live 28 = .ok (.invokestatic 204, 3) := by decide +kernel
theorem dX11_live_31 : decode cX11_live 31 = .ok (.ifCond .ne 6, 3) := by decide +kernel
theorem dX11_live_34 : decode cX11_live 34 = .ok (.ldc 88, 2) := by decide +kernel
theorem dX11_live_36 : decode cX11_live 36 = .ok (.ireturn, 1) := by decide +kernel
theorem dX11_live_37 : decode cX11_live 37 = .ok (.ldc 247, 2) := by decide +kernel
theorem dX11_live_39 : decode cX11_live 39 = .ok (.istore_n 3, 1) := by decide +kernel
theorem dX11_live_40 : decode cX11_live 40 = .ok (.iconst 0, 1) := by decide +kernel
theorem dX11_live_41 : decode cX11_live 41 = .ok (.istore 4, 2) := by decide +kernel
theorem dX11_live_43 : decode cX11_live 43 = .ok (.iload 4, 2) := by decide +kernel
theorem dX11_live_45 : decode cX11_live 45 = .ok (.iconst 1, 1) := by decide +kernel
theorem dX11_live_46 : decode cX11_live 46 = .ok (.aload_n 0, 1) := by decide +kernel
theorem dX11_live_47 : decode cX11_live 47 = .ok (.getfield 50, 3) := by decide +kernel
theorem dX11_live_50 : decode cX11_live 50 = .ok (.getfield 273, 3) := by decide +kernel
theorem dX11_live_53 : decode cX11_live 53 = .ok (.ishl, 1) := by decide +kernel
theorem dX11_live_54 : decode cX11_live 54 = .ok (.if_icmp .ge 58, 3) := by decide +kernel
theorem dX11_live_57 : decode cX11_live 57 = .ok (.iload_n 1, 1) := by decide +kernel
theorem dX11_live_58 : decode cX11_live 58 = .ok (.aload_n 0, 1) := by decide +kernel
theorem dX11_live_59 : decode cX11_live 59 = .ok (.getfield 50, 3) := by decide +kernel
theorem dX11_live_62 : decode cX11_live 62 = .ok (.iload 4, 2) := by decide +kernel
theorem dX11_live_64 : decode cX11_live 64 = .ok (.invokevirtual 276, 3) := by decide +kernel
theorem dX11_live_67 : decode cX11_live 67 = .ok (.iconst (-1), 1) := by decide +kernel
theorem dX11_live_68 : decode cX11_live 68 = .ok (.ixor, 1) := by decide +kernel
theorem dX11_live_69 : decode cX11_live 69 = .ok (.iand, 1) := by decide +kernel
theorem dX11_live_70 : decode cX11_live 70 = .ok (.ifCond .ne 7, 3) := by decide +kernel
theorem dX11_live_73 : decode cX11_live 73 = .ok (.iconst 1, 1) := by decide +kernel
theorem dX11_live_74 : decode cX11_live 74 = .ok (.goto 4, 3) := by decide +kernel
theorem dX11_live_77 : decode cX11_live 77 = .ok (.iconst 0, 1) := by decide +kernel
theorem dX11_live_78 : decode cX11_live 78 = .ok (.istore 5, 2) := by decide +kernel
theorem dX11_live_80 : decode cX11_live 80 = .ok (.iload 5, 2) := by decide +kernel
theorem dX11_live_82 : decode cX11_live 82 = .ok (.ifCond .eq 24, 3) := by decide +kernel
theorem dX11_live_85 : decode cX11_live 85 = .ok (.iload_n 3, 1) := by decide +kernel
theorem dX11_live_86 : decode cX11_live 86 = .ok (.ldc 247, 2) := by decide +kernel
theorem dX11_live_88 : decode cX11_live 88 = .ok (.if_icmp .eq 15, 3) := by decide +kernel
theorem dX11_live_91 : decode cX11_live 91 = .ok (.iload 4, 2) := by decide +kernel
theorem dX11_live_93 : decode cX11_live 93 = .ok (.invokestatic 265, 3) := by decide +kernel
theorem dX11_live_96 : decode cX11_live 96 = .ok (.iload_n 3, 1) := by decide +kernel
theorem dX11_live_97 : decode cX11_live 97 = .ok (.invokestatic 265, 3) := by decide +kernel
theorem dX11_live_100 : decode cX11_live 100 = .ok (.if_icmp .ge 6, 3) := by decide +kernel
theorem dX11_live_103 : decode cX11_live 103 = .ok (.iload 4, 2) := by decide +kernel
theorem dX11_live_105 : decode cX11_live 105 = .ok (.istore_n 3, 1) := by decide +kernel
theorem dX11_live_106 : decode cX11_live 106 = .ok (.iinc 4 1, 3) := by decide +kernel
theorem dX11_live_109 : decode cX11_live 109 = .ok (.goto (-66), 3) := by decide +kernel
theorem dX11_live_112 : decode cX11_live 112 = .ok (.iload_n 3, 1) := by decide +kernel
theorem dX11_live_113 : decode cX11_live 113 = .ok (.ldc 247, 2) := by decide +kernel
theorem dX11_live_115 : decode cX11_live 115 = .ok (.if_icmp .eq 8, 3) := by decide +kernel
theorem dX11_live_118 : decode cX11_live 118 = .ok (.iload_n 2, 1) := by decide +kernel
theorem dX11_live_119 : decode cX11_live 119 = .ok (.iconst 1, 1) := by decide +kernel
theorem dX11_live_120 : decode cX11_live 120 = .ok (.if_icmp .ne 7, 3) := by decide +kernel
theorem dX11_live_123 : decode cX11_live 123 = .ok (.iload_n 3, 1) := by decide +kernel
theorem dX11_live_124 : decode cX11_live 124 = .ok (.goto 7, 3) := by decide +kernel
theorem dX11_live_127 : decode cX11_live 127 = .ok (.iload_n 3, 1) := by decide +kernel
theorem dX11_live_128 : decode cX11_live 128 = .ok (.invokestatic 265, 3) := by decide +kernel
theorem dX11_live_131 : decode cX11_live 131 = .ok (.ireturn, 1) := by decide +kernel
theorem dX11_makes_0 : decode cX11_makes 0 = .ok (.aload_n 0, 1) := by decide +kernel
theorem dX11_makes_1 : decode cX11_makes 1 = .ok (.getfield 50, 3) := by decide +kernel
theorem dX11_makes_4 : decode cX11_makes 4 = .ok (.getfield 170, 3) := by decide +kernel
theorem dX11_makes_7 : decode cX11_makes 7 = .ok (.ifCond .ne 6, 3) := by decide +kernel
theorem dX11_makes_10 : decode cX11_makes 10 = .ok (.ldc 162, 2) := by decide +kernel
theorem dX11_makes_12 : decode cX11_makes 12 = .ok (.ireturn, 1) := by decide +kernel
theorem dX11_makes_13 : decode cX11_makes 13 = .ok (.iload_n 1, 1) := by decide +kernel
theorem dX11_makes_14 : decode cX11_makes 14 = .ok (.invokestatic 174, 3) := by decide +kernel
theorem dX11_makes_17 : decode cX11_makes 17 = .ok (.ifCond .eq 11, 3) := by decide +kernel
theorem dX11_makes_20 : decode cX11_makes 20 = .ok (.aload_n 0, 1) := by decide +kernel
theorem dX11_makes_21 : decode cX11_makes 21 = .ok (.iload_n 1, 1) := by decide +kernel
theorem dX11_makes_22 : decode cX11_makes 22 = .ok (.invokevirtual 279, 3) := by decide +kernel
theorem dX11_makes_25 : decode cX11_makes 25 = .ok (.goto 5, 3) := by decide +kernel
theorem dX11_makes_28 : decode cX11_makes 28 = .ok (.ldc 88, 2) := by decide +kernel
theorem dX11_makes_30 : decode cX11_makes 30 = .ok (.ireturn, 1) := by decide +kernel
theorem dX11_best_0 : decode cX11_best 0 = .ok (.aload_n 0, 1) := by decide +kernel
theorem dX11_best_1 : decode cX11_best 1 = .ok (.getfield 50, 3) := by decide +kernel
theorem dX11_best_4 : decode cX11_best 4 = .ok (.getfield 170, 3) := by decide +kernel
theorem dX11_best_7 : decode cX11_best 7 = .ok (.ifCond .ne 6, 3) := by decide +kernel
theorem dX11_best_10 : decode cX11_best 10 = .ok (.ldc 162, 2) := by decide +kernel
theorem dX11_best_12 : decode cX11_best 12 = .ok (.ireturn, 1) := by decide +kernel
theorem dX11_best_13 : decode cX11_best 13 = .ok (.iload_n 1, 1) := by decide +kernel
theorem dX11_best_14 : decode cX11_best 14 = .ok (.invokestatic 204, 3) := by decide +kernel
theorem dX11_best_17 : decode cX11_best 17 = .ok (.ifCond .ne 6, 3) := by decide +kernel
theorem dX11_best_20 : decode cX11_best 20 = .ok (.ldc 88, 2) := by decide +kernel
theorem dX11_best_22 : decode cX11_best 22 = .ok (.ireturn, 1) := by decide +kernel
theorem dX11_best_23 : decode cX11_best 23 = .ok (.ldc 247, 2) := by decide +kernel
theorem dX11_best_25 : decode cX11_best 25 = .ok (.istore_n 2, 1) := by decide +kernel
theorem dX11_best_26 : decode cX11_best 26 = .ok (.ldc 247, 2) := by decide +kernel
theorem dX11_best_28 : decode cX11_best 28 = .ok (.istore_n 3, 1) := by decide +kernel
theorem dX11_best_29 : decode cX11_best 29 = .ok (.iconst 0, 1) := by decide +kernel
theorem dX11_best_30 : decode cX11_best 30 = .ok (.istore 4, 2) := by decide +kernel
theorem dX11_best_32 : decode cX11_best 32 = .ok (.iload 4, 2) := by decide +kernel
theorem dX11_best_34 : decode cX11_best 34 = .ok (.bipush 8, 2) := by decide +kernel
theorem dX11_best_36 : decode cX11_best 36 = .ok (.if_icmp .ge 29, 3) := by decide +kernel
theorem dX11_best_39 : decode cX11_best 39 = .ok (.aload_n 0, 1) := by decide +kernel
theorem dX11_best_40 : decode cX11_best 40 = .ok (.iload 4, 2) := by decide +kernel
theorem dX11_best_42 : decode cX11_best 42 = .ok (.invokevirtual 279, 3) := by decide +kernel
theorem dX11_best_45 : decode cX11_best 45 = .ok (.istore 5, 2) := by decide +kernel
theorem dX11_best_47 : decode cX11_best 47 = .ok (.iload 5, 2) := by decide +kernel
theorem dX11_best_49 : decode cX11_best 49 = .ok (.iload_n 3, 1) := by decide +kernel
theorem dX11_best_50 : decode cX11_best 50 = .ok (.if_icmp .le 9, 3) := by decide +kernel
theorem dX11_best_53 : decode cX11_best 53 = .ok (.iload 4, 2) := by decide +kernel
theorem dX11_best_55 : decode cX11_best 55 = .ok (.istore_n 2, 1) := by decide +kernel
theorem dX11_best_56 : decode cX11_best 56 = .ok (.iload 5, 2) := by decide +kernel
theorem dX11_best_58 : decode cX11_best 58 = .ok (.istore_n 3, 1) := by decide +kernel
theorem dX11_best_59 : decode cX11_best 59 = .ok (.iinc 4 1, 3) := by decide +kernel
theorem dX11_best_62 : decode cX11_best 62 = .ok (.goto (-30), 3) := by decide +kernel
theorem dX11_best_65 : decode cX11_best 65 = .ok (.iload_n 1, 1) := by decide +kernel
theorem dX11_best_66 : decode cX11_best 66 = .ok (.ifCond .ne 7, 3) := by decide +kernel
theorem dX11_best_69 : decode cX11_best 69 = .ok (.iload_n 2, 1) := by decide +kernel
theorem dX11_best_70 : decode cX11_best 70 = .ok (.goto 4, 3) := by decide +kernel
theorem dX11_best_73 : decode cX11_best 73 = .ok (.iload_n 3, 1) := by decide +kernel
theorem dX11_best_74 : decode cX11_best 74 = .ok (.ireturn, 1) := by decide +kernel
theorem dX11_from_0 : decode cX11_from 0 = .ok (.aload_n 0, 1) := by decide +kernel
theorem dX11_from_1 : decode cX11_from 1 = .ok (.getfield 50, 3) := by decide +kernel
theorem dX11_from_4 : decode cX11_from 4 = .ok (.getfield 170, 3) := by decide +kernel
theorem dX11_from_7 : decode cX11_from 7 = .ok (.ifCond .ne 6, 3) := by decide +kernel
theorem dX11_from_10 : decode cX11_from 10 = .ok (.ldc 162, 2) := by decide +kernel
theorem dX11_from_12 : decode cX11_from 12 = .ok (.ireturn, 1) := by decide +kernel
theorem dX11_from_13 : decode cX11_from 13 = .ok (.iload_n 1, 1) := by decide +kernel
theorem dX11_from_14 : decode cX11_from 14 = .ok (.invokestatic 84, 3) := by decide +kernel
theorem dX11_from_17 : decode cX11_from 17 = .ok (.ifCond .ne 6, 3) := by decide +kernel
theorem dX11_from_20 : decode cX11_from 20 = .ok (.ldc 88, 2) := by decide +kernel
theorem dX11_from_22 : decode cX11_from 22 = .ok (.ireturn, 1) := by decide +kernel
theorem dX11_from_23 : decode cX11_from 23 = .ok (.aload_n 0, 1) := by decide +kernel
theorem dX11_from_24 : decode cX11_from 24 = .ok (.getfield 10, 3) := by decide +kernel
theorem dX11_from_27 : decode cX11_from 27 = .ok (.iload_n 1, 1) := by decide +kernel
theorem dX11_from_28 : decode cX11_from 28 = .ok (.iload_n 2, 1) := by decide +kernel
theorem dX11_from_29 : decode cX11_from 29 = .ok (.iconst 1, 1) := by decide +kernel
theorem dX11_from_30 : decode cX11_from 30 = .ok (.invokevirtual 100, 3) := by decide +kernel
theorem dX11_from_33 : decode cX11_from 33 = .ok (.istore_n 3, 1) := by decide +kernel
theorem dX11_from_34 : decode cX11_from 34 = .ok (.iload_n 3, 1) := by decide +kernel
theorem dX11_from_35 : decode cX11_from 35 = .ok (.ifCond .eq 9, 3) := by decide +kernel
theorem dX11_from_38 : decode cX11_from 38 = .ok (.aload_n 0, 1) := by decide +kernel
theorem dX11_from_39 : decode cX11_from 39 = .ok (.iload_n 3, 1) := by decide +kernel
theorem dX11_from_40 : decode cX11_from 40 = .ok (.invokevirtual 89, 3) := by decide +kernel
theorem dX11_from_43 : decode cX11_from 43 = .ok (.ireturn, 1) := by decide +kernel
theorem dX11_from_44 : decode cX11_from 44 = .ok (.aload_n 0, 1) := by decide +kernel
theorem dX11_from_45 : decode cX11_from 45 = .ok (.getfield 10, 3) := by decide +kernel
theorem dX11_from_48 : decode cX11_from 48 = .ok (.getfield 117, 3) := by decide +kernel
theorem dX11_from_51 : decode cX11_from 51 = .ok (.iload_n 1, 1) := by decide +kernel
theorem dX11_from_52 : decode cX11_from 52 = .ok (.aaload, 1) := by decide +kernel
theorem dX11_from_53 : decode cX11_from 53 = .ok (.iload_n 2, 1) := by decide +kernel
theorem dX11_from_54 : decode cX11_from 54 = .ok (.iaload, 1) := by decide +kernel
theorem dX11_from_55 : decode cX11_from 55 = .ok (.istore 4, 2) := by decide +kernel
theorem dX11_from_57 : decode cX11_from 57 = .ok (.iconst 0, 1) := by decide +kernel
theorem dX11_from_58 : decode cX11_from 58 = .ok (.istore 5, 2) := by decide +kernel
theorem dX11_from_60 : decode cX11_from 60 = .ok (.iconst 0, 1) := by decide +kernel
theorem dX11_from_61 : decode cX11_from 61 = .ok (.istore 6, 2) := by decide +kernel
theorem dX11_from_63 : decode cX11_from 63 = .ok (.iload 6, 2) := by decide +kernel
theorem dX11_from_65 : decode cX11_from 65 = .ok (.bipush 8, 2) := by decide +kernel
theorem dX11_from_67 : decode cX11_from 67 = .ok (.if_icmp .ge 50, 3) := by decide +kernel
theorem dX11_from_70 : decode cX11_from 70 = .ok (.aload_n 0, 1) := by decide +kernel
theorem dX11_from_71 : decode cX11_from 71 = .ok (.getfield 69, 3) := by decide +kernel
theorem dX11_from_74 : decode cX11_from 74 = .ok (.aload_n 0, 1) := by decide +kernel
theorem dX11_from_75 : decode cX11_from 75 = .ok (.getfield 50, 3) := by decide +kernel
theorem dX11_from_78 : decode cX11_from 78 = .ok (.iload 6, 2) := by decide +kernel
theorem dX11_from_80 : decode cX11_from 80 = .ok (.invokevirtual 177, 3) := by decide +kernel
theorem dX11_from_83 : decode cX11_from 83 = .ok (.ifCond .eq 28, 3) := by decide +kernel
theorem dX11_from_86 : decode cX11_from 86 = .ok (.aload_n 0, 1) := by decide +kernel
theorem dX11_from_87 : decode cX11_from 87 = .ok (.getfield 50, 3) := by decide +kernel
theorem dX11_from_90 : decode cX11_from 90 = .ok (.aload_n 0, 1) := by decide +kernel
theorem dX11_from_91 : decode cX11_from 91 = .ok (.getfield 69, 3) := by decide +kernel
theorem dX11_from_94 : decode cX11_from 94 = .ok (.invokevirtual 282, 3) := by decide +kernel
theorem dX11_from_97 : decode cX11_from 97 = .ok (.iload 4, 2) := by decide +kernel
theorem dX11_from_99 : decode cX11_from 99 = .ok (.if_icmp .ne 12, 3) := by decide +kernel
theorem dX11_from_102 : decode cX11_from 102 = .ok (.iload 5, 2) := by decide +kernel
theorem dX11_from_104 : decode cX11_from 104 = .ok (.iconst 1, 1) := by decide +kernel
theorem dX11_from_105 : decode cX11_from 105 = .ok (.iload 6, 2) := by decide +kernel
theorem dX11_from_107 : decode cX11_from 107 = .ok (.ishl, 1) := by decide +kernel
theorem dX11_from_108 : decode cX11_from 108 = .ok (.ior, 1) := by decide +kernel
theorem dX11_from_109 : decode cX11_from 109 = .ok (.istore 5, 2) := by decide +kernel
theorem dX11_from_111 : decode cX11_from 111 = .ok (.iinc 6 1, 3) := by decide +kernel
theorem dX11_from_114 : decode cX11_from 114 = .ok (.goto (-51), 3) := by decide +kernel
theorem dX11_from_117 : decode cX11_from 117 = .ok (.aload_n 0, 1) := by decide +kernel
theorem dX11_from_118 : decode cX11_from 118 = .ok (.iload 5, 2) := by decide +kernel
theorem dX11_from_120 : decode cX11_from 120 = .ok (.invokevirtual 97, 3) := by decide +kernel
theorem dX11_from_123 : decode cX11_from 123 = .ok (.ireturn, 1) := by decide +kernel
theorem dX11_who_0 : decode cX11_who 0 = .ok (.aload_n 0, 1) := by decide +kernel
theorem dX11_who_1 : decode cX11_who 1 = .ok (.getfield 50, 3) := by decide +kernel
theorem dX11_who_4 : decode cX11_who 4 = .ok (.iload_n 1, 1) := by decide +kernel
theorem dX11_who_5 : decode cX11_who 5 = .ok (.invokevirtual 214, 3) := by decide +kernel
theorem dX11_who_8 : decode cX11_who 8 = .ok (.ifCond .eq 22, 3) := by decide +kernel
theorem dX11_who_11 : decode cX11_who 11 = .ok (.iload_n 2, 1) := by decide +kernel
theorem dX11_who_12 : decode cX11_who 12 = .ok (.invokestatic 84, 3) := by decide +kernel
theorem dX11_who_15 : decode cX11_who 15 = .ok (.ifCond .eq 15, 3) := by decide +kernel
theorem dX11_who_18 : decode cX11_who 18 = .ok (.iload 4, 2) := by decide +kernel
theorem dX11_who_20 : decode cX11_who 20 = .ok (.iconst 1, 1) := by decide +kernel
theorem dX11_who_21 : decode cX11_who 21 = .ok (.if_icmp .lt 9, 3) := by decide +kernel
theorem dX11_who_24 : decode cX11_who 24 = .ok (.iload 4, 2) := by decide +kernel
theorem dX11_who_26 : decode cX11_who 26 = .ok (.iconst 4, 1) := by decide +kernel
theorem dX11_who_27 : decode cX11_who 27 = .ok (.if_icmp .le 6, 3) := by decide +kernel
theorem dX11_who_30 : decode cX11_who 30 = .ok (.ldc 88, 2) := by decide +kernel
theorem dX11_who_32 : decode cX11_who 32 = .ok (.ireturn, 1) := by decide +kernel
theorem dX11_who_33 : decode cX11_who 33 = .ok (.aload_n 0, 1) := by decide +kernel
theorem dX11_who_34 : decode cX11_who 34 = .ok (.getfield 10, 3) := by decide +kernel
theorem dX11_who_37 : decode cX11_who 37 = .ok (.iload_n 2, 1) := by decide +kernel
theorem dX11_who_38 : decode cX11_who 38 = .ok (.iload_n 3, 1) := by decide +kernel
theorem dX11_who_39 : decode cX11_who 39 = .ok (.iconst 2, 1) := by decide +kernel
theorem dX11_who_40 : decode cX11_who 40 = .ok (.iload 4, 2) := by decide +kernel
theorem dX11_who_42 : decode cX11_who 42 = .ok (.imul, 1) := by decide +kernel
theorem dX11_who_43 : decode cX11_who 43 = .ok (.invokevirtual 100, 3) := by decide +kernel
theorem dX11_who_46 : decode cX11_who 46 = .ok (.istore 5, 2) := by decide +kernel
theorem dX11_who_48 : decode cX11_who 48 = .ok (.iload 5, 2) := by decide +kernel
theorem dX11_who_50 : decode cX11_who 50 = .ok (.ifCond .eq 10, 3) := by decide +kernel
theorem dX11_who_53 : decode cX11_who 53 = .ok (.aload_n 0, 1) := by decide +kernel
theorem dX11_who_54 : decode cX11_who 54 = .ok (.iload 5, 2) := by decide +kernel
theorem dX11_who_56 : decode cX11_who 56 = .ok (.invokevirtual 89, 3) := by decide +kernel
theorem dX11_who_59 : decode cX11_who 59 = .ok (.ireturn, 1) := by decide +kernel
theorem dX11_who_60 : decode cX11_who 60 = .ok (.iconst 0, 1) := by decide +kernel
theorem dX11_who_61 : decode cX11_who 61 = .ok (.istore 6, 2) := by decide +kernel
theorem dX11_who_63 : decode cX11_who 63 = .ok (.iload 6, 2) := by decide +kernel
theorem dX11_who_65 : decode cX11_who 65 = .ok (.iload 4, 2) := by decide +kernel
theorem dX11_who_67 : decode cX11_who 67 = .ok (.if_icmp .ge 34, 3) := by decide +kernel
theorem dX11_who_70 : decode cX11_who 70 = .ok (.aload_n 0, 1) := by decide +kernel
theorem dX11_who_71 : decode cX11_who 71 = .ok (.getfield 10, 3) := by decide +kernel
theorem dX11_who_74 : decode cX11_who 74 = .ok (.getfield 117, 3) := by decide +kernel
theorem dX11_who_77 : decode cX11_who 77 = .ok (.iload_n 2, 1) := by decide +kernel
theorem dX11_who_78 : decode cX11_who 78 = .ok (.aaload, 1) := by decide +kernel
theorem dX11_who_79 : decode cX11_who 79 = .ok (.iload_n 3, 1) := by decide +kernel
theorem dX11_who_80 : decode cX11_who 80 = .ok (.iconst 2, 1) := by decide +kernel
theorem dX11_who_81 : decode cX11_who 81 = .ok (.iload 6, 2) := by decide +kernel
theorem dX11_who_83 : decode cX11_who 83 = .ok (.imul, 1) := by decide +kernel
theorem dX11_who_84 : decode cX11_who 84 = .ok (.iadd, 1) := by decide +kernel
theorem dX11_who_85 : decode cX11_who 85 = .ok (.iaload, 1) := by decide +kernel
theorem dX11_who_86 : decode cX11_who 86 = .ok (.invokestatic 174, 3) := by decide +kernel
theorem dX11_who_89 : decode cX11_who 89 = .ok (.ifCond .ne 6, 3) := by decide +kernel
theorem dX11_who_92 : decode cX11_who 92 = .ok (.ldc 88, 2) := by decide +kernel
theorem dX11_who_94 : decode cX11_who 94 = .ok (.ireturn, 1) := by decide +kernel
theorem dX11_who_95 : decode cX11_who 95 = .ok (.iinc 6 1, 3) := by decide +kernel
theorem dX11_who_98 : decode cX11_who 98 = .ok (.goto (-35), 3) := by decide +kernel
theorem dX11_who_101 : decode cX11_who 101 = .ok (.aload_n 0, 1) := by decide +kernel
theorem dX11_who_102 : decode cX11_who 102 = .ok (.aload_n 0, 1) := by decide +kernel
theorem dX11_who_103 : decode cX11_who 103 = .ok (.iload_n 1, 1) := by decide +kernel
theorem dX11_who_104 : decode cX11_who 104 = .ok (.aload_n 0, 1) := by decide +kernel
theorem dX11_who_105 : decode cX11_who 105 = .ok (.getfield 10, 3) := by decide +kernel
theorem dX11_who_108 : decode cX11_who 108 = .ok (.getfield 117, 3) := by decide +kernel
theorem dX11_who_111 : decode cX11_who 111 = .ok (.iload_n 2, 1) := by decide +kernel
theorem dX11_who_112 : decode cX11_who 112 = .ok (.aaload, 1) := by decide +kernel
theorem dX11_who_113 : decode cX11_who 113 = .ok (.iload_n 3, 1) := by decide +kernel
theorem dX11_who_114 : decode cX11_who 114 = .ok (.iload 4, 2) := by decide +kernel
theorem dX11_who_116 : decode cX11_who 116 = .ok (.invokevirtual 286, 3) := by decide +kernel
theorem dX11_who_119 : decode cX11_who 119 = .ok (.invokevirtual 97, 3) := by decide +kernel
theorem dX11_who_122 : decode cX11_who 122 = .ok (.ireturn, 1) := by decide +kernel
theorem dX11_far_0 : decode cX11_far 0 = .ok (.aload_n 0, 1) := by decide +kernel
theorem dX11_far_1 : decode cX11_far 1 = .ok (.getfield 50, 3) := by decide +kernel
theorem dX11_far_4 : decode cX11_far 4 = .ok (.getfield 170, 3) := by decide +kernel
theorem dX11_far_7 : decode cX11_far 7 = .ok (.ifCond .ne 6, 3) := by decide +kernel
theorem dX11_far_10 : decode cX11_far 10 = .ok (.ldc 162, 2) := by decide +kernel
theorem dX11_far_12 : decode cX11_far 12 = .ok (.ireturn, 1) := by decide +kernel
theorem dX11_far_13 : decode cX11_far 13 = .ok (.iload_n 1, 1) := by decide +kernel
theorem dX11_far_14 : decode cX11_far 14 = .ok (.invokestatic 174, 3) := by decide +kernel
theorem dX11_far_17 : decode cX11_far 17 = .ok (.ifCond .ne 6, 3) := by decide +kernel
theorem dX11_far_20 : decode cX11_far 20 = .ok (.ldc 88, 2) := by decide +kernel
theorem dX11_far_22 : decode cX11_far 22 = .ok (.ireturn, 1) := by decide +kernel
theorem dX11_far_23 : decode cX11_far 23 = .ok (.aload_n 0, 1) := by decide +kernel
theorem dX11_far_24 : decode cX11_far 24 = .ok (.getfield 69, 3) := by decide +kernel
theorem dX11_far_27 : decode cX11_far 27 = .ok (.aload_n 0, 1) := by decide +kernel
theorem dX11_far_28 : decode cX11_far 28 = .ok (.getfield 50, 3) := by decide +kernel
theorem dX11_far_31 : decode cX11_far 31 = .ok (.aload_n 0, 1) := by decide +kernel
theorem dX11_far_32 : decode cX11_far 32 = .ok (.getfield 50, 3) := by decide +kernel
theorem dX11_far_35 : decode cX11_far 35 = .ok (.invokevirtual 270, 3) := by decide +kernel
theorem dX11_far_38 : decode cX11_far 38 = .ok (.iload_n 1, 1) := by decide +kernel
theorem dX11_far_39 : decode cX11_far 39 = .ok (.invokevirtual 251, 3) := by decide +kernel
theorem dX11_far_42 : decode cX11_far 42 = .ok (.ifCond .eq 13, 3) := by decide +kernel
theorem dX11_far_45 : decode cX11_far 45 = .ok (.aload_n 0, 1) := by decide +kernel
theorem dX11_far_46 : decode cX11_far 46 = .ok (.getfield 69, 3) := by decide +kernel
theorem dX11_far_49 : decode cX11_far 49 = .ok (.getfield 255, 3) := by decide +kernel
theorem dX11_far_52 : decode cX11_far 52 = .ok (.goto 5, 3) := by decide +kernel
theorem dX11_far_55 : decode cX11_far 55 = .ok (.ldc 247, 2) := by decide +kernel
theorem dX11_far_57 : decode cX11_far 57 = .ok (.ireturn, 1) := by decide +kernel
theorem dX11_pairs_0 : decode cX11_pairs 0 = .ok (.aload_n 0, 1) := by decide +kernel
theorem dX11_pairs_1 : decode cX11_pairs 1 = .ok (.getfield 50, 3) := by decide +kernel
theorem dX11_pairs_4 : decode cX11_pairs 4 = .ok (.getfield 170, 3) := by decide +kernel
theorem dX11_pairs_7 : decode cX11_pairs 7 = .ok (.ifCond .ne 6, 3) := by decide +kernel
theorem dX11_pairs_10 : decode cX11_pairs 10 = .ok (.ldc 162, 2) := by decide +kernel
theorem dX11_pairs_12 : decode cX11_pairs 12 = .ok (.ireturn, 1) := by decide +kernel
theorem dX11_pairs_13 : decode cX11_pairs 13 = .ok (.iconst 0, 1) := by decide +kernel
theorem dX11_pairs_14 : decode cX11_pairs 14 = .ok (.istore_n 1, 1) := by decide +kernel
theorem dX11_pairs_15 : decode cX11_pairs 15 = .ok (.iconst 0, 1) := by decide +kernel
theorem dX11_pairs_16 : decode cX11_pairs 16 = .ok (.istore_n 2, 1) := by decide +kernel
theorem dX11_pairs_17 : decode cX11_pairs 17 = .ok (.iload_n 2, 1) := by decide +kernel
theorem dX11_pairs_18 : decode cX11_pairs 18 = .ok (.aload_n 0, 1) := by decide +kernel
theorem dX11_pairs_19 : decode cX11_pairs 19 = .ok (.getfield 50, 3) := by decide +kernel
theorem dX11_pairs_22 : decode cX11_pairs 22 = .ok (.getfield 273, 3) := by decide +kernel
theorem dX11_pairs_25 : decode cX11_pairs 25 = .ok (.if_icmp .ge 61, 3) := by decide +kernel
theorem dX11_pairs_28 : decode cX11_pairs 28 = .ok (.aload_n 0, 1) := by decide +kernel
theorem dX11_pairs_29 : decode cX11_pairs 29 = .ok (.getfield 50, 3) := by decide +kernel
theorem dX11_pairs_32 : decode cX11_pairs 32 = .ok (.iload_n 2, 1) := by decide +kernel
theorem dX11_pairs_33 : decode cX11_pairs 33 = .ok (.invokevirtual 229, 3) := by decide +kernel
theorem dX11_pairs_36 : decode cX11_pairs 36 = .ok (.istore_n 3, 1) := by decide +kernel
theorem dX11_pairs_37 : decode cX11_pairs 37 = .ok (.iload_n 2, 1) := by decide +kernel
theorem dX11_pairs_38 : decode cX11_pairs 38 = .ok (.iconst 1, 1) := by decide +kernel
theorem dX11_pairs_39 : decode cX11_pairs 39 = .ok (.iadd, 1) := by decide +kernel
theorem dX11_pairs_40 : decode cX11_pairs 40 = .ok (.istore 4, 2) := by decide +kernel
theorem dX11_pairs_42 : decode cX11_pairs 42 = .ok (.iload 4, 2) := by decide +kernel
theorem dX11_pairs_44 : decode cX11_pairs 44 = .ok (.aload_n 0, 1) := by decide +kernel
theorem dX11_pairs_45 : decode cX11_pairs 45 = .ok (.getfield 50, 3) := by decide +kernel
theorem dX11_pairs_48 : decode cX11_pairs 48 = .ok (.getfield 273, 3) := by decide +kernel
theorem dX11_pairs_51 : decode cX11_pairs 51 = .ok (.if_icmp .ge 29, 3) := by decide +kernel
theorem dX11_pairs_54 : decode cX11_pairs 54 = .ok (.iload_n 3, 1) := by decide +kernel
theorem dX11_pairs_55 : decode cX11_pairs 55 = .ok (.ifCond .eq 25, 3) := by decide +kernel
theorem dX11_pairs_58 : decode cX11_pairs 58 = .ok (.aload_n 0, 1) := by decide +kernel
theorem dX11_pairs_59 : decode cX11_pairs 59 = .ok (.getfield 50, 3) := by decide +kernel
theorem dX11_pairs_62 : decode cX11_pairs 62 = .ok (.iload 4, 2) := by decide +kernel
theorem dX11_pairs_64 : decode cX11_pairs 64 = .ok (.invokevirtual 229, 3) := by decide +kernel
theorem dX11_pairs_67 : decode cX11_pairs 67 = .ok (.iload_n 3, 1) := by decide +kernel
theorem dX11_pairs_68 : decode cX11_pairs 68 = .ok (.if_icmp .ne 6, 3) := by decide +kernel
theorem dX11_pairs_71 : decode cX11_pairs 71 = .ok (.iinc 1 1, 3) := by decide +kernel
theorem dX11_pairs_74 : decode cX11_pairs 74 = .ok (.iinc 4 1, 3) := by decide +kernel
theorem dX11_pairs_77 : decode cX11_pairs 77 = .ok (.goto (-35), 3) := by decide +kernel
theorem dX11_pairs_80 : decode cX11_pairs 80 = .ok (.iinc 2 1, 3) := by decide +kernel
theorem dX11_pairs_83 : decode cX11_pairs 83 = .ok (.goto (-66), 3) := by decide +kernel
theorem dX11_pairs_86 : decode cX11_pairs 86 = .ok (.iload_n 1, 1) := by decide +kernel
theorem dX11_pairs_87 : decode cX11_pairs 87 = .ok (.ireturn, 1) := by decide +kernel
theorem dX11_locked_0 : decode cX11_locked 0 = .ok (.aload_n 0, 1) := by decide +kernel
theorem dX11_locked_1 : decode cX11_locked 1 = .ok (.getfield 50, 3) := by decide +kernel
theorem dX11_locked_4 : decode cX11_locked 4 = .ok (.getfield 170, 3) := by decide +kernel
theorem dX11_locked_7 : decode cX11_locked 7 = .ok (.ifCond .ne 7, 3) := by decide +kernel
theorem dX11_locked_10 : decode cX11_locked 10 = .ok (.ldc2_w 290, 3) := by decide +kernel
theorem dX11_locked_13 : decode cX11_locked 13 = .ok (.lreturn, 1) := by decide +kernel
theorem dX11_locked_14 : decode cX11_locked 14 = .ok (.iload_n 1, 1) := by decide +kernel
theorem dX11_locked_15 : decode cX11_locked 15 = .ok (.invokestatic 174, 3) := by decide +kernel
theorem dX11_locked_18 : decode cX11_locked 18 = .ok (.ifCond .eq 20, 3) := by decide +kernel
theorem dX11_locked_21 : decode cX11_locked 21 = .ok (.iload_n 2, 1) := by decide +kernel
theorem dX11_locked_22 : decode cX11_locked 22 = .ok (.ifCond .lt 16, 3) := by decide +kernel
theorem dX11_locked_25 : decode cX11_locked 25 = .ok (.iload_n 2, 1) := by decide +kernel
theorem dX11_locked_26 : decode cX11_locked 26 = .ok (.bipush 10, 2) := by decide +kernel
theorem dX11_locked_28 : decode cX11_locked 28 = .ok (.if_icmp .gt 10, 3) := by decide +kernel
theorem dX11_locked_31 : decode cX11_locked 31 = .ok (.iload_n 3, 1) := by decide +kernel
theorem dX11_locked_32 : decode cX11_locked 32 = .ok (.invokestatic 204, 3) := by decide +kernel
theorem dX11_locked_35 : decode cX11_locked 35 = .ok (.ifCond .ne 7, 3) := by decide +kernel
theorem dX11_locked_38 : decode cX11_locked 38 = .ok (.ldc2_w 292, 3) := by decide +kernel
theorem dX11_locked_41 : decode cX11_locked 41 = .ok (.lreturn, 1) := by decide +kernel
theorem dX11_locked_42 : decode cX11_locked 42 = .ok (.aload_n 0, 1) := by decide +kernel
theorem dX11_locked_43 : decode cX11_locked 43 = .ok (.getfield 69, 3) := by decide +kernel
theorem dX11_locked_46 : decode cX11_locked 46 = .ok (.aload_n 0, 1) := by decide +kernel
theorem dX11_locked_47 : decode cX11_locked 47 = .ok (.getfield 50, 3) := by decide +kernel
theorem dX11_locked_50 : decode cX11_locked 50 = .ok (.iload_n 1, 1) := by decide +kernel
theorem dX11_locked_51 : decode cX11_locked 51 = .ok (.iload_n 2, 1) := by decide +kernel
theorem dX11_locked_52 : decode cX11_locked 52 = .ok (.invokevirtual 294, 3) := by decide +kernel
theorem dX11_locked_55 : decode cX11_locked 55 = .ok (.lstore 4, 2) := by decide +kernel
theorem dX11_locked_57 : decode cX11_locked 57 = .ok (.aload_n 0, 1) := by decide +kernel
theorem dX11_locked_58 : decode cX11_locked 58 = .ok (.getfield 69, 3) := by decide +kernel
theorem dX11_locked_61 : decode cX11_locked 61 = .ok (.getfield 298, 3) := by decide +kernel
theorem dX11_locked_64 : decode cX11_locked 64 = .ok (.aload_n 0, 1) := by decide +kernel
theorem dX11_locked_65 : decode cX11_locked 65 = .ok (.getfield 50, 3) := by decide +kernel
theorem dX11_locked_68 : decode cX11_locked 68 = .ok (.invokevirtual 248, 3) := by decide +kernel
theorem dX11_locked_71 : decode cX11_locked 71 = .ok (.invokestatic 265, 3) := by decide +kernel
theorem dX11_locked_74 : decode cX11_locked 74 = .ok (.laload, 1) := by decide +kernel
theorem dX11_locked_75 : decode cX11_locked 75 = .ok (.lstore 6, 2) := by decide +kernel
theorem dX11_locked_77 : decode cX11_locked 77 = .ok (.lload 6, 2) := by decide +kernel
theorem dX11_locked_79 : decode cX11_locked 79 = .ok (.lload 4, 2) := by decide +kernel
theorem dX11_locked_81 : decode cX11_locked 81 = .ok (.invokestatic 302, 3) := by decide +kernel
theorem dX11_locked_84 : decode cX11_locked 84 = .ok (.lstore 8, 2) := by decide +kernel
theorem dX11_locked_86 : decode cX11_locked 86 = .ok (.iload_n 3, 1) := by decide +kernel
theorem dX11_locked_87 : decode cX11_locked 87 = .ok (.ifCond .ne 8, 3) := by decide +kernel
theorem dX11_locked_90 : decode cX11_locked 90 = .ok (.lload 4, 2) := by decide +kernel
theorem dX11_locked_92 : decode cX11_locked 92 = .ok (.goto 5, 3) := by decide +kernel
theorem dX11_locked_95 : decode cX11_locked 95 = .ok (.lload 6, 2) := by decide +kernel
theorem dX11_locked_97 : decode cX11_locked 97 = .ok (.lload 8, 2) := by decide +kernel
theorem dX11_locked_99 : decode cX11_locked 99 = .ok (.ldiv, 1) := by decide +kernel
theorem dX11_locked_100 : decode cX11_locked 100 = .ok (.lreturn, 1) := by decide +kernel
theorem dX11_drawn_0 : decode cX11_drawn 0 = .ok (.aload_n 0, 1) := by decide +kernel
theorem dX11_drawn_1 : decode cX11_drawn 1 = .ok (.getfield 50, 3) := by decide +kernel
theorem dX11_drawn_4 : decode cX11_drawn 4 = .ok (.getfield 170, 3) := by decide +kernel
theorem dX11_drawn_7 : decode cX11_drawn 7 = .ok (.ifCond .ne 6, 3) := by decide +kernel
theorem dX11_drawn_10 : decode cX11_drawn 10 = .ok (.ldc 162, 2) := by decide +kernel
theorem dX11_drawn_12 : decode cX11_drawn 12 = .ok (.ireturn, 1) := by decide +kernel
theorem dX11_drawn_13 : decode cX11_drawn 13 = .ok (.iload_n 1, 1) := by decide +kernel
theorem dX11_drawn_14 : decode cX11_drawn 14 = .ok (.ifCond .lt 28, 3) := by decide +kernel
theorem dX11_drawn_17 : decode cX11_drawn 17 = .ok (.iload_n 1, 1) := by decide +kernel
theorem dX11_drawn_18 : decode cX11_drawn 18 = .ok (.bipush 60, 2) := by decide +kernel
theorem dX11_drawn_20 : decode cX11_drawn 20 = .ok (.if_icmp .gt 22, 3) := by decide +kernel
theorem dX11_drawn_23 : decode cX11_drawn 23 = .ok (.iload_n 2, 1) := by decide +kernel
theorem dX11_drawn_24 : decode cX11_drawn 24 = .ok (.iconst 1, 1) := by decide +kernel
theorem dX11_drawn_25 : decode cX11_drawn 25 = .ok (.if_icmp .lt 17, 3) := by decide +kernel
theorem dX11_drawn_28 : decode cX11_drawn 28 = .ok (.iload_n 2, 1) := by decide +kernel
theorem dX11_drawn_29 : decode cX11_drawn 29 = .ok (.ldc_w 306, 3) := by decide +kernel
theorem dX11_drawn_32 : decode cX11_drawn 32 = .ok (.if_icmp .gt 10, 3) := by decide +kernel
theorem dX11_drawn_35 : decode cX11_drawn 35 = .ok (.iload_n 3, 1) := by decide +kernel
theorem dX11_drawn_36 : decode cX11_drawn 36 = .ok (.invokestatic 204, 3) := by decide +kernel
theorem dX11_drawn_39 : decode cX11_drawn 39 = .ok (.ifCond .ne 6, 3) := by decide +kernel
theorem dX11_drawn_42 : decode cX11_drawn 42 = .ok (.ldc 88, 2) := by decide +kernel
theorem dX11_drawn_44 : decode cX11_drawn 44 = .ok (.ireturn, 1) := by decide +kernel
theorem dX11_drawn_45 : decode cX11_drawn 45 = .ok (.aload_n 0, 1) := by decide +kernel
theorem dX11_drawn_46 : decode cX11_drawn 46 = .ok (.getfield 54, 3) := by decide +kernel
theorem dX11_drawn_49 : decode cX11_drawn 49 = .ok (.aload_n 0, 1) := by decide +kernel
theorem dX11_drawn_50 : decode cX11_drawn 50 = .ok (.getfield 50, 3) := by decide +kernel
theorem dX11_drawn_53 : decode cX11_drawn 53 = .ok (.invokevirtual 146, 3) := by decide +kernel
theorem dX11_drawn_56 : decode cX11_drawn 56 = .ok (.iconst 0, 1) := by decide +kernel
theorem dX11_drawn_57 : decode cX11_drawn 57 = .ok (.istore 4, 2) := by decide +kernel
theorem dX11_drawn_59 : decode cX11_drawn 59 = .ok (.iload_n 2, 1) := by decide +kernel
theorem dX11_drawn_60 : decode cX11_drawn 60 = .ok (.i2l, 1) := by decide +kernel
theorem dX11_drawn_61 : decode cX11_drawn 61 = .ok (.lstore 5, 2) := by decide +kernel
theorem dX11_drawn_63 : decode cX11_drawn 63 = .ok (.iconst 0, 1) := by decide +kernel
theorem dX11_drawn_64 : decode cX11_drawn 64 = .ok (.istore 7, 2) := by decide +kernel
theorem dX11_drawn_66 : decode cX11_drawn 66 = .ok (.iload 7, 2) := by decide +kernel
theorem dX11_drawn_68 : decode cX11_drawn 68 = .ok (.iload_n 1, 1) := by decide +kernel
theorem dX11_drawn_69 : decode cX11_drawn 69 = .ok (.if_icmp .ge 63, 3) := by decide +kernel
theorem dX11_drawn_72 : decode cX11_drawn 72 = .ok (.lload 5, 2) := by decide +kernel
theorem dX11_drawn_74 : decode cX11_drawn 74 = .ok (.ldc2_w 307, 3) := by decide +kernel
theorem dX11_drawn_77 : decode cX11_drawn 77 = .ok (.lmul, 1) := by decide +kernel
theorem dX11_drawn_78 : decode cX11_drawn 78 = .ok (.ldc2_w 309, 3) := by decide +kernel
theorem dX11_drawn_81 : decode cX11_drawn 81 = .ok (.lrem, 1) := by decide +kernel
theorem dX11_drawn_82 : decode cX11_drawn 82 = .ok (.lstore 5, 2) := by decide +kernel
theorem dX11_drawn_84 : decode cX11_drawn 84 = .ok (.aload_n 0, 1) := by decide +kernel
theorem dX11_drawn_85 : decode cX11_drawn 85 = .ok (.getfield 69, 3) := by decide +kernel
theorem dX11_drawn_88 : decode cX11_drawn 88 = .ok (.aload_n 0, 1) := by decide +kernel
theorem dX11_drawn_89 : decode cX11_drawn 89 = .ok (.getfield 54, 3) := by decide +kernel
theorem dX11_drawn_92 : decode cX11_drawn 92 = .ok (.lload 5, 2) := by decide +kernel
theorem dX11_drawn_94 : decode cX11_drawn 94 = .ok (.ldc2_w 311, 3) := by decide +kernel
theorem dX11_drawn_97 : decode cX11_drawn 97 = .ok (.lrem, 1) := by decide +kernel
theorem dX11_drawn_98 : decode cX11_drawn 98 = .ok (.l2i, 1) := by decide +kernel
theorem dX11_drawn_99 : decode cX11_drawn 99 = .ok (.invokevirtual 177, 3) := by decide +kernel
theorem dX11_drawn_102 : decode cX11_drawn 102 = .ok (.ifCond .eq 17, 3) := by decide +kernel
theorem dX11_drawn_105 : decode cX11_drawn 105 = .ok (.aload_n 0, 1) := by decide +kernel
theorem dX11_drawn_106 : decode cX11_drawn 106 = .ok (.getfield 54, 3) := by decide +kernel
theorem dX11_drawn_109 : decode cX11_drawn 109 = .ok (.aload_n 0, 1) := by decide +kernel
theorem dX11_drawn_110 : decode cX11_drawn 110 = .ok (.getfield 69, 3) := by decide +kernel
theorem dX11_drawn_113 : decode cX11_drawn 113 = .ok (.invokevirtual 184, 3) := by decide +kernel
theorem dX11_drawn_116 : decode cX11_drawn 116 = .ok (.iinc 4 1, 3) := by decide +kernel
theorem dX11_drawn_119 : decode cX11_drawn 119 = .ok (.aload_n 0, 1) := by decide +kernel
theorem dX11_drawn_120 : decode cX11_drawn 120 = .ok (.getfield 54, 3) := by decide +kernel
theorem dX11_drawn_123 : decode cX11_drawn 123 = .ok (.invokevirtual 195, 3) := by decide +kernel
theorem dX11_drawn_126 : decode cX11_drawn 126 = .ok (.iinc 7 1, 3) := by decide +kernel
theorem dX11_drawn_129 : decode cX11_drawn 129 = .ok (.goto (-63), 3) := by decide +kernel
theorem dX11_drawn_132 : decode cX11_drawn 132 = .ok (.iload_n 3, 1) := by decide +kernel
theorem dX11_drawn_133 : decode cX11_drawn 133 = .ok (.ifCond .ne 13, 3) := by decide +kernel
theorem dX11_drawn_136 : decode cX11_drawn 136 = .ok (.aload_n 0, 1) := by decide +kernel
theorem dX11_drawn_137 : decode cX11_drawn 137 = .ok (.getfield 54, 3) := by decide +kernel
theorem dX11_drawn_140 : decode cX11_drawn 140 = .ok (.invokevirtual 188, 3) := by decide +kernel
theorem dX11_drawn_143 : decode cX11_drawn 143 = .ok (.goto 5, 3) := by decide +kernel
theorem dX11_drawn_146 : decode cX11_drawn 146 = .ok (.iload 4, 2) := by decide +kernel
theorem dX11_drawn_148 : decode cX11_drawn 148 = .ok (.ireturn, 1) := by decide +kernel
theorem dX11_image_0 : decode cX11_image 0 = .ok (.iload_n 1, 1) := by decide +kernel
theorem dX11_image_1 : decode cX11_image 1 = .ok (.ifCond .lt 8, 3) := by decide +kernel
theorem dX11_image_4 : decode cX11_image 4 = .ok (.iload_n 1, 1) := by decide +kernel
theorem dX11_image_5 : decode cX11_image 5 = .ok (.iconst 2, 1) := by decide +kernel
theorem dX11_image_6 : decode cX11_image 6 = .ok (.if_icmp .lt 6, 3) := by decide +kernel
theorem dX11_image_9 : decode cX11_image 9 = .ok (.ldc 88, 2) := by decide +kernel
theorem dX11_image_11 : decode cX11_image 11 = .ok (.ireturn, 1) := by decide +kernel
theorem dX11_image_12 : decode cX11_image 12 = .ok (.aload_n 0, 1) := by decide +kernel
theorem dX11_image_13 : decode cX11_image 13 = .ok (.getfield 50, 3) := by decide +kernel
theorem dX11_image_16 : decode cX11_image 16 = .ok (.getfield 170, 3) := by decide +kernel
theorem dX11_image_19 : decode cX11_image 19 = .ok (.ifCond .ne 6, 3) := by decide +kernel
theorem dX11_image_22 : decode cX11_image 22 = .ok (.ldc 162, 2) := by decide +kernel
theorem dX11_image_24 : decode cX11_image 24 = .ok (.ireturn, 1) := by decide +kernel
theorem dX11_image_25 : decode cX11_image 25 = .ok (.aload_n 0, 1) := by decide +kernel
theorem dX11_image_26 : decode cX11_image 26 = .ok (.getfield 57, 3) := by decide +kernel
theorem dX11_image_29 : decode cX11_image 29 = .ok (.iload_n 1, 1) := by decide +kernel
theorem dX11_image_30 : decode cX11_image 30 = .ok (.aaload, 1) := by decide +kernel
theorem dX11_image_31 : decode cX11_image 31 = .ok (.aload_n 0, 1) := by decide +kernel
theorem dX11_image_32 : decode cX11_image 32 = .ok (.getfield 50, 3) := by decide +kernel
theorem dX11_image_35 : decode cX11_image 35 = .ok (.invokevirtual 146, 3) := by decide +kernel
theorem dX11_image_38 : decode cX11_image 38 = .ok (.iconst 1, 1) := by decide +kernel
theorem dX11_image_39 : decode cX11_image 39 = .ok (.ireturn, 1) := by decide +kernel
theorem dX11_restore_0 : decode cX11_restore 0 = .ok (.iload_n 1, 1) := by decide +kernel
theorem dX11_restore_1 : decode cX11_restore 1 = .ok (.ifCond .lt 8, 3) := by decide +kernel
theorem dX11_restore_4 : decode cX11_restore 4 = .ok (.iload_n 1, 1) := by decide +kernel
theorem dX11_restore_5 : decode cX11_restore 5 = .ok (.iconst 2, 1) := by decide +kernel
theorem dX11_restore_6 : decode cX11_restore 6 = .ok (.if_icmp .lt 6, 3) := by decide +kernel
theorem dX11_restore_9 : decode cX11_restore 9 = .ok (.ldc 88, 2) := by decide +kernel
theorem dX11_restore_11 : decode cX11_restore 11 = .ok (.ireturn, 1) := by decide +kernel
theorem dX11_restore_12 : decode cX11_restore 12 = .ok (.aload_n 0, 1) := by decide +kernel
theorem dX11_restore_13 : decode cX11_restore 13 = .ok (.getfield 57, 3) := by decide +kernel
theorem dX11_restore_16 : decode cX11_restore 16 = .ok (.iload_n 1, 1) := by decide +kernel
theorem dX11_restore_17 : decode cX11_restore 17 = .ok (.aaload, 1) := by decide +kernel
theorem dX11_restore_18 : decode cX11_restore 18 = .ok (.getfield 170, 3) := by decide +kernel
theorem dX11_restore_21 : decode cX11_restore 21 = .ok (.ifCond .ne 6, 3) := by decide +kernel
theorem dX11_restore_24 : decode cX11_restore 24 = .ok (.ldc 162, 2) := by decide +kernel
theorem dX11_restore_26 : decode cX11_restore 26 = .ok (.ireturn, 1) := by decide +kernel
theorem dX11_restore_27 : decode cX11_restore 27 = .ok (.aload_n 0, 1) := by decide +kernel
theorem dX11_restore_28 : decode cX11_restore 28 = .ok (.getfield 50, 3) := by decide +kernel
theorem dX11_restore_31 : decode cX11_restore 31 = .ok (.aload_n 0, 1) := by decide +kernel
theorem dX11_restore_32 : decode cX11_restore 32 = .ok (.getfield 57, 3) := by decide +kernel
theorem dX11_restore_35 : decode cX11_restore 35 = .ok (.iload_n 1, 1) := by decide +kernel
theorem dX11_restore_36 : decode cX11_restore 36 = .ok (.aaload, 1) := by decide +kernel
theorem dX11_restore_37 : decode cX11_restore 37 = .ok (.invokevirtual 146, 3) := by decide +kernel
theorem dX11_restore_40 : decode cX11_restore 40 = .ok (.aload_n 0, 1) := by decide +kernel
theorem dX11_restore_41 : decode cX11_restore 41 = .ok (.invokevirtual 150, 3) := by decide +kernel
theorem dX11_restore_44 : decode cX11_restore 44 = .ok (.iconst 1, 1) := by decide +kernel
theorem dX11_restore_45 : decode cX11_restore 45 = .ok (.ireturn, 1) := by decide +kernel
theorem dX11_kind_0 : decode cX11_kind 0 = .ok (.aload_n 0, 1) := by decide +kernel
theorem dX11_kind_1 : decode cX11_kind 1 = .ok (.getfield 50, 3) := by decide +kernel
theorem dX11_kind_4 : decode cX11_kind 4 = .ok (.iload_n 1, 1) := by decide +kernel
theorem dX11_kind_5 : decode cX11_kind 5 = .ok (.invokevirtual 214, 3) := by decide +kernel
theorem dX11_kind_8 : decode cX11_kind 8 = .ok (.ifCond .eq 15, 3) := by decide +kernel
theorem dX11_kind_11 : decode cX11_kind 11 = .ok (.aload_n 0, 1) := by decide +kernel
theorem dX11_kind_12 : decode cX11_kind 12 = .ok (.getfield 50, 3) := by decide +kernel
theorem dX11_kind_15 : decode cX11_kind 15 = .ok (.getfield 313, 3) := by decide +kernel
theorem dX11_kind_18 : decode cX11_kind 18 = .ok (.iload_n 1, 1) := by decide +kernel
theorem dX11_kind_19 : decode cX11_kind 19 = .ok (.iaload, 1) := by decide +kernel
theorem dX11_kind_20 : decode cX11_kind 20 = .ok (.goto 5, 3) := by decide +kernel
theorem dX11_kind_23 : decode cX11_kind 23 = .ok (.ldc 88, 2) := by decide +kernel
theorem dX11_kind_25 : decode cX11_kind 25 = .ok (.ireturn, 1) := by decide +kernel
theorem dX11_as_0 : decode cX11_as 0 = .ok (.aload_n 0, 1) := by decide +kernel
theorem dX11_as_1 : decode cX11_as 1 = .ok (.getfield 50, 3) := by decide +kernel
theorem dX11_as_4 : decode cX11_as 4 = .ok (.iload_n 1, 1) := by decide +kernel
theorem dX11_as_5 : decode cX11_as 5 = .ok (.invokevirtual 214, 3) := by decide +kernel
theorem dX11_as_8 : decode cX11_as 8 = .ok (.ifCond .eq 13, 3) := by decide +kernel
theorem dX11_as_11 : decode cX11_as 11 = .ok (.iload_n 2, 1) := by decide +kernel
theorem dX11_as_12 : decode cX11_as 12 = .ok (.ifCond .lt 9, 3) := by decide +kernel
theorem dX11_as_15 : decode cX11_as 15 = .ok (.iload_n 2, 1) := by decide +kernel
theorem dX11_as_16 : decode cX11_as 16 = .ok (.bipush 6, 2) := by decide +kernel
theorem dX11_as_18 : decode cX11_as 18 = .ok (.if_icmp .lt 6, 3) := by decide +kernel
theorem dX11_as_21 : decode cX11_as 21 = .ok (.ldc 88, 2) := by decide +kernel
theorem dX11_as_23 : decode cX11_as 23 = .ok (.ireturn, 1) := by decide +kernel
theorem dX11_as_24 : decode cX11_as 24 = .ok (.aload_n 0, 1) := by decide +kernel
theorem dX11_as_25 : decode cX11_as 25 = .ok (.getfield 25, 3) := by decide +kernel
theorem dX11_as_28 : decode cX11_as 28 = .ok (.aload_n 0, 1) := by decide +kernel
theorem dX11_as_29 : decode cX11_as 29 = .ok (.getfield 50, 3) := by decide +kernel
theorem dX11_as_32 : decode cX11_as 32 = .ok (.getfield 313, 3) := by decide +kernel
theorem dX11_as_35 : decode cX11_as 35 = .ok (.iload_n 1, 1) := by decide +kernel
theorem dX11_as_36 : decode cX11_as 36 = .ok (.iaload, 1) := by decide +kernel
theorem dX11_as_37 : decode cX11_as 37 = .ok (.aaload, 1) := by decide +kernel
theorem dX11_as_38 : decode cX11_as 38 = .ok (.iload_n 2, 1) := by decide +kernel
theorem dX11_as_39 : decode cX11_as 39 = .ok (.invokestatic 316, 3) := by decide +kernel
theorem dX11_as_42 : decode cX11_as 42 = .ok (.ifCond .eq 11, 3) := by decide +kernel
theorem dX11_as_45 : decode cX11_as 45 = .ok (.aload_n 0, 1) := by decide +kernel
theorem dX11_as_46 : decode cX11_as 46 = .ok (.iload_n 1, 1) := by decide +kernel
theorem dX11_as_47 : decode cX11_as 47 = .ok (.invokevirtual 97, 3) := by decide +kernel
theorem dX11_as_50 : decode cX11_as 50 = .ok (.goto 8, 3) := by decide +kernel
theorem dX11_as_53 : decode cX11_as 53 = .ok (.aload_n 0, 1) := by decide +kernel
theorem dX11_as_54 : decode cX11_as 54 = .ok (.iconst 3, 1) := by decide +kernel
theorem dX11_as_55 : decode cX11_as 55 = .ok (.invokevirtual 89, 3) := by decide +kernel
theorem dX11_as_58 : decode cX11_as 58 = .ok (.ireturn, 1) := by decide +kernel
theorem dX11_ask_0 : decode cX11_ask 0 = .ok (.aload_n 0, 1) := by decide +kernel
theorem dX11_ask_1 : decode cX11_ask 1 = .ok (.getfield 50, 3) := by decide +kernel
theorem dX11_ask_4 : decode cX11_ask 4 = .ok (.iload_n 1, 1) := by decide +kernel
theorem dX11_ask_5 : decode cX11_ask 5 = .ok (.invokevirtual 214, 3) := by decide +kernel
theorem dX11_ask_8 : decode cX11_ask 8 = .ok (.ifCond .eq 10, 3) := by decide +kernel
theorem dX11_ask_11 : decode cX11_ask 11 = .ok (.iload_n 2, 1) := by decide +kernel
theorem dX11_ask_12 : decode cX11_ask 12 = .ok (.invokestatic 204, 3) := by decide +kernel
theorem dX11_ask_15 : decode cX11_ask 15 = .ok (.ifCond .ne 6, 3) := by decide +kernel
theorem dX11_ask_18 : decode cX11_ask 18 = .ok (.ldc 88, 2) := by decide +kernel
theorem dX11_ask_20 : decode cX11_ask 20 = .ok (.ireturn, 1) := by decide +kernel
theorem dX11_ask_21 : decode cX11_ask 21 = .ok (.aload_n 0, 1) := by decide +kernel
theorem dX11_ask_22 : decode cX11_ask 22 = .ok (.getfield 76, 3) := by decide +kernel
theorem dX11_ask_25 : decode cX11_ask 25 = .ok (.iload_n 1, 1) := by decide +kernel
theorem dX11_ask_26 : decode cX11_ask 26 = .ok (.putfield 320, 3) := by decide +kernel
theorem dX11_ask_29 : decode cX11_ask 29 = .ok (.aload_n 0, 1) := by decide +kernel
theorem dX11_ask_30 : decode cX11_ask 30 = .ok (.getfield 76, 3) := by decide +kernel
theorem dX11_ask_33 : decode cX11_ask 33 = .ok (.aload_n 0, 1) := by decide +kernel
theorem dX11_ask_34 : decode cX11_ask 34 = .ok (.getfield 50, 3) := by decide +kernel
theorem dX11_ask_37 : decode cX11_ask 37 = .ok (.getfield 220, 3) := by decide +kernel
theorem dX11_ask_40 : decode cX11_ask 40 = .ok (.iload_n 1, 1) := by decide +kernel
theorem dX11_ask_41 : decode cX11_ask 41 = .ok (.iaload, 1) := by decide +kernel
theorem dX11_ask_42 : decode cX11_ask 42 = .ok (.putfield 323, 3) := by decide +kernel
theorem dX11_ask_45 : decode cX11_ask 45 = .ok (.aload_n 0, 1) := by decide +kernel
theorem dX11_ask_46 : decode cX11_ask 46 = .ok (.getfield 76, 3) := by decide +kernel
theorem dX11_ask_49 : decode cX11_ask 49 = .ok (.aload_n 0, 1) := by decide +kernel
theorem dX11_ask_50 : decode cX11_ask 50 = .ok (.getfield 50, 3) := by decide +kernel
theorem dX11_ask_53 : decode cX11_ask 53 = .ok (.iload_n 1, 1) := by decide +kernel
theorem dX11_ask_54 : decode cX11_ask 54 = .ok (.invokevirtual 229, 3) := by decide +kernel
theorem dX11_ask_57 : decode cX11_ask 57 = .ok (.invokestatic 265, 3) := by decide +kernel
theorem dX11_ask_60 : decode cX11_ask 60 = .ok (.putfield 326, 3) := by decide +kernel
theorem dX11_ask_63 : decode cX11_ask 63 = .ok (.aload_n 0, 1) := by decide +kernel
theorem dX11_ask_64 : decode cX11_ask 64 = .ok (.getfield 76, 3) := by decide +kernel
theorem dX11_ask_67 : decode cX11_ask 67 = .ok (.iconst 0, 1) := by decide +kernel
theorem dX11_ask_68 : decode cX11_ask 68 = .ok (.putfield 328, 3) := by decide +kernel
theorem dX11_ask_71 : decode cX11_ask 71 = .ok (.aload_n 0, 1) := by decide +kernel
theorem dX11_ask_72 : decode cX11_ask 72 = .ok (.getfield 25, 3) := by decide +kernel
theorem dX11_ask_75 : decode cX11_ask 75 = .ok (.aload_n 0, 1) := by decide +kernel
theorem dX11_ask_76 : decode cX11_ask 76 = .ok (.getfield 50, 3) := by decide +kernel
theorem dX11_ask_79 : decode cX11_ask 79 = .ok (.getfield 313, 3) := by decide +kernel
theorem dX11_ask_82 : decode cX11_ask 82 = .ok (.iload_n 1, 1) := by decide +kernel
theorem dX11_ask_83 : decode cX11_ask 83 = .ok (.iaload, 1) := by decide +kernel
theorem dX11_ask_84 : decode cX11_ask 84 = .ok (.aaload, 1) := by decide +kernel
theorem dX11_ask_85 : decode cX11_ask 85 = .ok (.astore_n 3, 1) := by decide +kernel
theorem dX11_ask_86 : decode cX11_ask 86 = .ok (.iload_n 2, 1) := by decide +kernel
theorem dX11_ask_87 : decode cX11_ask 87 = .ok (.ifCond .ne 14, 3) := by decide +kernel
theorem dX11_ask_90 : decode cX11_ask 90 = .ok (.aload_n 3, 1) := by decide +kernel
theorem dX11_ask_91 : decode cX11_ask 91 = .ok (.aload_n 0, 1) := by decide +kernel
theorem dX11_ask_92 : decode cX11_ask 92 = .ok (.getfield 76, 3) := by decide +kernel
theorem dX11_ask_95 : decode cX11_ask 95 = .ok (.invokevirtual 331, 3) := by decide +kernel
theorem dX11_ask_98 : decode cX11_ask 98 = .ok (.goto 11, 3) := by decide +kernel
theorem dX11_ask_101 : decode cX11_ask 101 = .ok (.aload_n 3, 1) := by decide +kernel
theorem dX11_ask_102 : decode cX11_ask 102 = .ok (.aload_n 0, 1) := by decide +kernel
theorem dX11_ask_103 : decode cX11_ask 103 = .ok (.getfield 76, 3) := by decide +kernel
theorem dX11_ask_106 : decode cX11_ask 106 = .ok (.invokevirtual 334, 3) := by decide +kernel
theorem dX11_ask_109 : decode cX11_ask 109 = .ok (.ireturn, 1) := by decide +kernel
theorem dX11_trace_0 : decode cX11_trace 0 = .ok (.iload_n 1, 1) := by decide +kernel
theorem dX11_trace_1 : decode cX11_trace 1 = .ok (.ifCond .lt 26, 3) := by decide +kernel
theorem dX11_trace_4 : decode cX11_trace 4 = .ok (.iload_n 1, 1) := by decide +kernel
theorem dX11_trace_5 : decode cX11_trace 5 = .ok (.aload_n 0, 1) := by decide +kernel
theorem dX11_trace_6 : decode cX11_trace 6 = .ok (.getfield 76, 3) := by decide +kernel
theorem dX11_trace_9 : decode cX11_trace 9 = .ok (.getfield 328, 3) := by decide +kernel
theorem dX11_trace_12 : decode cX11_trace 12 = .ok (.if_icmp .ge 15, 3) := by decide +kernel
theorem dX11_trace_15 : decode cX11_trace 15 = .ok (.aload_n 0, 1) := by decide +kernel
theorem dX11_trace_16 : decode cX11_trace 16 = .ok (.getfield 76, 3) := by decide +kernel
theorem dX11_trace_19 : decode cX11_trace 19 = .ok (.getfield 337, 3) := by decide +kernel
theorem dX11_trace_22 : decode cX11_trace 22 = .ok (.iload_n 1, 1) := by decide +kernel
theorem dX11_trace_23 : decode cX11_trace 23 = .ok (.iaload, 1) := by decide +kernel
theorem dX11_trace_24 : decode cX11_trace 24 = .ok (.goto 5, 3) := by decide +kernel
theorem dX11_trace_27 : decode cX11_trace 27 = .ok (.ldc 247, 2) := by decide +kernel
theorem dX11_trace_29 : decode cX11_trace 29 = .ok (.ireturn, 1) := by decide +kernel
theorem dX11_count_0 : decode cX11_count 0 = .ok (.iload_n 1, 1) := by decide +kernel
theorem dX11_count_1 : decode cX11_count 1 = .ok (.tableswitch 111 0 7 #[47, 55, 63, 71, 79, 90, 98, 103], 47) := by decide +kernel
theorem dX11_count_48 : decode cX11_count 48 = .ok (.aload_n 0, 1) := by decide +kernel
theorem dX11_count_49 : decode cX11_count 49 = .ok (.getfield 10, 3) := by decide +kernel
theorem dX11_count_52 : decode cX11_count 52 = .ok (.invokevirtual 340, 3) := by decide +kernel
theorem dX11_count_55 : decode cX11_count 55 = .ok (.ireturn, 1) := by decide +kernel
theorem dX11_count_56 : decode cX11_count 56 = .ok (.aload_n 0, 1) := by decide +kernel
theorem dX11_count_57 : decode cX11_count 57 = .ok (.getfield 50, 3) := by decide +kernel
theorem dX11_count_60 : decode cX11_count 60 = .ok (.getfield 153, 3) := by decide +kernel
theorem dX11_count_63 : decode cX11_count 63 = .ok (.ireturn, 1) := by decide +kernel
theorem dX11_count_64 : decode cX11_count 64 = .ok (.aload_n 0, 1) := by decide +kernel
theorem dX11_count_65 : decode cX11_count 65 = .ok (.getfield 50, 3) := by decide +kernel
theorem dX11_count_68 : decode cX11_count 68 = .ok (.getfield 273, 3) := by decide +kernel
theorem dX11_count_71 : decode cX11_count 71 = .ok (.ireturn, 1) := by decide +kernel
theorem dX11_count_72 : decode cX11_count 72 = .ok (.aload_n 0, 1) := by decide +kernel
theorem dX11_count_73 : decode cX11_count 73 = .ok (.getfield 50, 3) := by decide +kernel
theorem dX11_count_76 : decode cX11_count 76 = .ok (.getfield 192, 3) := by decide +kernel
theorem dX11_count_79 : decode cX11_count 79 = .ok (.ireturn, 1) := by decide +kernel
theorem dX11_count_80 : decode cX11_count 80 = .ok (.aload_n 0, 1) := by decide +kernel
theorem dX11_count_81 : decode cX11_count 81 = .ok (.getfield 50, 3) := by decide +kernel
theorem dX11_count_84 : decode cX11_count 84 = .ok (.invokevirtual 188, 3) := by decide +kernel
theorem dX11_count_87 : decode cX11_count 87 = .ok (.invokestatic 265, 3) := by decide +kernel
theorem dX11_count_90 : decode cX11_count 90 = .ok (.ireturn, 1) := by decide +kernel
theorem dX11_count_91 : decode cX11_count 91 = .ok (.aload_n 0, 1) := by decide +kernel
theorem dX11_count_92 : decode cX11_count 92 = .ok (.getfield 50, 3) := by decide +kernel
theorem dX11_count_95 : decode cX11_count 95 = .ok (.getfield 343, 3) := by decide +kernel
theorem dX11_count_98 : decode cX11_count 98 = .ok (.ireturn, 1) := by decide +kernel
theorem dX11_count_99 : decode cX11_count 99 = .ok (.aload_n 0, 1) := by decide +kernel
theorem dX11_count_100 : decode cX11_count 100 = .ok (.getfield 159, 3) := by decide +kernel
theorem dX11_count_103 : decode cX11_count 103 = .ok (.ireturn, 1) := by decide +kernel
theorem dX11_count_104 : decode cX11_count 104 = .ok (.aload_n 0, 1) := by decide +kernel
theorem dX11_count_105 : decode cX11_count 105 = .ok (.getfield 19, 3) := by decide +kernel
theorem dX11_count_108 : decode cX11_count 108 = .ok (.getfield 129, 3) := by decide +kernel
theorem dX11_count_111 : decode cX11_count 111 = .ok (.ireturn, 1) := by decide +kernel
theorem dX11_count_112 : decode cX11_count 112 = .ok (.ldc 88, 2) := by decide +kernel
theorem dX11_count_114 : decode cX11_count 114 = .ok (.ireturn, 1) := by decide +kernel
theorem dX11_status_0 : decode cX11_status 0 = .ok (.aload_n 0, 1) := by decide +kernel
theorem dX11_status_1 : decode cX11_status 1 = .ok (.getfield 346, 3) := by decide +kernel
theorem dX11_status_4 : decode cX11_status 4 = .ok (.ireturn, 1) := by decide +kernel
theorem dX11_found_0 : decode cX11_found 0 = .ok (.aload_n 0, 1) := by decide +kernel
theorem dX11_found_1 : decode cX11_found 1 = .ok (.iload_n 1, 1) := by decide +kernel
theorem dX11_found_2 : decode cX11_found 2 = .ok (.putfield 346, 3) := by decide +kernel
theorem dX11_found_5 : decode cX11_found 5 = .ok (.ldc_w 349, 3) := by decide +kernel
theorem dX11_found_8 : decode cX11_found 8 = .ok (.iload_n 1, 1) := by decide +kernel
theorem dX11_found_9 : decode cX11_found 9 = .ok (.isub, 1) := by decide +kernel
theorem dX11_found_10 : decode cX11_found 10 = .ok (.ireturn, 1) := by decide +kernel
theorem dX11_unfound_0 : decode cX11_unfound 0 = .ok (.aload_n 0, 1) := by decide +kernel
theorem dX11_unfound_1 : decode cX11_unfound 1 = .ok (.iconst 0, 1) := by decide +kernel
theorem dX11_unfound_2 : decode cX11_unfound 2 = .ok (.putfield 346, 3) := by decide +kernel
theorem dX11_unfound_5 : decode cX11_unfound 5 = .ok (.iload_n 1, 1) := by decide +kernel
theorem dX11_unfound_6 : decode cX11_unfound 6 = .ok (.ireturn, 1) := by decide +kernel
theorem dX11_keepAct_0 : decode cX11_keepAct 0 = .ok (.aload_n 0, 1) := by decide +kernel
theorem dX11_keepAct_1 : decode cX11_keepAct 1 = .ok (.getfield 50, 3) := by decide +kernel
theorem dX11_keepAct_4 : decode cX11_keepAct 4 = .ok (.aload_n 0, 1) := by decide +kernel
theorem dX11_keepAct_5 : decode cX11_keepAct 5 = .ok (.getfield 63, 3) := by decide +kernel
theorem dX11_keepAct_8 : decode cX11_keepAct 8 = .ok (.aload_n 0, 1) := by decide +kernel
theorem dX11_keepAct_9 : decode cX11_keepAct 9 = .ok (.getfield 163, 3) := by decide +kernel
theorem dX11_keepAct_12 : decode cX11_keepAct 12 = .ok (.aaload, 1) := by decide +kernel
theorem dX11_keepAct_13 : decode cX11_keepAct 13 = .ok (.invokevirtual 350, 3) := by decide +kernel
theorem dX11_keepAct_16 : decode cX11_keepAct 16 = .ok (.aload_n 0, 1) := by decide +kernel
theorem dX11_keepAct_17 : decode cX11_keepAct 17 = .ok (.aload_n 0, 1) := by decide +kernel
theorem dX11_keepAct_18 : decode cX11_keepAct 18 = .ok (.getfield 163, 3) := by decide +kernel
theorem dX11_keepAct_21 : decode cX11_keepAct 21 = .ok (.iconst 1, 1) := by decide +kernel
theorem dX11_keepAct_22 : decode cX11_keepAct 22 = .ok (.iadd, 1) := by decide +kernel
theorem dX11_keepAct_23 : decode cX11_keepAct 23 = .ok (.bipush 24, 2) := by decide +kernel
theorem dX11_keepAct_25 : decode cX11_keepAct 25 = .ok (.irem, 1) := by decide +kernel
theorem dX11_keepAct_26 : decode cX11_keepAct 26 = .ok (.putfield 163, 3) := by decide +kernel
theorem dX11_keepAct_29 : decode cX11_keepAct 29 = .ok (.aload_n 0, 1) := by decide +kernel
theorem dX11_keepAct_30 : decode cX11_keepAct 30 = .ok (.aload_n 0, 1) := by decide +kernel
theorem dX11_keepAct_31 : decode cX11_keepAct 31 = .ok (.getfield 159, 3) := by decide +kernel
theorem dX11_keepAct_34 : decode cX11_keepAct 34 = .ok (.iconst 1, 1) := by decide +kernel
theorem dX11_keepAct_35 : decode cX11_keepAct 35 = .ok (.iadd, 1) := by decide +kernel
theorem dX11_keepAct_36 : decode cX11_keepAct 36 = .ok (.bipush 24, 2) := by decide +kernel
theorem dX11_keepAct_38 : decode cX11_keepAct 38 = .ok (.invokestatic 353, 3) := by decide +kernel
theorem dX11_keepAct_41 : decode cX11_keepAct 41 = .ok (.putfield 159, 3) := by decide +kernel
theorem dX11_keepAct_44 : decode cX11_keepAct 44 = .ok (.return_, 1) := by decide +kernel
theorem dX11_forgetActs_0 : decode cX11_forgetActs 0 = .ok (.aload_n 0, 1) := by decide +kernel
theorem dX11_forgetActs_1 : decode cX11_forgetActs 1 = .ok (.iconst 0, 1) := by decide +kernel
theorem dX11_forgetActs_2 : decode cX11_forgetActs 2 = .ok (.putfield 159, 3) := by decide +kernel
theorem dX11_forgetActs_5 : decode cX11_forgetActs 5 = .ok (.return_, 1) := by decide +kernel
theorem dX11_newWays_0 : decode cX11_newWays 0 = .ok (.aload_n 0, 1) := by decide +kernel
theorem dX11_newWays_1 : decode cX11_newWays 1 = .ok (.getfield 69, 3) := by decide +kernel
theorem dX11_newWays_4 : decode cX11_newWays 4 = .ok (.aload_n 0, 1) := by decide +kernel
theorem dX11_newWays_5 : decode cX11_newWays 5 = .ok (.getfield 50, 3) := by decide +kernel
theorem dX11_newWays_8 : decode cX11_newWays 8 = .ok (.iload_n 1, 1) := by decide +kernel
theorem dX11_newWays_9 : decode cX11_newWays 9 = .ok (.invokevirtual 177, 3) := by decide +kernel
theorem dX11_newWays_12 : decode cX11_newWays 12 = .ok (.ifCond .ne 6, 3) := by decide +kernel
theorem dX11_newWays_15 : decode cX11_newWays 15 = .ok (.ldc 247, 2) := by decide +kernel
theorem dX11_newWays_17 : decode cX11_newWays 17 = .ok (.ireturn, 1) := by decide +kernel
theorem dX11_newWays_18 : decode cX11_newWays 18 = .ok (.aload_n 0, 1) := by decide +kernel
theorem dX11_newWays_19 : decode cX11_newWays 19 = .ok (.getfield 50, 3) := by decide +kernel
theorem dX11_newWays_22 : decode cX11_newWays 22 = .ok (.aload_n 0, 1) := by decide +kernel
theorem dX11_newWays_23 : decode cX11_newWays 23 = .ok (.getfield 69, 3) := by decide +kernel
theorem dX11_newWays_26 : decode cX11_newWays 26 = .ok (.invokevirtual 282, 3) := by decide +kernel
theorem dX11_newWays_29 : decode cX11_newWays 29 = .ok (.aload_n 0, 1) := by decide +kernel
theorem dX11_newWays_30 : decode cX11_newWays 30 = .ok (.getfield 50, 3) := by decide +kernel
theorem dX11_newWays_33 : decode cX11_newWays 33 = .ok (.invokevirtual 188, 3) := by decide +kernel
theorem dX11_newWays_36 : decode cX11_newWays 36 = .ok (.iconst (-1), 1) := by decide +kernel
theorem dX11_newWays_37 : decode cX11_newWays 37 = .ok (.ixor, 1) := by decide +kernel
theorem dX11_newWays_38 : decode cX11_newWays 38 = .ok (.iand, 1) := by decide +kernel
theorem dX11_newWays_39 : decode cX11_newWays 39 = .ok (.invokestatic 265, 3) := by decide +kernel
theorem dX11_newWays_42 : decode cX11_newWays 42 = .ok (.ireturn, 1) := by decide +kernel
theorem dX11_fittingKinds_0 : decode cX11_fittingKinds 0 = .ok (.iconst 0, 1) := by decide +kernel
theorem dX11_fittingKinds_1 : decode cX11_fittingKinds 1 = .ok (.istore 5, 2) := by decide +kernel
theorem dX11_fittingKinds_3 : decode cX11_fittingKinds 3 = .ok (.iconst 1, 1) := by decide +kernel
theorem dX11_fittingKinds_4 : decode cX11_fittingKinds 4 = .ok (.istore 6, 2) := by decide +kernel
theorem dX11_fittingKinds_6 : decode cX11_fittingKinds 6 = .ok (.iload 6, 2) := by decide +kernel
theorem dX11_fittingKinds_8 : decode cX11_fittingKinds 8 = .ok (.bipush 6, 2) := by decide +kernel
theorem dX11_fittingKinds_10 : decode cX11_fittingKinds 10 = .ok (.if_icmp .ge 34, 3) := by decide +kernel
theorem dX11_fittingKinds_13 : decode cX11_fittingKinds 13 = .ok (.aload_n 0, 1) := by decide +kernel
theorem dX11_fittingKinds_14 : decode cX11_fittingKinds 14 = .ok (.getfield 80, 3) := by decide +kernel
theorem dX11_fittingKinds_17 : decode cX11_fittingKinds 17 = .ok (.iload 6, 2) := by decide +kernel
theorem dX11_fittingKinds_19 : decode cX11_fittingKinds 19 = .ok (.aload_n 0, 1) := by decide +kernel
theorem dX11_fittingKinds_20 : decode cX11_fittingKinds 20 = .ok (.getfield 50, 3) := by decide +kernel
theorem dX11_fittingKinds_23 : decode cX11_fittingKinds 23 = .ok (.getfield 223, 3) := by decide +kernel
theorem dX11_fittingKinds_26 : decode cX11_fittingKinds 26 = .ok (.iload_n 1, 1) := by decide +kernel
theorem dX11_fittingKinds_27 : decode cX11_fittingKinds 27 = .ok (.iaload, 1) := by decide +kernel
theorem dX11_fittingKinds_28 : decode cX11_fittingKinds 28 = .ok (.iastore, 1) := by decide +kernel
theorem dX11_fittingKinds_29 : decode cX11_fittingKinds 29 = .ok (.iload 5, 2) := by decide +kernel
theorem dX11_fittingKinds_31 : decode cX11_fittingKinds 31 = .ok (.iconst 1, 1) := by decide +kernel
theorem dX11_fittingKinds_32 : decode cX11_fittingKinds 32 = .ok (.iload 6, 2) := by decide +kernel
theorem dX11_fittingKinds_34 : decode cX11_fittingKinds 34 = .ok (.ishl, 1) := by decide +kernel
theorem dX11_fittingKinds_35 : decode cX11_fittingKinds 35 = .ok (.ior, 1) := by decide +kernel
theorem dX11_fittingKinds_36 : decode cX11_fittingKinds 36 = .ok (.istore 5, 2) := by decide +kernel
theorem dX11_fittingKinds_38 : decode cX11_fittingKinds 38 = .ok (.iinc 6 1, 3) := by decide +kernel
theorem dX11_fittingKinds_41 : decode cX11_fittingKinds 41 = .ok (.goto (-35), 3) := by decide +kernel
theorem dX11_fittingKinds_44 : decode cX11_fittingKinds 44 = .ok (.iconst 0, 1) := by decide +kernel
theorem dX11_fittingKinds_45 : decode cX11_fittingKinds 45 = .ok (.istore 6, 2) := by decide +kernel
theorem dX11_fittingKinds_47 : decode cX11_fittingKinds 47 = .ok (.iload 6, 2) := by decide +kernel
theorem dX11_fittingKinds_49 : decode cX11_fittingKinds 49 = .ok (.iload 4, 2) := by decide +kernel
theorem dX11_fittingKinds_51 : decode cX11_fittingKinds 51 = .ok (.if_icmp .ge 156, 3) := by decide +kernel
theorem dX11_fittingKinds_54 : decode cX11_fittingKinds 54 = .ok (.aload_n 0, 1) := by decide +kernel
theorem dX11_fittingKinds_55 : decode cX11_fittingKinds 55 = .ok (.getfield 69, 3) := by decide +kernel
theorem dX11_fittingKinds_58 : decode cX11_fittingKinds 58 = .ok (.aload_n 0, 1) := by decide +kernel
theorem dX11_fittingKinds_59 : decode cX11_fittingKinds 59 = .ok (.getfield 50, 3) := by decide +kernel
theorem dX11_fittingKinds_62 : decode cX11_fittingKinds 62 = .ok (.aload_n 2, 1) := by decide +kernel
theorem dX11_fittingKinds_63 : decode cX11_fittingKinds 63 = .ok (.iload_n 3, 1) := by decide +kernel
theorem dX11_fittingKinds_64 : decode cX11_fittingKinds 64 = .ok (.iconst 2, 1) := by decide +kernel
theorem dX11_fittingKinds_65 : decode cX11_fittingKinds 65 = .ok (.iload 6, 2) := by decide +kernel
theorem dX11_fittingKinds_67 : decode cX11_fittingKinds 67 = .ok (.imul, 1) := by decide +kernel
theorem dX11_fittingKinds_68 : decode cX11_fittingKinds 68 = .ok (.iadd, 1) := by decide +kernel
theorem dX11_fittingKinds_69 : decode cX11_fittingKinds 69 = .ok (.iaload, 1) := by decide +kernel
theorem dX11_fittingKinds_70 : decode cX11_fittingKinds 70 = .ok (.invokevirtual 177, 3) := by decide +kernel
theorem dX11_fittingKinds_73 : decode cX11_fittingKinds 73 = .ok (.istore 7, 2) := by decide +kernel
theorem dX11_fittingKinds_75 : decode cX11_fittingKinds 75 = .ok (.iconst 1, 1) := by decide +kernel
theorem dX11_fittingKinds_76 : decode cX11_fittingKinds 76 = .ok (.istore 8, 2) := by decide +kernel
theorem dX11_fittingKinds_78 : decode cX11_fittingKinds 78 = .ok (.iload 8, 2) := by decide +kernel
theorem dX11_fittingKinds_80 : decode cX11_fittingKinds 80 = .ok (.bipush 6, 2) := by decide +kernel
theorem dX11_fittingKinds_82 : decode cX11_fittingKinds 82 = .ok (.if_icmp .ge 119, 3) := by decide +kernel
theorem dX11_fittingKinds_85 : decode cX11_fittingKinds 85 = .ok (.iload 7, 2) := by decide +kernel
theorem dX11_fittingKinds_87 : decode cX11_fittingKinds 87 = .ok (.ifCond .eq 40, 3) := by decide +kernel
theorem dX11_fittingKinds_90 : decode cX11_fittingKinds 90 = .ok (.aload_n 0, 1) := by decide +kernel
theorem dX11_fittingKinds_91 : decode cX11_fittingKinds 91 = .ok (.getfield 80, 3) := by decide +kernel
theorem dX11_fittingKinds_94 : decode cX11_fittingKinds 94 = .ok (.iload 8, 2) := by decide +kernel
theorem dX11_fittingKinds_96 : decode cX11_fittingKinds 96 = .ok (.dup2, 1) := by decide +kernel
theorem dX11_fittingKinds_97 : decode cX11_fittingKinds 97 = .ok (.iaload, 1) := by decide +kernel
theorem dX11_fittingKinds_98 : decode cX11_fittingKinds 98 = .ok (.aload_n 0, 1) := by decide +kernel
theorem dX11_fittingKinds_99 : decode cX11_fittingKinds 99 = .ok (.getfield 25, 3) := by decide +kernel
theorem dX11_fittingKinds_102 : decode cX11_fittingKinds 102 = .ok (.iload 8, 2) := by decide +kernel
theorem dX11_fittingKinds_104 : decode cX11_fittingKinds 104 = .ok (.aaload, 1) := by decide +kernel
theorem dX11_fittingKinds_105 : decode cX11_fittingKinds 105 = .ok (.aload_n 0, 1) := by decide +kernel
theorem dX11_fittingKinds_106 : decode cX11_fittingKinds 106 = .ok (.getfield 50, 3) := by decide +kernel
theorem dX11_fittingKinds_109 : decode cX11_fittingKinds 109 = .ok (.aload_n 0, 1) := by decide +kernel
theorem dX11_fittingKinds_110 : decode cX11_fittingKinds 110 = .ok (.getfield 50, 3) := by decide +kernel
theorem dX11_fittingKinds_113 : decode cX11_fittingKinds 113 = .ok (.getfield 226, 3) := by decide +kernel
theorem dX11_fittingKinds_116 : decode cX11_fittingKinds 116 = .ok (.iload_n 1, 1) := by decide +kernel
theorem dX11_fittingKinds_117 : decode cX11_fittingKinds 117 = .ok (.iaload, 1) := by decide +kernel
theorem dX11_fittingKinds_118 : decode cX11_fittingKinds 118 = .ok (.aload_n 0, 1) := by decide +kernel
theorem dX11_fittingKinds_119 : decode cX11_fittingKinds 119 = .ok (.getfield 69, 3) := by decide +kernel
theorem dX11_fittingKinds_122 : decode cX11_fittingKinds 122 = .ok (.invokevirtual 358, 3) := by decide +kernel
theorem dX11_fittingKinds_125 : decode cX11_fittingKinds 125 = .ok (.ior, 1) := by decide +kernel
theorem dX11_fittingKinds_126 : decode cX11_fittingKinds 126 = .ok (.iastore, 1) := by decide +kernel
theorem dX11_fittingKinds_127 : decode cX11_fittingKinds 127 = .ok (.aload_n 0, 1) := by decide +kernel
theorem dX11_fittingKinds_128 : decode cX11_fittingKinds 128 = .ok (.getfield 50, 3) := by decide +kernel
theorem dX11_fittingKinds_131 : decode cX11_fittingKinds 131 = .ok (.getfield 220, 3) := by decide +kernel
theorem dX11_fittingKinds_134 : decode cX11_fittingKinds 134 = .ok (.iload_n 1, 1) := by decide +kernel
theorem dX11_fittingKinds_135 : decode cX11_fittingKinds 135 = .ok (.iaload, 1) := by decide +kernel
theorem dX11_fittingKinds_136 : decode cX11_fittingKinds 136 = .ok (.aload_n 0, 1) := by decide +kernel
theorem dX11_fittingKinds_137 : decode cX11_fittingKinds 137 = .ok (.getfield 25, 3) := by decide +kernel
theorem dX11_fittingKinds_140 : decode cX11_fittingKinds 140 = .ok (.iload 8, 2) := by decide +kernel
theorem dX11_fittingKinds_142 : decode cX11_fittingKinds 142 = .ok (.aaload, 1) := by decide +kernel
theorem dX11_fittingKinds_143 : decode cX11_fittingKinds 143 = .ok (.aload_n 0, 1) := by decide +kernel
theorem dX11_fittingKinds_144 : decode cX11_fittingKinds 144 = .ok (.getfield 50, 3) := by decide +kernel
theorem dX11_fittingKinds_147 : decode cX11_fittingKinds 147 = .ok (.getfield 343, 3) := by decide +kernel
theorem dX11_fittingKinds_150 : decode cX11_fittingKinds 150 = .ok (.invokevirtual 362, 3) := by decide +kernel
theorem dX11_fittingKinds_153 : decode cX11_fittingKinds 153 = .ok (.if_icmp .le 7, 3) := by decide +kernel
theorem dX11_fittingKinds_156 : decode cX11_fittingKinds 156 = .ok (.iconst 0, 1) := by decide +kernel
theorem dX11_fittingKinds_157 : decode cX11_fittingKinds 157 = .ok (.goto 10, 3) := by decide +kernel
theorem dX11_fittingKinds_160 : decode cX11_fittingKinds 160 = .ok (.aload_n 0, 1) := by decide +kernel
theorem dX11_fittingKinds_161 : decode cX11_fittingKinds 161 = .ok (.getfield 80, 3) := by decide +kernel
theorem dX11_fittingKinds_164 : decode cX11_fittingKinds 164 = .ok (.iload 8, 2) := by decide +kernel
theorem dX11_fittingKinds_166 : decode cX11_fittingKinds 166 = .ok (.iaload, 1) := by decide +kernel
theorem dX11_fittingKinds_167 : decode cX11_fittingKinds 167 = .ok (.istore 9, 2) := by decide +kernel
theorem dX11_fittingKinds_169 : decode cX11_fittingKinds 169 = .ok (.iload 9, 2) := by decide +kernel
theorem dX11_fittingKinds_171 : decode cX11_fittingKinds 171 = .ok (.aload_n 2, 1) := by decide +kernel
theorem dX11_fittingKinds_172 : decode cX11_fittingKinds 172 = .ok (.iload_n 3, 1) := by decide +kernel
theorem dX11_fittingKinds_173 : decode cX11_fittingKinds 173 = .ok (.iconst 2, 1) := by decide +kernel
theorem dX11_fittingKinds_174 : decode cX11_fittingKinds 174 = .ok (.iload 6, 2) := by decide +kernel
theorem dX11_fittingKinds_176 : decode cX11_fittingKinds 176 = .ok (.imul, 1) := by decide +kernel
theorem dX11_fittingKinds_177 : decode cX11_fittingKinds 177 = .ok (.iadd, 1) := by decide +kernel
theorem dX11_fittingKinds_178 : decode cX11_fittingKinds 178 = .ok (.iconst 1, 1) := by decide +kernel
theorem dX11_fittingKinds_179 : decode cX11_fittingKinds 179 = .ok (.iadd, 1) := by decide +kernel
theorem dX11_fittingKinds_180 : decode cX11_fittingKinds 180 = .ok (.iaload, 1) := by decide +kernel
theorem dX11_fittingKinds_181 : decode cX11_fittingKinds 181 = .ok (.if_icmp .eq 14, 3) := by decide +kernel
theorem dX11_fittingKinds_184 : decode cX11_fittingKinds 184 = .ok (.iload 5, 2) := by decide +kernel
theorem dX11_fittingKinds_186 : decode cX11_fittingKinds 186 = .ok (.iconst 1, 1) := by decide +kernel
theorem dX11_fittingKinds_187 : decode cX11_fittingKinds 187 = .ok (.iload 8, 2) := by decide +kernel
theorem dX11_fittingKinds_189 : decode cX11_fittingKinds 189 = .ok (.ishl, 1) := by decide +kernel
theorem dX11_fittingKinds_190 : decode cX11_fittingKinds 190 = .ok (.iconst (-1), 1) := by decide +kernel
theorem dX11_fittingKinds_191 : decode cX11_fittingKinds 191 = .ok (.ixor, 1) := by decide +kernel
theorem dX11_fittingKinds_192 : decode cX11_fittingKinds 192 = .ok (.iand, 1) := by decide +kernel
theorem dX11_fittingKinds_193 : decode cX11_fittingKinds 193 = .ok (.istore 5, 2) := by decide +kernel
theorem dX11_fittingKinds_195 : decode cX11_fittingKinds 195 = .ok (.iinc 8 1, 3) := by decide +kernel
theorem dX11_fittingKinds_198 : decode cX11_fittingKinds 198 = .ok (.goto (-120), 3) := by decide +kernel
theorem dX11_fittingKinds_201 : decode cX11_fittingKinds 201 = .ok (.iinc 6 1, 3) := by decide +kernel
theorem dX11_fittingKinds_204 : decode cX11_fittingKinds 204 = .ok (.goto (-157), 3) := by decide +kernel
theorem dX11_fittingKinds_207 : decode cX11_fittingKinds 207 = .ok (.iload 5, 2) := by decide +kernel
theorem dX11_fittingKinds_209 : decode cX11_fittingKinds 209 = .ok (.ireturn, 1) := by decide +kernel
theorem dX11_isRow_0 : decode cX11_isRow 0 = .ok (.iload_n 0, 1) := by decide +kernel
theorem dX11_isRow_1 : decode cX11_isRow 1 = .ok (.ifCond .lt 13, 3) := by decide +kernel
theorem dX11_isRow_4 : decode cX11_isRow 4 = .ok (.iload_n 0, 1) := by decide +kernel
theorem dX11_isRow_5 : decode cX11_isRow 5 = .ok (.bipush 8, 2) := by decide +kernel
theorem dX11_isRow_7 : decode cX11_isRow 7 = .ok (.if_icmp .ge 7, 3) := by decide +kernel
theorem dX11_isRow_10 : decode cX11_isRow 10 = .ok (.iconst 1, 1) := by decide +kernel
theorem dX11_isRow_11 : decode cX11_isRow 11 = .ok (.goto 4, 3) := by decide +kernel
theorem dX11_isRow_14 : decode cX11_isRow 14 = .ok (.iconst 0, 1) := by decide +kernel
theorem dX11_isRow_15 : decode cX11_isRow 15 = .ok (.ireturn, 1) := by decide +kernel
theorem dX11_isField_0 : decode cX11_isField 0 = .ok (.iload_n 0, 1) := by decide +kernel
theorem dX11_isField_1 : decode cX11_isField 1 = .ok (.ifCond .lt 13, 3) := by decide +kernel
theorem dX11_isField_4 : decode cX11_isField 4 = .ok (.iload_n 0, 1) := by decide +kernel
theorem dX11_isField_5 : decode cX11_isField 5 = .ok (.bipush 8, 2) := by decide +kernel
theorem dX11_isField_7 : decode cX11_isField 7 = .ok (.if_icmp .ge 7, 3) := by decide +kernel
theorem dX11_isField_10 : decode cX11_isField 10 = .ok (.iconst 1, 1) := by decide +kernel
theorem dX11_isField_11 : decode cX11_isField 11 = .ok (.goto 4, 3) := by decide +kernel
theorem dX11_isField_14 : decode cX11_isField 14 = .ok (.iconst 0, 1) := by decide +kernel
theorem dX11_isField_15 : decode cX11_isField 15 = .ok (.ireturn, 1) := by decide +kernel
theorem dX11_isOneOfTwo_0 : decode cX11_isOneOfTwo 0 = .ok (.iload_n 0, 1) := by decide +kernel
theorem dX11_isOneOfTwo_1 : decode cX11_isOneOfTwo 1 = .ok (.ifCond .eq 8, 3) := by decide +kernel
theorem dX11_isOneOfTwo_4 : decode cX11_isOneOfTwo 4 = .ok (.iload_n 0, 1) := by decide +kernel
theorem dX11_isOneOfTwo_5 : decode cX11_isOneOfTwo 5 = .ok (.iconst 1, 1) := by decide +kernel
theorem dX11_isOneOfTwo_6 : decode cX11_isOneOfTwo 6 = .ok (.if_icmp .ne 7, 3) := by decide +kernel
theorem dX11_isOneOfTwo_9 : decode cX11_isOneOfTwo 9 = .ok (.iconst 1, 1) := by decide +kernel
theorem dX11_isOneOfTwo_10 : decode cX11_isOneOfTwo 10 = .ok (.goto 4, 3) := by decide +kernel
theorem dX11_isOneOfTwo_13 : decode cX11_isOneOfTwo 13 = .ok (.iconst 0, 1) := by decide +kernel
theorem dX11_isOneOfTwo_14 : decode cX11_isOneOfTwo 14 = .ok (.ireturn, 1) := by decide +kernel
theorem dX11_isOfKind_0 : decode cX11_isOfKind 0 = .ok (.iload_n 1, 1) := by decide +kernel
theorem dX11_isOfKind_1 : decode cX11_isOfKind 1 = .ok (.tableswitch 66 0 5 #[39, 41, 46, 51, 56, 61], 39) := by decide +kernel
theorem dX11_isOfKind_40 : decode cX11_isOfKind 40 = .ok (.iconst 1, 1) := by decide +kernel
theorem dX11_isOfKind_41 : decode cX11_isOfKind 41 = .ok (.ireturn, 1) := by decide +kernel
theorem dX11_isOfKind_42 : decode cX11_isOfKind 42 = .ok (.aload_n 0, 1) := by decide +kernel
theorem dX11_isOfKind_43 : decode cX11_isOfKind 43 = .ok (.instanceof 30, 3) := by decide +kernel
theorem dX11_isOfKind_46 : decode cX11_isOfKind 46 = .ok (.ireturn, 1) := by decide +kernel
theorem dX11_isOfKind_47 : decode cX11_isOfKind 47 = .ok (.aload_n 0, 1) := by decide +kernel
theorem dX11_isOfKind_48 : decode cX11_isOfKind 48 = .ok (.instanceof 33, 3) := by decide +kernel
theorem dX11_isOfKind_51 : decode cX11_isOfKind 51 = .ok (.ireturn, 1) := by decide +kernel
theorem dX11_isOfKind_52 : decode cX11_isOfKind 52 = .ok (.aload_n 0, 1) := by decide +kernel
theorem dX11_isOfKind_53 : decode cX11_isOfKind 53 = .ok (.instanceof 36, 3) := by decide +kernel
theorem dX11_isOfKind_56 : decode cX11_isOfKind 56 = .ok (.ireturn, 1) := by decide +kernel
theorem dX11_isOfKind_57 : decode cX11_isOfKind 57 = .ok (.aload_n 0, 1) := by decide +kernel
theorem dX11_isOfKind_58 : decode cX11_isOfKind 58 = .ok (.instanceof 39, 3) := by decide +kernel
theorem dX11_isOfKind_61 : decode cX11_isOfKind 61 = .ok (.ireturn, 1) := by decide +kernel
theorem dX11_isOfKind_62 : decode cX11_isOfKind 62 = .ok (.aload_n 0, 1) := by decide +kernel
theorem dX11_isOfKind_63 : decode cX11_isOfKind 63 = .ok (.instanceof 42, 3) := by decide +kernel
theorem dX11_isOfKind_66 : decode cX11_isOfKind 66 = .ok (.ireturn, 1) := by decide +kernel
theorem dX11_isOfKind_67 : decode cX11_isOfKind 67 = .ok (.iconst 0, 1) := by decide +kernel
theorem dX11_isOfKind_68 : decode cX11_isOfKind 68 = .ok (.ireturn, 1) := by decide +kernel
theorem dX11_bitOf_0 : decode cX11_bitOf 0 = .ok (.iload_n 0, 1) := by decide +kernel
theorem dX11_bitOf_1 : decode cX11_bitOf 1 = .ok (.iload_n 1, 1) := by decide +kernel
theorem dX11_bitOf_2 : decode cX11_bitOf 2 = .ok (.ishr, 1) := by decide +kernel
theorem dX11_bitOf_3 : decode cX11_bitOf 3 = .ok (.iconst 1, 1) := by decide +kernel
theorem dX11_bitOf_4 : decode cX11_bitOf 4 = .ok (.iand, 1) := by decide +kernel
theorem dX11_bitOf_5 : decode cX11_bitOf 5 = .ok (.ireturn, 1) := by decide +kernel
theorem dX11_commonDivisor_0 : decode cX11_commonDivisor 0 = .ok (.lload_n 0, 1) := by decide +kernel
theorem dX11_commonDivisor_1 : decode cX11_commonDivisor 1 = .ok (.lstore 4, 2) := by decide +kernel
theorem dX11_commonDivisor_3 : decode cX11_commonDivisor 3 = .ok (.lload_n 2, 1) := by decide +kernel
theorem dX11_commonDivisor_4 : decode cX11_commonDivisor 4 = .ok (.lstore 6, 2) := by decide +kernel
theorem dX11_commonDivisor_6 : decode cX11_commonDivisor 6 = .ok (.iconst 0, 1) := by decide +kernel
theorem dX11_commonDivisor_7 : decode cX11_commonDivisor 7 = .ok (.istore 8, 2) := by decide +kernel
theorem dX11_commonDivisor_9 : decode cX11_commonDivisor 9 = .ok (.iload 8, 2) := by decide +kernel
theorem dX11_commonDivisor_11 : decode cX11_commonDivisor 11 = .ok (.sipush 200, 3) := by decide +kernel
theorem dX11_commonDivisor_14 : decode cX11_commonDivisor 14 = .ok (.if_icmp .ge 31, 3) := by decide +kernel
theorem dX11_commonDivisor_17 : decode cX11_commonDivisor 17 = .ok (.lload 6, 2) := by decide +kernel
theorem dX11_commonDivisor_19 : decode cX11_commonDivisor 19 = .ok (.lconst 0, 1) := by decide +kernel
theorem dX11_commonDivisor_20 : decode cX11_commonDivisor 20 = .ok (.lcmp, 1) := by decide +kernel
theorem dX11_commonDivisor_21 : decode cX11_commonDivisor 21 = .ok (.ifCond .eq 24, 3) := by decide +kernel
theorem dX11_commonDivisor_24 : decode cX11_commonDivisor 24 = .ok (.lload 4, 2) := by decide +kernel
theorem dX11_commonDivisor_26 : decode cX11_commonDivisor 26 = .ok (.lload 6, 2) := by decide +kernel
theorem dX11_commonDivisor_28 : decode cX11_commonDivisor 28 = .ok (.lrem, 1) := by decide +kernel
theorem dX11_commonDivisor_29 : decode cX11_commonDivisor 29 = .ok (.lstore 9, 2) := by decide +kernel
theorem dX11_commonDivisor_31 : decode cX11_commonDivisor 31 = .ok (.lload 6, 2) := by decide +kernel
theorem dX11_commonDivisor_33 : decode cX11_commonDivisor 33 = .ok (.lstore 4, 2) := by decide +kernel
theorem dX11_commonDivisor_35 : decode cX11_commonDivisor 35 = .ok (.lload 9, 2) := by decide +kernel
theorem dX11_commonDivisor_37 : decode cX11_commonDivisor 37 = .ok (.lstore 6, 2) := by decide +kernel
theorem dX11_commonDivisor_39 : decode cX11_commonDivisor 39 = .ok (.iinc 8 1, 3) := by decide +kernel
theorem dX11_commonDivisor_42 : decode cX11_commonDivisor 42 = .ok (.goto (-33), 3) := by decide +kernel
theorem dX11_commonDivisor_45 : decode cX11_commonDivisor 45 = .ok (.lload 4, 2) := by decide +kernel
theorem dX11_commonDivisor_47 : decode cX11_commonDivisor 47 = .ok (.lconst 0, 1) := by decide +kernel
theorem dX11_commonDivisor_48 : decode cX11_commonDivisor 48 = .ok (.lcmp, 1) := by decide +kernel
theorem dX11_commonDivisor_49 : decode cX11_commonDivisor 49 = .ok (.ifCond .le 8, 3) := by decide +kernel
theorem dX11_commonDivisor_52 : decode cX11_commonDivisor 52 = .ok (.lload 4, 2) := by decide +kernel
theorem dX11_commonDivisor_54 : decode cX11_commonDivisor 54 = .ok (.goto 4, 3) := by decide +kernel
theorem dX11_commonDivisor_57 : decode cX11_commonDivisor 57 = .ok (.lconst 1, 1) := by decide +kernel
theorem dX11_commonDivisor_58 : decode cX11_commonDivisor 58 = .ok (.lreturn, 1) := by decide +kernel
theorem dX12_init_0 : decode cX12_init 0 = .ok (.aload_n 0, 1) := by decide +kernel
theorem dX12_init_1 : decode cX12_init 1 = .ok (.invokespecial 1, 3) := by decide +kernel
theorem dX12_init_4 : decode cX12_init 4 = .ok (.aload_n 0, 1) := by decide +kernel
theorem dX12_init_5 : decode cX12_init 5 = .ok (.bipush 8, 2) := by decide +kernel
theorem dX12_init_7 : decode cX12_init 7 = .ok (.newarray .int, 2) := by decide +kernel
theorem dX12_init_9 : decode cX12_init 9 = .ok (.dup, 1) := by decide +kernel
theorem dX12_init_10 : decode cX12_init 10 = .ok (.iconst 0, 1) := by decide +kernel
theorem dX12_init_11 : decode cX12_init 11 = .ok (.iconst (-1), 1) := by decide +kernel
theorem dX12_init_12 : decode cX12_init 12 = .ok (.iastore, 1) := by decide +kernel
theorem dX12_init_13 : decode cX12_init 13 = .ok (.dup, 1) := by decide +kernel
theorem dX12_init_14 : decode cX12_init 14 = .ok (.iconst 1, 1) := by decide +kernel
theorem dX12_init_15 : decode cX12_init 15 = .ok (.iconst (-1), 1) := by decide +kernel
theorem dX12_init_16 : decode cX12_init 16 = .ok (.iastore, 1) := by decide +kernel
theorem dX12_init_17 : decode cX12_init 17 = .ok (.dup, 1) := by decide +kernel
theorem dX12_init_18 : decode cX12_init 18 = .ok (.iconst 2, 1) := by decide +kernel
theorem dX12_init_19 : decode cX12_init 19 = .ok (.iconst (-1), 1) := by decide +kernel
theorem dX12_init_20 : decode cX12_init 20 = .ok (.iastore, 1) := by decide +kernel
theorem dX12_init_21 : decode cX12_init 21 = .ok (.dup, 1) := by decide +kernel
theorem dX12_init_22 : decode cX12_init 22 = .ok (.iconst 3, 1) := by decide +kernel
theorem dX12_init_23 : decode cX12_init 23 = .ok (.iconst (-1), 1) := by decide +kernel
theorem dX12_init_24 : decode cX12_init 24 = .ok (.iastore, 1) := by decide +kernel
theorem dX12_init_25 : decode cX12_init 25 = .ok (.dup, 1) := by decide +kernel
theorem dX12_init_26 : decode cX12_init 26 = .ok (.iconst 4, 1) := by decide +kernel
theorem dX12_init_27 : decode cX12_init 27 = .ok (.iconst (-1), 1) := by decide +kernel
theorem dX12_init_28 : decode cX12_init 28 = .ok (.iastore, 1) := by decide +kernel
theorem dX12_init_29 : decode cX12_init 29 = .ok (.dup, 1) := by decide +kernel
theorem dX12_init_30 : decode cX12_init 30 = .ok (.iconst 5, 1) := by decide +kernel
theorem dX12_init_31 : decode cX12_init 31 = .ok (.iconst (-1), 1) := by decide +kernel
theorem dX12_init_32 : decode cX12_init 32 = .ok (.iastore, 1) := by decide +kernel
theorem dX12_init_33 : decode cX12_init 33 = .ok (.dup, 1) := by decide +kernel
theorem dX12_init_34 : decode cX12_init 34 = .ok (.bipush 6, 2) := by decide +kernel
theorem dX12_init_36 : decode cX12_init 36 = .ok (.iconst (-1), 1) := by decide +kernel
theorem dX12_init_37 : decode cX12_init 37 = .ok (.iastore, 1) := by decide +kernel
theorem dX12_init_38 : decode cX12_init 38 = .ok (.dup, 1) := by decide +kernel
theorem dX12_init_39 : decode cX12_init 39 = .ok (.bipush 7, 2) := by decide +kernel
theorem dX12_init_41 : decode cX12_init 41 = .ok (.iconst (-1), 1) := by decide +kernel
theorem dX12_init_42 : decode cX12_init 42 = .ok (.iastore, 1) := by decide +kernel
theorem dX12_init_43 : decode cX12_init 43 = .ok (.putfield 7, 3) := by decide +kernel
theorem dX12_init_46 : decode cX12_init 46 = .ok (.aload_n 0, 1) := by decide +kernel
theorem dX12_init_47 : decode cX12_init 47 = .ok (.bipush 8, 2) := by decide +kernel
theorem dX12_init_49 : decode cX12_init 49 = .ok (.newarray .int, 2) := by decide +kernel
theorem dX12_init_51 : decode cX12_init 51 = .ok (.putfield 13, 3) := by decide +kernel
theorem dX12_init_54 : decode cX12_init 54 = .ok (.aload_n 0, 1) := by decide +kernel
theorem dX12_init_55 : decode cX12_init 55 = .ok (.sipush 320, 3) := by decide +kernel
theorem dX12_init_58 : decode cX12_init 58 = .ok (.newarray .int, 2) := by decide +kernel
theorem dX12_init_60 : decode cX12_init 60 = .ok (.putfield 16, 3) := by decide +kernel
theorem dX12_init_63 : decode cX12_init 63 = .ok (.aload_n 0, 1) := by decide +kernel
theorem dX12_init_64 : decode cX12_init 64 = .ok (.bipush 67, 2) := by decide +kernel
theorem dX12_init_66 : decode cX12_init 66 = .ok (.newarray .int, 2) := by decide +kernel
theorem dX12_init_68 : decode cX12_init 68 = .ok (.putfield 19, 3) := by decide +kernel
theorem dX12_init_71 : decode cX12_init 71 = .ok (.aload_n 0, 1) := by decide +kernel
theorem dX12_init_72 : decode cX12_init 72 = .ok (.bipush 67, 2) := by decide +kernel
theorem dX12_init_74 : decode cX12_init 74 = .ok (.newarray .int, 2) := by decide +kernel
theorem dX12_init_76 : decode cX12_init 76 = .ok (.putfield 22, 3) := by decide +kernel
theorem dX12_init_79 : decode cX12_init 79 = .ok (.aload_n 0, 1) := by decide +kernel
theorem dX12_init_80 : decode cX12_init 80 = .ok (.bipush 67, 2) := by decide +kernel
theorem dX12_init_82 : decode cX12_init 82 = .ok (.newarray .int, 2) := by decide +kernel
theorem dX12_init_84 : decode cX12_init 84 = .ok (.putfield 25, 3) := by decide +kernel
theorem dX12_init_87 : decode cX12_init 87 = .ok (.aload_n 0, 1) := by decide +kernel
theorem dX12_init_88 : decode cX12_init 88 = .ok (.sipush 1608, 3) := by decide +kernel
theorem dX12_init_91 : decode cX12_init 91 = .ok (.newarray .int, 2) := by decide +kernel
theorem dX12_init_93 : decode cX12_init 93 = .ok (.putfield 28, 3) := by decide +kernel
theorem dX12_init_96 : decode cX12_init 96 = .ok (.aload_n 0, 1) := by decide +kernel
theorem dX12_init_97 : decode cX12_init 97 = .ok (.sipush 140, 3) := by decide +kernel
theorem dX12_init_100 : decode cX12_init 100 = .ok (.newarray .int, 2) := by decide +kernel
theorem dX12_init_102 : decode cX12_init 102 = .ok (.putfield 31, 3) := by decide +kernel
theorem dX12_init_105 : decode cX12_init 105 = .ok (.aload_n 0, 1) := by decide +kernel
theorem dX12_init_106 : decode cX12_init 106 = .ok (.bipush 8, 2) := by decide +kernel
theorem dX12_init_108 : decode cX12_init 108 = .ok (.newarray .int, 2) := by decide +kernel
theorem dX12_init_110 : decode cX12_init 110 = .ok (.putfield 34, 3) := by decide +kernel
theorem dX12_init_113 : decode cX12_init 113 = .ok (.aload_n 0, 1) := by decide +kernel
theorem dX12_init_114 : decode cX12_init 114 = .ok (.iconst 2, 1) := by decide +kernel
theorem dX12_init_115 : decode cX12_init 115 = .ok (.newarray .boolean, 2) := by decide +kernel
theorem dX12_init_117 : decode cX12_init 117 = .ok (.putfield 37, 3) := by decide +kernel
theorem dX12_init_120 : decode cX12_init 120 = .ok (.aload_n 0, 1) := by decide +kernel
theorem dX12_init_121 : decode cX12_init 121 = .ok (.sipush 134, 3) := by decide +kernel
theorem dX12_init_124 : decode cX12_init 124 = .ok (.newarray .int, 2) := by decide +kernel
theorem dX12_init_126 : decode cX12_init 126 = .ok (.putfield 41, 3) := by decide +kernel
theorem dX12_init_129 : decode cX12_init 129 = .ok (.aload_n 0, 1) := by decide +kernel
theorem dX12_init_130 : decode cX12_init 130 = .ok (.bipush 16, 2) := by decide +kernel
theorem dX12_init_132 : decode cX12_init 132 = .ok (.newarray .int, 2) := by decide +kernel
theorem dX12_init_134 : decode cX12_init 134 = .ok (.putfield 44, 3) := by decide +kernel
theorem dX12_init_137 : decode cX12_init 137 = .ok (.return_, 1) := by decide +kernel
theorem dX12_in_0 : decode cX12_in 0 = .ok (.lload_n 0, 1) := by decide +kernel
theorem dX12_in_1 : decode cX12_in 1 = .ok (.lload_n 2, 1) := by decide +kernel
theorem dX12_in_2 : decode cX12_in 2 = .ok (.lcmp, 1) := by decide +kernel
theorem dX12_in_3 : decode cX12_in 3 = .ok (.ifCond .lt 14, 3) := by decide +kernel
theorem dX12_in_6 : decode cX12_in 6 = .ok (.lload_n 0, 1) := by decide +kernel
theorem dX12_in_7 : decode cX12_in 7 = .ok (.lload 4, 2) := by decide +kernel
theorem dX12_in_9 : decode cX12_in 9 = .ok (.lcmp, 1) := by decide +kernel
theorem dX12_in_10 : decode cX12_in 10 = .ok (.ifCond .gt 7, 3) := by decide +kernel
theorem dX12_in_13 : decode cX12_in 13 = .ok (.iconst 1, 1) := by decide +kernel
theorem dX12_in_14 : decode cX12_in 14 = .ok (.goto 4, 3) := by decide +kernel
theorem dX12_in_17 : decode cX12_in 17 = .ok (.iconst 0, 1) := by decide +kernel
theorem dX12_in_18 : decode cX12_in 18 = .ok (.ireturn, 1) := by decide +kernel
theorem dX12_finding_0 : decode cX12_finding 0 = .ok (.aload_n 0, 1) := by decide +kernel
theorem dX12_finding_1 : decode cX12_finding 1 = .ok (.iload_n 1, 1) := by decide +kernel
theorem dX12_finding_2 : decode cX12_finding 2 = .ok (.putfield 51, 3) := by decide +kernel
theorem dX12_finding_5 : decode cX12_finding 5 = .ok (.ldc 54, 2) := by decide +kernel
theorem dX12_finding_7 : decode cX12_finding 7 = .ok (.iload_n 1, 1) := by decide +kernel
theorem dX12_finding_8 : decode cX12_finding 8 = .ok (.isub, 1) := by decide +kernel
theorem dX12_finding_9 : decode cX12_finding 9 = .ok (.ireturn, 1) := by decide +kernel
theorem dX12_isRow_0 : decode cX12_isRow 0 = .ok (.iload_n 0, 1) := by decide +kernel
theorem dX12_isRow_1 : decode cX12_isRow 1 = .ok (.i2l, 1) := by decide +kernel
theorem dX12_isRow_2 : decode cX12_isRow 2 = .ok (.lconst 0, 1) := by decide +kernel
theorem dX12_isRow_3 : decode cX12_isRow 3 = .ok (.ldc2_w 55, 3) := by decide +kernel
theorem dX12_isRow_6 : decode cX12_isRow 6 = .ok (.invokestatic 57, 3) := by decide +kernel
theorem dX12_isRow_9 : decode cX12_isRow 9 = .ok (.ireturn, 1) := by decide +kernel
theorem dX12_row_0 : decode cX12_row 0 = .ok (.aload_n 0, 1) := by decide +kernel
theorem dX12_row_1 : decode cX12_row 1 = .ok (.iconst 0, 1) := by decide +kernel
theorem dX12_row_2 : decode cX12_row 2 = .ok (.putfield 47, 3) := by decide +kernel
theorem dX12_row_5 : decode cX12_row 5 = .ok (.iload_n 1, 1) := by decide +kernel
theorem dX12_row_6 : decode cX12_row 6 = .ok (.invokestatic 61, 3) := by decide +kernel
theorem dX12_row_9 : decode cX12_row 9 = .ok (.ifCond .eq 21, 3) := by decide +kernel
theorem dX12_row_12 : decode cX12_row 12 = .ok (.iload_n 2, 1) := by decide +kernel
theorem dX12_row_13 : decode cX12_row 13 = .ok (.i2l, 1) := by decide +kernel
theorem dX12_row_14 : decode cX12_row 14 = .ok (.lconst 0, 1) := by decide +kernel
theorem dX12_row_15 : decode cX12_row 15 = .ok (.ldc2_w 65, 3) := by decide +kernel
theorem dX12_row_18 : decode cX12_row 18 = .ok (.invokestatic 57, 3) := by decide +kernel
theorem dX12_row_21 : decode cX12_row 21 = .ok (.ifCond .eq 9, 3) := by decide +kernel
theorem dX12_row_24 : decode cX12_row 24 = .ok (.iload_n 3, 1) := by decide +kernel
theorem dX12_row_25 : decode cX12_row 25 = .ok (.bipush 40, 2) := by decide +kernel
theorem dX12_row_27 : decode cX12_row 27 = .ok (.if_icmp .le 6, 3) := by decide +kernel
theorem dX12_row_30 : decode cX12_row 30 = .ok (.ldc 67, 2) := by decide +kernel
theorem dX12_row_32 : decode cX12_row 32 = .ok (.ireturn, 1) := by decide +kernel
theorem dX12_row_33 : decode cX12_row 33 = .ok (.aload_n 0, 1) := by decide +kernel
theorem dX12_row_34 : decode cX12_row 34 = .ok (.iconst 0, 1) := by decide +kernel
theorem dX12_row_35 : decode cX12_row 35 = .ok (.putfield 51, 3) := by decide +kernel
theorem dX12_row_38 : decode cX12_row 38 = .ok (.iload_n 3, 1) := by decide +kernel
theorem dX12_row_39 : decode cX12_row 39 = .ok (.ifCond .ge 9, 3) := by decide +kernel
theorem dX12_row_42 : decode cX12_row 42 = .ok (.aload_n 0, 1) := by decide +kernel
theorem dX12_row_43 : decode cX12_row 43 = .ok (.iconst 4, 1) := by decide +kernel
theorem dX12_row_44 : decode cX12_row 44 = .ok (.invokevirtual 68, 3) := by decide +kernel
theorem dX12_row_47 : decode cX12_row 47 = .ok (.ireturn, 1) := by decide +kernel
theorem dX12_row_48 : decode cX12_row 48 = .ok (.aload_n 0, 1) := by decide +kernel
theorem dX12_row_49 : decode cX12_row 49 = .ok (.getfield 7, 3) := by decide +kernel
theorem dX12_row_52 : decode cX12_row 52 = .ok (.iload_n 1, 1) := by decide +kernel
theorem dX12_row_53 : decode cX12_row 53 = .ok (.iload_n 2, 1) := by decide +kernel
theorem dX12_row_54 : decode cX12_row 54 = .ok (.iastore, 1) := by decide +kernel
theorem dX12_row_55 : decode cX12_row 55 = .ok (.aload_n 0, 1) := by decide +kernel
theorem dX12_row_56 : decode cX12_row 56 = .ok (.getfield 13, 3) := by decide +kernel
theorem dX12_row_59 : decode cX12_row 59 = .ok (.iload_n 1, 1) := by decide +kernel
theorem dX12_row_60 : decode cX12_row 60 = .ok (.iload_n 3, 1) := by decide +kernel
theorem dX12_row_61 : decode cX12_row 61 = .ok (.iastore, 1) := by decide +kernel
theorem dX12_row_62 : decode cX12_row 62 = .ok (.iconst 0, 1) := by decide +kernel
theorem dX12_row_63 : decode cX12_row 63 = .ok (.istore 4, 2) := by decide +kernel
theorem dX12_row_65 : decode cX12_row 65 = .ok (.iload 4, 2) := by decide +kernel
theorem dX12_row_67 : decode cX12_row 67 = .ok (.bipush 40, 2) := by decide +kernel
theorem dX12_row_69 : decode cX12_row 69 = .ok (.if_icmp .ge 22, 3) := by decide +kernel
theorem dX12_row_72 : decode cX12_row 72 = .ok (.aload_n 0, 1) := by decide +kernel
theorem dX12_row_73 : decode cX12_row 73 = .ok (.getfield 16, 3) := by decide +kernel
theorem dX12_row_76 : decode cX12_row 76 = .ok (.bipush 40, 2) := by decide +kernel
theorem dX12_row_78 : decode cX12_row 78 = .ok (.iload_n 1, 1) := by decide +kernel
theorem dX12_row_79 : decode cX12_row 79 = .ok (.imul, 1) := by decide +kernel
theorem dX12_row_80 : decode cX12_row 80 = .ok (.iload 4, 2) := by decide +kernel
theorem dX12_row_82 : decode cX12_row 82 = .ok (.iadd, 1) := by decide +kernel
theorem dX12_row_83 : decode cX12_row 83 = .ok (.iconst 0, 1) := by decide +kernel
theorem dX12_row_84 : decode cX12_row 84 = .ok (.iastore, 1) := by decide +kernel
theorem dX12_row_85 : decode cX12_row 85 = .ok (.iinc 4 1, 3) := by decide +kernel
theorem dX12_row_88 : decode cX12_row 88 = .ok (.goto (-23), 3) := by decide +kernel
theorem dX12_row_91 : decode cX12_row 91 = .ok (.iload_n 3, 1) := by decide +kernel
theorem dX12_row_92 : decode cX12_row 92 = .ok (.ireturn, 1) := by decide +kernel
theorem dX12_set_0 : decode cX12_set 0 = .ok (.aload_n 0, 1) := by decide +kernel
theorem dX12_set_1 : decode cX12_set 1 = .ok (.iconst 0, 1) := by decide +kernel
theorem dX12_set_2 : decode cX12_set 2 = .ok (.putfield 47, 3) := by decide +kernel
theorem dX12_set_5 : decode cX12_set 5 = .ok (.iload_n 1, 1) := by decide +kernel
theorem dX12_set_6 : decode cX12_set 6 = .ok (.invokestatic 61, 3) := by decide +kernel
theorem dX12_set_9 : decode cX12_set 9 = .ok (.ifCond .ne 6, 3) := by decide +kernel
theorem dX12_set_12 : decode cX12_set 12 = .ok (.ldc 67, 2) := by decide +kernel
theorem dX12_set_14 : decode cX12_set 14 = .ok (.ireturn, 1) := by decide +kernel
theorem dX12_set_15 : decode cX12_set 15 = .ok (.aload_n 0, 1) := by decide +kernel
theorem dX12_set_16 : decode cX12_set 16 = .ok (.iconst 0, 1) := by decide +kernel
theorem dX12_set_17 : decode cX12_set 17 = .ok (.putfield 51, 3) := by decide +kernel
theorem dX12_set_20 : decode cX12_set 20 = .ok (.aload_n 0, 1) := by decide +kernel
theorem dX12_set_21 : decode cX12_set 21 = .ok (.getfield 7, 3) := by decide +kernel
theorem dX12_set_24 : decode cX12_set 24 = .ok (.iload_n 1, 1) := by decide +kernel
theorem dX12_set_25 : decode cX12_set 25 = .ok (.iaload, 1) := by decide +kernel
theorem dX12_set_26 : decode cX12_set 26 = .ok (.ifCond .ge 9, 3) := by decide +kernel
theorem dX12_set_29 : decode cX12_set 29 = .ok (.aload_n 0, 1) := by decide +kernel
theorem dX12_set_30 : decode cX12_set 30 = .ok (.iconst 1, 1) := by decide +kernel
theorem dX12_set_31 : decode cX12_set 31 = .ok (.invokevirtual 68, 3) := by decide +kernel
theorem dX12_set_34 : decode cX12_set 34 = .ok (.ireturn, 1) := by decide +kernel
theorem dX12_set_35 : decode cX12_set 35 = .ok (.iload_n 2, 1) := by decide +kernel
theorem dX12_set_36 : decode cX12_set 36 = .ok (.i2l, 1) := by decide +kernel
theorem dX12_set_37 : decode cX12_set 37 = .ok (.lconst 0, 1) := by decide +kernel
theorem dX12_set_38 : decode cX12_set 38 = .ok (.aload_n 0, 1) := by decide +kernel
theorem dX12_set_39 : decode cX12_set 39 = .ok (.getfield 13, 3) := by decide +kernel
theorem dX12_set_42 : decode cX12_set 42 = .ok (.iload_n 1, 1) := by decide +kernel
theorem dX12_set_43 : decode cX12_set 43 = .ok (.iaload, 1) := by decide +kernel
theorem dX12_set_44 : decode cX12_set 44 = .ok (.iconst 1, 1) := by decide +kernel
theorem dX12_set_45 : decode cX12_set 45 = .ok (.isub, 1) := by decide +kernel
theorem dX12_set_46 : decode cX12_set 46 = .ok (.i2l, 1) := by decide +kernel
theorem dX12_set_47 : decode cX12_set 47 = .ok (.invokestatic 57, 3) := by decide +kernel
theorem dX12_set_50 : decode cX12_set 50 = .ok (.ifCond .ne 9, 3) := by decide +kernel
theorem dX12_set_53 : decode cX12_set 53 = .ok (.aload_n 0, 1) := by decide +kernel
theorem dX12_set_54 : decode cX12_set 54 = .ok (.iconst 2, 1) := by decide +kernel
theorem dX12_set_55 : decode cX12_set 55 = .ok (.invokevirtual 68, 3) := by decide +kernel
theorem dX12_set_58 : decode cX12_set 58 = .ok (.ireturn, 1) := by decide +kernel
theorem dX12_set_59 : decode cX12_set 59 = .ok (.aload_n 0, 1) := by decide +kernel
theorem dX12_set_60 : decode cX12_set 60 = .ok (.getfield 16, 3) := by decide +kernel
theorem dX12_set_63 : decode cX12_set 63 = .ok (.bipush 40, 2) := by decide +kernel
theorem dX12_set_65 : decode cX12_set 65 = .ok (.iload_n 1, 1) := by decide +kernel
theorem dX12_set_66 : decode cX12_set 66 = .ok (.imul, 1) := by decide +kernel
theorem dX12_set_67 : decode cX12_set 67 = .ok (.iload_n 2, 1) := by decide +kernel
theorem dX12_set_68 : decode cX12_set 68 = .ok (.iadd, 1) := by decide +kernel
theorem dX12_set_69 : decode cX12_set 69 = .ok (.aload_n 0, 1) := by decide +kernel
theorem dX12_set_70 : decode cX12_set 70 = .ok (.getfield 7, 3) := by decide +kernel
theorem dX12_set_73 : decode cX12_set 73 = .ok (.iload_n 1, 1) := by decide +kernel
theorem dX12_set_74 : decode cX12_set 74 = .ok (.iaload, 1) := by decide +kernel
theorem dX12_set_75 : decode cX12_set 75 = .ok (.ifCond .ne 8, 3) := by decide +kernel
theorem dX12_set_78 : decode cX12_set 78 = .ok (.iload_n 3, 1) := by decide +kernel
theorem dX12_set_79 : decode cX12_set 79 = .ok (.i2b, 1) := by decide +kernel
theorem dX12_set_80 : decode cX12_set 80 = .ok (.goto 19, 3) := by decide +kernel
theorem dX12_set_83 : decode cX12_set 83 = .ok (.aload_n 0, 1) := by decide +kernel
theorem dX12_set_84 : decode cX12_set 84 = .ok (.getfield 7, 3) := by decide +kernel
theorem dX12_set_87 : decode cX12_set 87 = .ok (.iload_n 1, 1) := by decide +kernel
theorem dX12_set_88 : decode cX12_set 88 = .ok (.iaload, 1) := by decide +kernel
theorem dX12_set_89 : decode cX12_set 89 = .ok (.iconst 1, 1) := by decide +kernel
theorem dX12_set_90 : decode cX12_set 90 = .ok (.if_icmp .ne 8, 3) := by decide +kernel
theorem dX12_set_93 : decode cX12_set 93 = .ok (.iload_n 3, 1) := by decide +kernel
theorem dX12_set_94 : decode cX12_set 94 = .ok (.i2s, 1) := by decide +kernel
theorem dX12_set_95 : decode cX12_set 95 = .ok (.goto 4, 3) := by decide +kernel
theorem dX12_set_98 : decode cX12_set 98 = .ok (.iload_n 3, 1) := by decide +kernel
theorem dX12_set_99 : decode cX12_set 99 = .ok (.iastore, 1) := by decide +kernel
theorem dX12_set_100 : decode cX12_set 100 = .ok (.aload_n 0, 1) := by decide +kernel
theorem dX12_set_101 : decode cX12_set 101 = .ok (.getfield 16, 3) := by decide +kernel
theorem dX12_set_104 : decode cX12_set 104 = .ok (.bipush 40, 2) := by decide +kernel
theorem dX12_set_106 : decode cX12_set 106 = .ok (.iload_n 1, 1) := by decide +kernel
theorem dX12_set_107 : decode cX12_set 107 = .ok (.imul, 1) := by decide +kernel
theorem dX12_set_108 : decode cX12_set 108 = .ok (.iload_n 2, 1) := by decide +kernel
theorem dX12_set_109 : decode cX12_set 109 = .ok (.iadd, 1) := by decide +kernel
theorem dX12_set_110 : decode cX12_set 110 = .ok (.iaload, 1) := by decide +kernel
theorem dX12_set_111 : decode cX12_set 111 = .ok (.ireturn, 1) := by decide +kernel
theorem dX12_copy_0 : decode cX12_copy 0 = .ok (.aload_n 0, 1) := by decide +kernel
theorem dX12_copy_1 : decode cX12_copy 1 = .ok (.iconst 0, 1) := by decide +kernel
theorem dX12_copy_2 : decode cX12_copy 2 = .ok (.putfield 47, 3) := by decide +kernel
theorem dX12_copy_5 : decode cX12_copy 5 = .ok (.iload_n 1, 1) := by decide +kernel
theorem dX12_copy_6 : decode cX12_copy 6 = .ok (.invokestatic 61, 3) := by decide +kernel
theorem dX12_copy_9 : decode cX12_copy 9 = .ok (.ifCond .eq 10, 3) := by decide +kernel
theorem dX12_copy_12 : decode cX12_copy 12 = .ok (.iload_n 3, 1) := by decide +kernel
theorem dX12_copy_13 : decode cX12_copy 13 = .ok (.invokestatic 61, 3) := by decide +kernel
theorem dX12_copy_16 : decode cX12_copy 16 = .ok (.ifCond .ne 6, 3) := by decide +kernel
theorem dX12_copy_19 : decode cX12_copy 19 = .ok (.ldc 67, 2) := by decide +kernel
theorem dX12_copy_21 : decode cX12_copy 21 = .ok (.ireturn, 1) := by decide +kernel
theorem dX12_copy_22 : decode cX12_copy 22 = .ok (.aload_n 0, 1) := by decide +kernel
theorem dX12_copy_23 : decode cX12_copy 23 = .ok (.iconst 0, 1) := by decide +kernel
theorem dX12_copy_24 : decode cX12_copy 24 = .ok (.putfield 51, 3) := by decide +kernel
theorem dX12_copy_27 : decode cX12_copy 27 = .ok (.aload_n 0, 1) := by decide +kernel
theorem dX12_copy_28 : decode cX12_copy 28 = .ok (.getfield 7, 3) := by decide +kernel
theorem dX12_copy_31 : decode cX12_copy 31 = .ok (.iload_n 1, 1) := by decide +kernel
theorem dX12_copy_32 : decode cX12_copy 32 = .ok (.iaload, 1) := by decide +kernel
theorem dX12_copy_33 : decode cX12_copy 33 = .ok (.ifCond .lt 12, 3) := by decide +kernel
theorem dX12_copy_36 : decode cX12_copy 36 = .ok (.aload_n 0, 1) := by decide +kernel
theorem dX12_copy_37 : decode cX12_copy 37 = .ok (.getfield 7, 3) := by decide +kernel
theorem dX12_copy_40 : decode cX12_copy 40 = .ok (.iload_n 3, 1) := by decide +kernel
theorem dX12_copy_41 : decode cX12_copy 41 = .ok (.iaload, 1) := by decide +kernel
theorem dX12_copy_42 : decode cX12_copy 42 = .ok (.ifCond .ge 9, 3) := by decide +kernel
theorem dX12_copy_45 : decode cX12_copy 45 = .ok (.aload_n 0, 1) := by decide +kernel
theorem dX12_copy_46 : decode cX12_copy 46 = .ok (.iconst 1, 1) := by decide +kernel
theorem dX12_copy_47 : decode cX12_copy 47 = .ok (.invokevirtual 68, 3) := by decide +kernel
theorem dX12_copy_50 : decode cX12_copy 50 = .ok (.ireturn, 1) := by decide +kernel
theorem dX12_copy_51 : decode cX12_copy 51 = .ok (.aload_n 0, 1) := by decide +kernel
theorem dX12_copy_52 : decode cX12_copy 52 = .ok (.getfield 7, 3) := by decide +kernel
theorem dX12_copy_55 : decode cX12_copy 55 = .ok (.iload_n 1, 1) := by decide +kernel
theorem dX12_copy_56 : decode cX12_copy 56 = .ok (.iaload, 1) := by decide +kernel
theorem dX12_copy_57 : decode cX12_copy 57 = .ok (.aload_n 0, 1) := by decide +kernel
theorem dX12_copy_58 : decode cX12_copy 58 = .ok (.getfield 7, 3) := by decide +kernel
theorem dX12_copy_61 : decode cX12_copy 61 = .ok (.iload_n 3, 1) := by decide +kernel
theorem dX12_copy_62 : decode cX12_copy 62 = .ok (.iaload, 1) := by decide +kernel
theorem dX12_copy_63 : decode cX12_copy 63 = .ok (.if_icmp .eq 9, 3) := by decide +kernel
theorem dX12_copy_66 : decode cX12_copy 66 = .ok (.aload_n 0, 1) := by decide +kernel
theorem dX12_copy_67 : decode cX12_copy 67 = .ok (.iconst 5, 1) := by decide +kernel
theorem dX12_copy_68 : decode cX12_copy 68 = .ok (.invokevirtual 68, 3) := by decide +kernel
theorem dX12_copy_71 : decode cX12_copy 71 = .ok (.ireturn, 1) := by decide +kernel
theorem dX12_copy_72 : decode cX12_copy 72 = .ok (.iload_n 2, 1) := by decide +kernel
theorem dX12_copy_73 : decode cX12_copy 73 = .ok (.ifCond .lt 48, 3) := by decide +kernel
theorem dX12_copy_76 : decode cX12_copy 76 = .ok (.iload 4, 2) := by decide +kernel
theorem dX12_copy_78 : decode cX12_copy 78 = .ok (.ifCond .lt 43, 3) := by decide +kernel
theorem dX12_copy_81 : decode cX12_copy 81 = .ok (.iload 5, 2) := by decide +kernel
theorem dX12_copy_83 : decode cX12_copy 83 = .ok (.ifCond .lt 38, 3) := by decide +kernel
theorem dX12_copy_86 : decode cX12_copy 86 = .ok (.iload_n 2, 1) := by decide +kernel
theorem dX12_copy_87 : decode cX12_copy 87 = .ok (.i2l, 1) := by decide +kernel
theorem dX12_copy_88 : decode cX12_copy 88 = .ok (.iload 5, 2) := by decide +kernel
theorem dX12_copy_90 : decode cX12_copy 90 = .ok (.i2l, 1) := by decide +kernel
theorem dX12_copy_91 : decode cX12_copy 91 = .ok (.ladd, 1) := by decide +kernel
theorem dX12_copy_92 : decode cX12_copy 92 = .ok (.aload_n 0, 1) := by decide +kernel
theorem dX12_copy_93 : decode cX12_copy 93 = .ok (.getfield 13, 3) := by decide +kernel
theorem dX12_copy_96 : decode cX12_copy 96 = .ok (.iload_n 1, 1) := by decide +kernel
theorem dX12_copy_97 : decode cX12_copy 97 = .ok (.iaload, 1) := by decide +kernel
theorem dX12_copy_98 : decode cX12_copy 98 = .ok (.i2l, 1) := by decide +kernel
theorem dX12_copy_99 : decode cX12_copy 99 = .ok (.lcmp, 1) := by decide +kernel
theorem dX12_copy_100 : decode cX12_copy 100 = .ok (.ifCond .gt 21, 3) := by decide +kernel
theorem dX12_copy_103 : decode cX12_copy 103 = .ok (.iload 4, 2) := by decide +kernel
theorem dX12_copy_105 : decode cX12_copy 105 = .ok (.i2l, 1) := by decide +kernel
theorem dX12_copy_106 : decode cX12_copy 106 = .ok (.iload 5, 2) := by decide +kernel
theorem dX12_copy_108 : decode cX12_copy 108 = .ok (.i2l, 1) := by decide +kernel
theorem dX12_copy_109 : decode cX12_copy 109 = .ok (.ladd, 1) := by decide +kernel
theorem dX12_copy_110 : decode cX12_copy 110 = .ok (.aload_n 0, 1) := by decide +kernel
theorem dX12_copy_111 : decode cX12_copy 111 = .ok (.getfield 13, 3) := by decide +kernel
theorem dX12_copy_114 : decode cX12_copy 114 = .ok (.iload_n 3, 1) := by decide +kernel
theorem dX12_copy_115 : decode cX12_copy 115 = .ok (.iaload, 1) := by decide +kernel
theorem dX12_copy_116 : decode cX12_copy 116 = .ok (.i2l, 1) := by decide +kernel
theorem dX12_copy_117 : decode cX12_copy 117 = .ok (.lcmp, 1) := by decide +kernel
theorem dX12_copy_118 : decode cX12_copy 118 = .ok (.ifCond .le 9, 3) := by decide +kernel
theorem dX12_copy_121 : decode cX12_copy 121 = .ok (.aload_n 0, 1) := by decide +kernel
theorem dX12_copy_122 : decode cX12_copy 122 = .ok (.iconst 2, 1) := by decide +kernel
theorem dX12_copy_123 : decode cX12_copy 123 = .ok (.invokevirtual 68, 3) := by decide +kernel
theorem dX12_copy_126 : decode cX12_copy 126 = .ok (.ireturn, 1) := by decide +kernel
theorem dX12_copy_127 : decode cX12_copy 127 = .ok (.iload_n 2, 1) := by decide +kernel
theorem dX12_copy_128 : decode cX12_copy 128 = .ok (.iload 4, 2) := by decide +kernel
theorem dX12_copy_130 : decode cX12_copy 130 = .ok (.if_icmp .lt 7, 3) := by decide +kernel
theorem dX12_copy_133 : decode cX12_copy 133 = .ok (.iconst 1, 1) := by decide +kernel
theorem dX12_copy_134 : decode cX12_copy 134 = .ok (.goto 4, 3) := by decide +kernel
theorem dX12_copy_137 : decode cX12_copy 137 = .ok (.iconst 0, 1) := by decide +kernel
theorem dX12_copy_138 : decode cX12_copy 138 = .ok (.istore 6, 2) := by decide +kernel
theorem dX12_copy_140 : decode cX12_copy 140 = .ok (.iconst 0, 1) := by decide +kernel
theorem dX12_copy_141 : decode cX12_copy 141 = .ok (.istore 7, 2) := by decide +kernel
theorem dX12_copy_143 : decode cX12_copy 143 = .ok (.iload 7, 2) := by decide +kernel
theorem dX12_copy_145 : decode cX12_copy 145 = .ok (.iload 5, 2) := by decide +kernel
theorem dX12_copy_147 : decode cX12_copy 147 = .ok (.if_icmp .ge 57, 3) := by decide +kernel
theorem dX12_copy_150 : decode cX12_copy 150 = .ok (.iload 6, 2) := by decide +kernel
theorem dX12_copy_152 : decode cX12_copy 152 = .ok (.ifCond .eq 8, 3) := by decide +kernel
theorem dX12_copy_155 : decode cX12_copy 155 = .ok (.iload 7, 2) := by decide +kernel
theorem dX12_copy_157 : decode cX12_copy 157 = .ok (.goto 10, 3) := by decide +kernel
theorem dX12_copy_160 : decode cX12_copy 160 = .ok (.iload 5, 2) := by decide +kernel
theorem dX12_copy_162 : decode cX12_copy 162 = .ok (.iconst 1, 1) := by decide +kernel
theorem dX12_copy_163 : decode cX12_copy 163 = .ok (.isub, 1) := by decide +kernel
theorem dX12_copy_164 : decode cX12_copy 164 = .ok (.iload 7, 2) := by decide +kernel
theorem dX12_copy_166 : decode cX12_copy 166 = .ok (.isub, 1) := by decide +kernel
theorem dX12_copy_167 : decode cX12_copy 167 = .ok (.istore 8, 2) := by decide +kernel
theorem dX12_copy_169 : decode cX12_copy 169 = .ok (.aload_n 0, 1) := by decide +kernel
theorem dX12_copy_170 : decode cX12_copy 170 = .ok (.getfield 16, 3) := by decide +kernel
theorem dX12_copy_173 : decode cX12_copy 173 = .ok (.bipush 40, 2) := by decide +kernel
theorem dX12_copy_175 : decode cX12_copy 175 = .ok (.iload_n 3, 1) := by decide +kernel
theorem dX12_copy_176 : decode cX12_copy 176 = .ok (.imul, 1) := by decide +kernel
theorem dX12_copy_177 : decode cX12_copy 177 = .ok (.iload 4, 2) := by decide +kernel
theorem dX12_copy_179 : decode cX12_copy 179 = .ok (.iadd, 1) := by decide +kernel
theorem dX12_copy_180 : decode cX12_copy 180 = .ok (.iload 8, 2) := by decide +kernel
theorem dX12_copy_182 : decode cX12_copy 182 = .ok (.iadd, 1) := by decide +kernel
theorem dX12_copy_183 : decode cX12_copy 183 = .ok (.aload_n 0, 1) := by decide +kernel
theorem dX12_copy_184 : decode cX12_copy 184 = .ok (.getfield 16, 3) := by decide +kernel
theorem dX12_copy_187 : decode cX12_copy 187 = .ok (.bipush 40, 2) := by decide +kernel
theorem dX12_copy_189 : decode cX12_copy 189 = .ok (.iload_n 1, 1) := by decide +kernel
theorem dX12_copy_190 : decode cX12_copy 190 = .ok (.imul, 1) := by decide +kernel
theorem dX12_copy_191 : decode cX12_copy 191 = .ok (.iload_n 2, 1) := by decide +kernel
theorem dX12_copy_192 : decode cX12_copy 192 = .ok (.iadd, 1) := by decide +kernel
theorem dX12_copy_193 : decode cX12_copy 193 = .ok (.iload 8, 2) := by decide +kernel
theorem dX12_copy_195 : decode cX12_copy 195 = .ok (.iadd, 1) := by decide +kernel
theorem dX12_copy_196 : decode cX12_copy 196 = .ok (.iaload, 1) := by decide +kernel
theorem dX12_copy_197 : decode cX12_copy 197 = .ok (.iastore, 1) := by decide +kernel
theorem dX12_copy_198 : decode cX12_copy 198 = .ok (.iinc 7 1, 3) := by decide +kernel
theorem dX12_copy_201 : decode cX12_copy 201 = .ok (.goto (-58), 3) := by decide +kernel
theorem dX12_copy_204 : decode cX12_copy 204 = .ok (.iload 5, 2) := by decide +kernel
theorem dX12_copy_206 : decode cX12_copy 206 = .ok (.ireturn, 1) := by decide +kernel
theorem dX12_drop_0 : decode cX12_drop 0 = .ok (.aload_n 0, 1) := by decide +kernel
theorem dX12_drop_1 : decode cX12_drop 1 = .ok (.iconst 0, 1) := by decide +kernel
theorem dX12_drop_2 : decode cX12_drop 2 = .ok (.putfield 47, 3) := by decide +kernel
theorem dX12_drop_5 : decode cX12_drop 5 = .ok (.iload_n 1, 1) := by decide +kernel
theorem dX12_drop_6 : decode cX12_drop 6 = .ok (.invokestatic 61, 3) := by decide +kernel
theorem dX12_drop_9 : decode cX12_drop 9 = .ok (.ifCond .ne 6, 3) := by decide +kernel
theorem dX12_drop_12 : decode cX12_drop 12 = .ok (.ldc 67, 2) := by decide +kernel
theorem dX12_drop_14 : decode cX12_drop 14 = .ok (.ireturn, 1) := by decide +kernel
theorem dX12_drop_15 : decode cX12_drop 15 = .ok (.aload_n 0, 1) := by decide +kernel
theorem dX12_drop_16 : decode cX12_drop 16 = .ok (.iconst 0, 1) := by decide +kernel
theorem dX12_drop_17 : decode cX12_drop 17 = .ok (.putfield 51, 3) := by decide +kernel
theorem dX12_drop_20 : decode cX12_drop 20 = .ok (.aload_n 0, 1) := by decide +kernel
theorem dX12_drop_21 : decode cX12_drop 21 = .ok (.getfield 7, 3) := by decide +kernel
theorem dX12_drop_24 : decode cX12_drop 24 = .ok (.iload_n 1, 1) := by decide +kernel
theorem dX12_drop_25 : decode cX12_drop 25 = .ok (.iaload, 1) := by decide +kernel
theorem dX12_drop_26 : decode cX12_drop 26 = .ok (.ifCond .ge 9, 3) := by decide +kernel
theorem dX12_drop_29 : decode cX12_drop 29 = .ok (.aload_n 0, 1) := by decide +kernel
theorem dX12_drop_30 : decode cX12_drop 30 = .ok (.iconst 1, 1) := by decide +kernel
theorem dX12_drop_31 : decode cX12_drop 31 = .ok (.invokevirtual 68, 3) := by decide +kernel
theorem dX12_drop_34 : decode cX12_drop 34 = .ok (.ireturn, 1) := by decide +kernel
theorem dX12_drop_35 : decode cX12_drop 35 = .ok (.aload_n 0, 1) := by decide +kernel
theorem dX12_drop_36 : decode cX12_drop 36 = .ok (.getfield 7, 3) := by decide +kernel
theorem dX12_drop_39 : decode cX12_drop 39 = .ok (.iload_n 1, 1) := by decide +kernel
theorem dX12_drop_40 : decode cX12_drop 40 = .ok (.iconst (-1), 1) := by decide +kernel
theorem dX12_drop_41 : decode cX12_drop 41 = .ok (.iastore, 1) := by decide +kernel
theorem dX12_drop_42 : decode cX12_drop 42 = .ok (.aload_n 0, 1) := by decide +kernel
theorem dX12_drop_43 : decode cX12_drop 43 = .ok (.getfield 13, 3) := by decide +kernel
theorem dX12_drop_46 : decode cX12_drop 46 = .ok (.iload_n 1, 1) := by decide +kernel
theorem dX12_drop_47 : decode cX12_drop 47 = .ok (.iaload, 1) := by decide +kernel
theorem dX12_drop_48 : decode cX12_drop 48 = .ok (.ireturn, 1) := by decide +kernel
theorem dX12_feed_0 : decode cX12_feed 0 = .ok (.aload_n 0, 1) := by decide +kernel
theorem dX12_feed_1 : decode cX12_feed 1 = .ok (.iconst 0, 1) := by decide +kernel
theorem dX12_feed_2 : decode cX12_feed 2 = .ok (.putfield 47, 3) := by decide +kernel
theorem dX12_feed_5 : decode cX12_feed 5 = .ok (.iload_n 1, 1) := by decide +kernel
theorem dX12_feed_6 : decode cX12_feed 6 = .ok (.i2l, 1) := by decide +kernel
theorem dX12_feed_7 : decode cX12_feed 7 = .ok (.lconst 0, 1) := by decide +kernel
theorem dX12_feed_8 : decode cX12_feed 8 = .ok (.ldc2_w 72, 3) := by decide +kernel
theorem dX12_feed_11 : decode cX12_feed 11 = .ok (.invokestatic 57, 3) := by decide +kernel
theorem dX12_feed_14 : decode cX12_feed 14 = .ok (.ifCond .ne 6, 3) := by decide +kernel
theorem dX12_feed_17 : decode cX12_feed 17 = .ok (.ldc 67, 2) := by decide +kernel
theorem dX12_feed_19 : decode cX12_feed 19 = .ok (.ireturn, 1) := by decide +kernel
theorem dX12_feed_20 : decode cX12_feed 20 = .ok (.aload_n 0, 1) := by decide +kernel
theorem dX12_feed_21 : decode cX12_feed 21 = .ok (.getfield 74, 3) := by decide +kernel
theorem dX12_feed_24 : decode cX12_feed 24 = .ok (.sipush 140, 3) := by decide +kernel
theorem dX12_feed_27 : decode cX12_feed 27 = .ok (.if_icmp .ne 6, 3) := by decide +kernel
theorem dX12_feed_30 : decode cX12_feed 30 = .ok (.ldc 77, 2) := by decide +kernel
theorem dX12_feed_32 : decode cX12_feed 32 = .ok (.ireturn, 1) := by decide +kernel
theorem dX12_feed_33 : decode cX12_feed 33 = .ok (.aload_n 0, 1) := by decide +kernel
theorem dX12_feed_34 : decode cX12_feed 34 = .ok (.getfield 31, 3) := by decide +kernel
theorem dX12_feed_37 : decode cX12_feed 37 = .ok (.aload_n 0, 1) := by decide +kernel
theorem dX12_feed_38 : decode cX12_feed 38 = .ok (.getfield 74, 3) := by decide +kernel
theorem dX12_feed_41 : decode cX12_feed 41 = .ok (.iload_n 1, 1) := by decide +kernel
theorem dX12_feed_42 : decode cX12_feed 42 = .ok (.iastore, 1) := by decide +kernel
theorem dX12_feed_43 : decode cX12_feed 43 = .ok (.aload_n 0, 1) := by decide +kernel
theorem dX12_feed_44 : decode cX12_feed 44 = .ok (.dup, 1) := by decide +kernel
theorem dX12_feed_45 : decode cX12_feed 45 = .ok (.getfield 74, 3) := by decide +kernel
theorem dX12_feed_48 : decode cX12_feed 48 = .ok (.iconst 1, 1) := by decide +kernel
theorem dX12_feed_49 : decode cX12_feed 49 = .ok (.iadd, 1) := by decide +kernel
theorem dX12_feed_50 : decode cX12_feed 50 = .ok (.putfield 74, 3) := by decide +kernel
theorem dX12_feed_53 : decode cX12_feed 53 = .ok (.aload_n 0, 1) := by decide +kernel
theorem dX12_feed_54 : decode cX12_feed 54 = .ok (.getfield 74, 3) := by decide +kernel
theorem dX12_feed_57 : decode cX12_feed 57 = .ok (.ireturn, 1) := by decide +kernel
theorem dX12_bad_0 : decode cX12_bad 0 = .ok (.aload_n 0, 1) := by decide +kernel
theorem dX12_bad_1 : decode cX12_bad 1 = .ok (.getfield 78, 3) := by decide +kernel
theorem dX12_bad_4 : decode cX12_bad 4 = .ok (.ifCond .ne 16, 3) := by decide +kernel
theorem dX12_bad_7 : decode cX12_bad 7 = .ok (.aload_n 0, 1) := by decide +kernel
theorem dX12_bad_8 : decode cX12_bad 8 = .ok (.iload_n 1, 1) := by decide +kernel
theorem dX12_bad_9 : decode cX12_bad 9 = .ok (.putfield 78, 3) := by decide +kernel
theorem dX12_bad_12 : decode cX12_bad 12 = .ok (.aload_n 0, 1) := by decide +kernel
theorem dX12_bad_13 : decode cX12_bad 13 = .ok (.aload_n 0, 1) := by decide +kernel
theorem dX12_bad_14 : decode cX12_bad 14 = .ok (.getfield 81, 3) := by decide +kernel
theorem dX12_bad_17 : decode cX12_bad 17 = .ok (.putfield 84, 3) := by decide +kernel
theorem dX12_bad_20 : decode cX12_bad 20 = .ok (.return_, 1) := by decide +kernel
theorem dX12_nextToken_0 : decode cX12_nextToken 0 = .ok (.aload_n 0, 1) := by decide +kernel
theorem dX12_nextToken_1 : decode cX12_nextToken 1 = .ok (.aload_n 0, 1) := by decide +kernel
theorem dX12_nextToken_2 : decode cX12_nextToken 2 = .ok (.getfield 87, 3) := by decide +kernel
theorem dX12_nextToken_5 : decode cX12_nextToken 5 = .ok (.putfield 81, 3) := by decide +kernel
theorem dX12_nextToken_8 : decode cX12_nextToken 8 = .ok (.aload_n 0, 1) := by decide +kernel
theorem dX12_nextToken_9 : decode cX12_nextToken 9 = .ok (.aload_n 0, 1) := by decide +kernel
theorem dX12_nextToken_10 : decode cX12_nextToken 10 = .ok (.getfield 87, 3) := by decide +kernel
theorem dX12_nextToken_13 : decode cX12_nextToken 13 = .ok (.aload_n 0, 1) := by decide +kernel
theorem dX12_nextToken_14 : decode cX12_nextToken 14 = .ok (.getfield 74, 3) := by decide +kernel
theorem dX12_nextToken_17 : decode cX12_nextToken 17 = .ok (.if_icmp .ge 15, 3) := by decide +kernel
theorem dX12_nextToken_20 : decode cX12_nextToken 20 = .ok (.aload_n 0, 1) := by decide +kernel
theorem dX12_nextToken_21 : decode cX12_nextToken 21 = .ok (.getfield 31, 3) := by decide +kernel
theorem dX12_nextToken_24 : decode cX12_nextToken 24 = .ok (.aload_n 0, 1) := by decide +kernel
theorem dX12_nextToken_25 : decode cX12_nextToken 25 = .ok (.getfield 87, 3) := by decide +kernel
theorem dX12_nextToken_28 : decode cX12_nextToken 28 = .ok (.iaload, 1) := by decide +kernel
theorem dX12_nextToken_29 : decode cX12_nextToken 29 = .ok (.goto 5, 3) := by decide +kernel
theorem dX12_nextToken_32 : decode cX12_nextToken 32 = .ok (.ldc 90, 2) := by decide +kernel
theorem dX12_nextToken_34 : decode cX12_nextToken 34 = .ok (.putfield 91, 3) := by decide +kernel
theorem dX12_nextToken_37 : decode cX12_nextToken 37 = .ok (.aload_n 0, 1) := by decide +kernel
theorem dX12_nextToken_38 : decode cX12_nextToken 38 = .ok (.aload_n 0, 1) := by decide +kernel
theorem dX12_nextToken_39 : decode cX12_nextToken 39 = .ok (.getfield 87, 3) := by decide +kernel
theorem dX12_nextToken_42 : decode cX12_nextToken 42 = .ok (.aload_n 0, 1) := by decide +kernel
theorem dX12_nextToken_43 : decode cX12_nextToken 43 = .ok (.getfield 74, 3) := by decide +kernel
theorem dX12_nextToken_46 : decode cX12_nextToken 46 = .ok (.if_icmp .ne 7, 3) := by decide +kernel
theorem dX12_nextToken_49 : decode cX12_nextToken 49 = .ok (.iconst 1, 1) := by decide +kernel
theorem dX12_nextToken_50 : decode cX12_nextToken 50 = .ok (.goto 68, 3) := by decide +kernel
theorem dX12_nextToken_53 : decode cX12_nextToken 53 = .ok (.aload_n 0, 1) := by decide +kernel
theorem dX12_nextToken_54 : decode cX12_nextToken 54 = .ok (.getfield 91, 3) := by decide +kernel
theorem dX12_nextToken_57 : decode cX12_nextToken 57 = .ok (.i2l, 1) := by decide +kernel
theorem dX12_nextToken_58 : decode cX12_nextToken 58 = .ok (.ldc2_w 94, 3) := by decide +kernel
theorem dX12_nextToken_61 : decode cX12_nextToken 61 = .ok (.ldc2_w 96, 3) := by decide +kernel
theorem dX12_nextToken_64 : decode cX12_nextToken 64 = .ok (.invokestatic 57, 3) := by decide +kernel
theorem dX12_nextToken_67 : decode cX12_nextToken 67 = .ok (.ifCond .eq 7, 3) := by decide +kernel
theorem dX12_nextToken_70 : decode cX12_nextToken 70 = .ok (.iconst 2, 1) := by decide +kernel
theorem dX12_nextToken_71 : decode cX12_nextToken 71 = .ok (.goto 47, 3) := by decide +kernel
theorem dX12_nextToken_74 : decode cX12_nextToken 74 = .ok (.aload_n 0, 1) := by decide +kernel
theorem dX12_nextToken_75 : decode cX12_nextToken 75 = .ok (.getfield 91, 3) := by decide +kernel
theorem dX12_nextToken_78 : decode cX12_nextToken 78 = .ok (.i2l, 1) := by decide +kernel
theorem dX12_nextToken_79 : decode cX12_nextToken 79 = .ok (.ldc2_w 98, 3) := by decide +kernel
theorem dX12_nextToken_82 : decode cX12_nextToken 82 = .ok (.ldc2_w 100, 3) := by decide +kernel
theorem dX12_nextToken_85 : decode cX12_nextToken 85 = .ok (.invokestatic 57, 3) := by decide +kernel
theorem dX12_nextToken_88 : decode cX12_nextToken 88 = .ok (.ifCond .eq 7, 3) := by decide +kernel
theorem dX12_nextToken_91 : decode cX12_nextToken 91 = .ok (.iconst 3, 1) := by decide +kernel
theorem dX12_nextToken_92 : decode cX12_nextToken 92 = .ok (.goto 26, 3) := by decide +kernel
theorem dX12_nextToken_95 : decode cX12_nextToken 95 = .ok (.aload_n 0, 1) := by decide +kernel
theorem dX12_nextToken_96 : decode cX12_nextToken 96 = .ok (.getfield 91, 3) := by decide +kernel
theorem dX12_nextToken_99 : decode cX12_nextToken 99 = .ok (.bipush 44, 2) := by decide +kernel
theorem dX12_nextToken_101 : decode cX12_nextToken 101 = .ok (.if_icmp .eq 12, 3) := by decide +kernel
theorem dX12_nextToken_104 : decode cX12_nextToken 104 = .ok (.aload_n 0, 1) := by decide +kernel
theorem dX12_nextToken_105 : decode cX12_nextToken 105 = .ok (.getfield 91, 3) := by decide +kernel
theorem dX12_nextToken_108 : decode cX12_nextToken 108 = .ok (.bipush 59, 2) := by decide +kernel
theorem dX12_nextToken_110 : decode cX12_nextToken 110 = .ok (.if_icmp .ne 7, 3) := by decide +kernel
theorem dX12_nextToken_113 : decode cX12_nextToken 113 = .ok (.iconst 4, 1) := by decide +kernel
theorem dX12_nextToken_114 : decode cX12_nextToken 114 = .ok (.goto 4, 3) := by decide +kernel
theorem dX12_nextToken_117 : decode cX12_nextToken 117 = .ok (.iconst 0, 1) := by decide +kernel
theorem dX12_nextToken_118 : decode cX12_nextToken 118 = .ok (.putfield 102, 3) := by decide +kernel
theorem dX12_nextToken_121 : decode cX12_nextToken 121 = .ok (.aload_n 0, 1) := by decide +kernel
theorem dX12_nextToken_122 : decode cX12_nextToken 122 = .ok (.dup, 1) := by decide +kernel
theorem dX12_nextToken_123 : decode cX12_nextToken 123 = .ok (.getfield 87, 3) := by decide +kernel
theorem dX12_nextToken_126 : decode cX12_nextToken 126 = .ok (.aload_n 0, 1) := by decide +kernel
theorem dX12_nextToken_127 : decode cX12_nextToken 127 = .ok (.getfield 87, 3) := by decide +kernel
theorem dX12_nextToken_130 : decode cX12_nextToken 130 = .ok (.aload_n 0, 1) := by decide +kernel
theorem dX12_nextToken_131 : decode cX12_nextToken 131 = .ok (.getfield 74, 3) := by decide +kernel
theorem dX12_nextToken_134 : decode cX12_nextToken 134 = .ok (.if_icmp .ge 7, 3) := by decide +kernel
theorem dX12_nextToken_137 : decode cX12_nextToken 137 = .ok (.iconst 1, 1) := by decide +kernel
theorem dX12_nextToken_138 : decode cX12_nextToken 138 = .ok (.goto 4, 3) := by decide +kernel
theorem dX12_nextToken_141 : decode cX12_nextToken 141 = .ok (.iconst 0, 1) := by decide +kernel
theorem dX12_nextToken_142 : decode cX12_nextToken 142 = .ok (.iadd, 1) := by decide +kernel
theorem dX12_nextToken_143 : decode cX12_nextToken 143 = .ok (.putfield 87, 3) := by decide +kernel
theorem dX12_nextToken_146 : decode cX12_nextToken 146 = .ok (.aload_n 0, 1) := by decide +kernel
theorem dX12_nextToken_147 : decode cX12_nextToken 147 = .ok (.getfield 102, 3) := by decide +kernel
theorem dX12_nextToken_150 : decode cX12_nextToken 150 = .ok (.iconst 3, 1) := by decide +kernel
theorem dX12_nextToken_151 : decode cX12_nextToken 151 = .ok (.if_icmp .ne 126, 3) := by decide +kernel
theorem dX12_nextToken_154 : decode cX12_nextToken 154 = .ok (.aload_n 0, 1) := by decide +kernel
theorem dX12_nextToken_155 : decode cX12_nextToken 155 = .ok (.dup, 1) := by decide +kernel
theorem dX12_nextToken_156 : decode cX12_nextToken 156 = .ok (.getfield 91, 3) := by decide +kernel
theorem dX12_nextToken_159 : decode cX12_nextToken 159 = .ok (.bipush 48, 2) := by decide +kernel
theorem dX12_nextToken_161 : decode cX12_nextToken 161 = .ok (.isub, 1) := by decide +kernel
theorem dX12_nextToken_162 : decode cX12_nextToken 162 = .ok (.putfield 91, 3) := by decide +kernel
theorem dX12_nextToken_165 : decode cX12_nextToken 165 = .ok (.aload_n 0, 1) := by decide +kernel
theorem dX12_nextToken_166 : decode cX12_nextToken 166 = .ok (.getfield 87, 3) := by decide +kernel
theorem dX12_nextToken_169 : decode cX12_nextToken 169 = .ok (.aload_n 0, 1) := by decide +kernel
theorem dX12_nextToken_170 : decode cX12_nextToken 170 = .ok (.getfield 74, 3) := by decide +kernel
theorem dX12_nextToken_173 : decode cX12_nextToken 173 = .ok (.if_icmp .ge 82, 3) := by decide +kernel
theorem dX12_nextToken_176 : decode cX12_nextToken 176 = .ok (.aload_n 0, 1) := by decide +kernel
theorem dX12_nextToken_177 : decode cX12_nextToken 177 = .ok (.getfield 31, 3) := by decide +kernel
theorem dX12_nextToken_180 : decode cX12_nextToken 180 = .ok (.aload_n 0, 1) := by decide +kernel
theorem dX12_nextToken_181 : decode cX12_nextToken 181 = .ok (.getfield 87, 3) := by decide +kernel
theorem dX12_nextToken_184 : decode cX12_nextToken 184 = .ok (.iaload, 1) := by decide +kernel
theorem dX12_nextToken_185 : decode cX12_nextToken 185 = .ok (.i2l, 1) := by decide +kernel
theorem dX12_nextToken_186 : decode cX12_nextToken 186 = .ok (.ldc2_w 98, 3) := by decide +kernel
theorem dX12_nextToken_189 : decode cX12_nextToken 189 = .ok (.ldc2_w 100, 3) := by decide +kernel
theorem dX12_nextToken_192 : decode cX12_nextToken 192 = .ok (.invokestatic 57, 3) := by decide +kernel
theorem dX12_nextToken_195 : decode cX12_nextToken 195 = .ok (.ifCond .eq 60, 3) := by decide +kernel
theorem dX12_nextToken_198 : decode cX12_nextToken 198 = .ok (.aload_n 0, 1) := by decide +kernel
theorem dX12_nextToken_199 : decode cX12_nextToken 199 = .ok (.aload_n 0, 1) := by decide +kernel
theorem dX12_nextToken_200 : decode cX12_nextToken 200 = .ok (.getfield 87, 3) := by decide +kernel
theorem dX12_nextToken_203 : decode cX12_nextToken 203 = .ok (.aload_n 0, 1) := by decide +kernel
theorem dX12_nextToken_204 : decode cX12_nextToken 204 = .ok (.getfield 81, 3) := by decide +kernel
theorem dX12_nextToken_207 : decode cX12_nextToken 207 = .ok (.isub, 1) := by decide +kernel
theorem dX12_nextToken_208 : decode cX12_nextToken 208 = .ok (.iconst 2, 1) := by decide +kernel
theorem dX12_nextToken_209 : decode cX12_nextToken 209 = .ok (.if_icmp .ge 26, 3) := by decide +kernel
theorem dX12_nextToken_212 : decode cX12_nextToken 212 = .ok (.bipush 10, 2) := by decide +kernel
theorem dX12_nextToken_214 : decode cX12_nextToken 214 = .ok (.aload_n 0, 1) := by decide +kernel
theorem dX12_nextToken_215 : decode cX12_nextToken 215 = .ok (.getfield 91, 3) := by decide +kernel
theorem dX12_nextToken_218 : decode cX12_nextToken 218 = .ok (.imul, 1) := by decide +kernel
theorem dX12_nextToken_219 : decode cX12_nextToken 219 = .ok (.aload_n 0, 1) := by decide +kernel
theorem dX12_nextToken_220 : decode cX12_nextToken 220 = .ok (.getfield 31, 3) := by decide +kernel
theorem dX12_nextToken_223 : decode cX12_nextToken 223 = .ok (.aload_n 0, 1) := by decide +kernel
theorem dX12_nextToken_224 : decode cX12_nextToken 224 = .ok (.getfield 87, 3) := by decide +kernel
theorem dX12_nextToken_227 : decode cX12_nextToken 227 = .ok (.iaload, 1) := by decide +kernel
theorem dX12_nextToken_228 : decode cX12_nextToken 228 = .ok (.iadd, 1) := by decide +kernel
theorem dX12_nextToken_229 : decode cX12_nextToken 229 = .ok (.bipush 48, 2) := by decide +kernel
theorem dX12_nextToken_231 : decode cX12_nextToken 231 = .ok (.isub, 1) := by decide +kernel
theorem dX12_nextToken_232 : decode cX12_nextToken 232 = .ok (.goto 7, 3) := by decide +kernel
theorem dX12_nextToken_235 : decode cX12_nextToken 235 = .ok (.aload_n 0, 1) := by decide +kernel
theorem dX12_nextToken_236 : decode cX12_nextToken 236 = .ok (.getfield 91, 3) := by decide +kernel
theorem dX12_nextToken_239 : decode cX12_nextToken 239 = .ok (.putfield 91, 3) := by decide +kernel
theorem dX12_nextToken_242 : decode cX12_nextToken 242 = .ok (.aload_n 0, 1) := by decide +kernel
theorem dX12_nextToken_243 : decode cX12_nextToken 243 = .ok (.dup, 1) := by decide +kernel
theorem dX12_nextToken_244 : decode cX12_nextToken 244 = .ok (.getfield 87, 3) := by decide +kernel
theorem dX12_nextToken_247 : decode cX12_nextToken 247 = .ok (.iconst 1, 1) := by decide +kernel
theorem dX12_nextToken_248 : decode cX12_nextToken 248 = .ok (.iadd, 1) := by decide +kernel
theorem dX12_nextToken_249 : decode cX12_nextToken 249 = .ok (.putfield 87, 3) := by decide +kernel
theorem dX12_nextToken_252 : decode cX12_nextToken 252 = .ok (.goto (-87), 3) := by decide +kernel
theorem dX12_nextToken_255 : decode cX12_nextToken 255 = .ok (.aload_n 0, 1) := by decide +kernel
theorem dX12_nextToken_256 : decode cX12_nextToken 256 = .ok (.aload_n 0, 1) := by decide +kernel
theorem dX12_nextToken_257 : decode cX12_nextToken 257 = .ok (.getfield 87, 3) := by decide +kernel
theorem dX12_nextToken_260 : decode cX12_nextToken 260 = .ok (.aload_n 0, 1) := by decide +kernel
theorem dX12_nextToken_261 : decode cX12_nextToken 261 = .ok (.getfield 81, 3) := by decide +kernel
theorem dX12_nextToken_264 : decode cX12_nextToken 264 = .ok (.isub, 1) := by decide +kernel
theorem dX12_nextToken_265 : decode cX12_nextToken 265 = .ok (.iconst 2, 1) := by decide +kernel
theorem dX12_nextToken_266 : decode cX12_nextToken 266 = .ok (.if_icmp .le 7, 3) := by decide +kernel
theorem dX12_nextToken_269 : decode cX12_nextToken 269 = .ok (.iconst 0, 1) := by decide +kernel
theorem dX12_nextToken_270 : decode cX12_nextToken 270 = .ok (.goto 4, 3) := by decide +kernel
theorem dX12_nextToken_273 : decode cX12_nextToken 273 = .ok (.iconst 3, 1) := by decide +kernel
theorem dX12_nextToken_274 : decode cX12_nextToken 274 = .ok (.putfield 102, 3) := by decide +kernel
theorem dX12_nextToken_277 : decode cX12_nextToken 277 = .ok (.return_, 1) := by decide +kernel
theorem dX12_must_0 : decode cX12_must 0 = .ok (.iload_n 1, 1) := by decide +kernel
theorem dX12_must_1 : decode cX12_must 1 = .ok (.ifCond .ne 8, 3) := by decide +kernel
theorem dX12_must_4 : decode cX12_must 4 = .ok (.aload_n 0, 1) := by decide +kernel
theorem dX12_must_5 : decode cX12_must 5 = .ok (.iconst 1, 1) := by decide +kernel
theorem dX12_must_6 : decode cX12_must 6 = .ok (.invokevirtual 105, 3) := by decide +kernel
theorem dX12_must_9 : decode cX12_must 9 = .ok (.aload_n 0, 1) := by decide +kernel
theorem dX12_must_10 : decode cX12_must 10 = .ok (.getfield 78, 3) := by decide +kernel
theorem dX12_must_13 : decode cX12_must 13 = .ok (.ifCond .ne 7, 3) := by decide +kernel
theorem dX12_must_16 : decode cX12_must 16 = .ok (.aload_n 0, 1) := by decide +kernel
theorem dX12_must_17 : decode cX12_must 17 = .ok (.invokevirtual 109, 3) := by decide +kernel
theorem dX12_must_20 : decode cX12_must 20 = .ok (.return_, 1) := by decide +kernel
theorem dX12_isLetter_0 : decode cX12_isLetter 0 = .ok (.aload_n 0, 1) := by decide +kernel
theorem dX12_isLetter_1 : decode cX12_isLetter 1 = .ok (.getfield 78, 3) := by decide +kernel
theorem dX12_isLetter_4 : decode cX12_isLetter 4 = .ok (.ifCond .ne 23, 3) := by decide +kernel
theorem dX12_isLetter_7 : decode cX12_isLetter 7 = .ok (.aload_n 0, 1) := by decide +kernel
theorem dX12_isLetter_8 : decode cX12_isLetter 8 = .ok (.getfield 102, 3) := by decide +kernel
theorem dX12_isLetter_11 : decode cX12_isLetter 11 = .ok (.iconst 2, 1) := by decide +kernel
theorem dX12_isLetter_12 : decode cX12_isLetter 12 = .ok (.if_icmp .ne 15, 3) := by decide +kernel
theorem dX12_isLetter_15 : decode cX12_isLetter 15 = .ok (.aload_n 0, 1) := by decide +kernel
theorem dX12_isLetter_16 : decode cX12_isLetter 16 = .ok (.getfield 91, 3) := by decide +kernel
theorem dX12_isLetter_19 : decode cX12_isLetter 19 = .ok (.iload_n 1, 1) := by decide +kernel
end
section
theorem dX12_isLetter_20 : decode cX12_isLetter 20 = .ok (.if_icmp .ne 7, 3) := by decide +kernel
theorem dX12_isLetter_23 : decode cX12_isLetter 23 = .ok (.iconst 1, 1) := by decide +kernel
theorem dX12_isLetter_24 : decode cX12_isLetter 24 = .ok (.goto 4, 3) := by decide +kernel
theorem dX12_isLetter_27 : decode cX12_isLetter 27 = .ok (.iconst 0, 1) := by decide +kernel
theorem dX12_isLetter_28 : decode cX12_isLetter 28 = .ok (.ireturn, 1) := by decide +kernel
theorem dX12_number_0 : decode cX12_number 0 = .ok (.aload_n 0, 1) := by decide +kernel
theorem dX12_number_1 : decode cX12_number 1 = .ok (.getfield 78, 3) := by decide +kernel
theorem dX12_number_4 : decode cX12_number 4 = .ok (.ifCond .ne 16, 3) := by decide +kernel
theorem dX12_number_7 : decode cX12_number 7 = .ok (.aload_n 0, 1) := by decide +kernel
theorem dX12_number_8 : decode cX12_number 8 = .ok (.getfield 102, 3) := by decide +kernel
theorem dX12_number_11 : decode cX12_number 11 = .ok (.iconst 3, 1) := by decide +kernel
theorem dX12_number_12 : decode cX12_number 12 = .ok (.if_icmp .eq 8, 3) := by decide +kernel
theorem dX12_number_15 : decode cX12_number 15 = .ok (.aload_n 0, 1) := by decide +kernel
theorem dX12_number_16 : decode cX12_number 16 = .ok (.iconst 1, 1) := by decide +kernel
theorem dX12_number_17 : decode cX12_number 17 = .ok (.invokevirtual 105, 3) := by decide +kernel
theorem dX12_number_20 : decode cX12_number 20 = .ok (.aload_n 0, 1) := by decide +kernel
theorem dX12_number_21 : decode cX12_number 21 = .ok (.getfield 78, 3) := by decide +kernel
theorem dX12_number_24 : decode cX12_number 24 = .ok (.ifCond .ne 23, 3) := by decide +kernel
theorem dX12_number_27 : decode cX12_number 27 = .ok (.aload_n 0, 1) := by decide +kernel
theorem dX12_number_28 : decode cX12_number 28 = .ok (.getfield 91, 3) := by decide +kernel
theorem dX12_number_31 : decode cX12_number 31 = .ok (.i2l, 1) := by decide +kernel
theorem dX12_number_32 : decode cX12_number 32 = .ok (.iload_n 1, 1) := by decide +kernel
theorem dX12_number_33 : decode cX12_number 33 = .ok (.i2l, 1) := by decide +kernel
theorem dX12_number_34 : decode cX12_number 34 = .ok (.iload_n 2, 1) := by decide +kernel
theorem dX12_number_35 : decode cX12_number 35 = .ok (.i2l, 1) := by decide +kernel
theorem dX12_number_36 : decode cX12_number 36 = .ok (.invokestatic 57, 3) := by decide +kernel
theorem dX12_number_39 : decode cX12_number 39 = .ok (.ifCond .ne 8, 3) := by decide +kernel
theorem dX12_number_42 : decode cX12_number 42 = .ok (.aload_n 0, 1) := by decide +kernel
theorem dX12_number_43 : decode cX12_number 43 = .ok (.iconst 2, 1) := by decide +kernel
theorem dX12_number_44 : decode cX12_number 44 = .ok (.invokevirtual 105, 3) := by decide +kernel
theorem dX12_number_47 : decode cX12_number 47 = .ok (.aload_n 0, 1) := by decide +kernel
theorem dX12_number_48 : decode cX12_number 48 = .ok (.getfield 78, 3) := by decide +kernel
theorem dX12_number_51 : decode cX12_number 51 = .ok (.ifCond .ne 10, 3) := by decide +kernel
theorem dX12_number_54 : decode cX12_number 54 = .ok (.aload_n 0, 1) := by decide +kernel
theorem dX12_number_55 : decode cX12_number 55 = .ok (.getfield 91, 3) := by decide +kernel
theorem dX12_number_58 : decode cX12_number 58 = .ok (.goto 4, 3) := by decide +kernel
theorem dX12_number_61 : decode cX12_number 61 = .ok (.iload_n 1, 1) := by decide +kernel
theorem dX12_number_62 : decode cX12_number 62 = .ok (.istore_n 3, 1) := by decide +kernel
theorem dX12_number_63 : decode cX12_number 63 = .ok (.aload_n 0, 1) := by decide +kernel
theorem dX12_number_64 : decode cX12_number 64 = .ok (.iconst 1, 1) := by decide +kernel
theorem dX12_number_65 : decode cX12_number 65 = .ok (.invokevirtual 112, 3) := by decide +kernel
theorem dX12_number_68 : decode cX12_number 68 = .ok (.iload_n 3, 1) := by decide +kernel
theorem dX12_number_69 : decode cX12_number 69 = .ok (.ireturn, 1) := by decide +kernel
theorem dX12_mustSign_0 : decode cX12_mustSign 0 = .ok (.aload_n 0, 1) := by decide +kernel
theorem dX12_mustSign_1 : decode cX12_mustSign 1 = .ok (.aload_n 0, 1) := by decide +kernel
theorem dX12_mustSign_2 : decode cX12_mustSign 2 = .ok (.getfield 102, 3) := by decide +kernel
theorem dX12_mustSign_5 : decode cX12_mustSign 5 = .ok (.iconst 4, 1) := by decide +kernel
theorem dX12_mustSign_6 : decode cX12_mustSign 6 = .ok (.if_icmp .ne 15, 3) := by decide +kernel
theorem dX12_mustSign_9 : decode cX12_mustSign 9 = .ok (.aload_n 0, 1) := by decide +kernel
theorem dX12_mustSign_10 : decode cX12_mustSign 10 = .ok (.getfield 91, 3) := by decide +kernel
theorem dX12_mustSign_13 : decode cX12_mustSign 13 = .ok (.iload_n 1, 1) := by decide +kernel
theorem dX12_mustSign_14 : decode cX12_mustSign 14 = .ok (.if_icmp .ne 7, 3) := by decide +kernel
theorem dX12_mustSign_17 : decode cX12_mustSign 17 = .ok (.iconst 1, 1) := by decide +kernel
theorem dX12_mustSign_18 : decode cX12_mustSign 18 = .ok (.goto 4, 3) := by decide +kernel
theorem dX12_mustSign_21 : decode cX12_mustSign 21 = .ok (.iconst 0, 1) := by decide +kernel
theorem dX12_mustSign_22 : decode cX12_mustSign 22 = .ok (.invokevirtual 112, 3) := by decide +kernel
theorem dX12_mustSign_25 : decode cX12_mustSign 25 = .ok (.return_, 1) := by decide +kernel
theorem dX12_begin_0 : decode cX12_begin 0 = .ok (.aload_n 0, 1) := by decide +kernel
theorem dX12_begin_1 : decode cX12_begin 1 = .ok (.iconst 0, 1) := by decide +kernel
theorem dX12_begin_2 : decode cX12_begin 2 = .ok (.putfield 87, 3) := by decide +kernel
theorem dX12_begin_5 : decode cX12_begin 5 = .ok (.aload_n 0, 1) := by decide +kernel
theorem dX12_begin_6 : decode cX12_begin 6 = .ok (.iconst 0, 1) := by decide +kernel
theorem dX12_begin_7 : decode cX12_begin 7 = .ok (.putfield 78, 3) := by decide +kernel
theorem dX12_begin_10 : decode cX12_begin 10 = .ok (.aload_n 0, 1) := by decide +kernel
theorem dX12_begin_11 : decode cX12_begin 11 = .ok (.invokevirtual 109, 3) := by decide +kernel
theorem dX12_begin_14 : decode cX12_begin 14 = .ok (.return_, 1) := by decide +kernel
theorem dX12_failed_0 : decode cX12_failed 0 = .ok (.aload_n 0, 1) := by decide +kernel
theorem dX12_failed_1 : decode cX12_failed 1 = .ok (.getfield 78, 3) := by decide +kernel
theorem dX12_failed_4 : decode cX12_failed 4 = .ok (.ifCond .ne 16, 3) := by decide +kernel
theorem dX12_failed_7 : decode cX12_failed 7 = .ok (.aload_n 0, 1) := by decide +kernel
theorem dX12_failed_8 : decode cX12_failed 8 = .ok (.getfield 102, 3) := by decide +kernel
theorem dX12_failed_11 : decode cX12_failed 11 = .ok (.iconst 1, 1) := by decide +kernel
theorem dX12_failed_12 : decode cX12_failed 12 = .ok (.if_icmp .eq 8, 3) := by decide +kernel
theorem dX12_failed_15 : decode cX12_failed 15 = .ok (.aload_n 0, 1) := by decide +kernel
theorem dX12_failed_16 : decode cX12_failed 16 = .ok (.iconst 1, 1) := by decide +kernel
theorem dX12_failed_17 : decode cX12_failed 17 = .ok (.invokevirtual 105, 3) := by decide +kernel
theorem dX12_failed_20 : decode cX12_failed 20 = .ok (.aload_n 0, 1) := by decide +kernel
theorem dX12_failed_21 : decode cX12_failed 21 = .ok (.iconst 0, 1) := by decide +kernel
theorem dX12_failed_22 : decode cX12_failed 22 = .ok (.putfield 74, 3) := by decide +kernel
theorem dX12_failed_25 : decode cX12_failed 25 = .ok (.aload_n 0, 1) := by decide +kernel
theorem dX12_failed_26 : decode cX12_failed 26 = .ok (.aload_n 0, 1) := by decide +kernel
theorem dX12_failed_27 : decode cX12_failed 27 = .ok (.getfield 78, 3) := by decide +kernel
theorem dX12_failed_30 : decode cX12_failed 30 = .ok (.ifCond .le 10, 3) := by decide +kernel
theorem dX12_failed_33 : decode cX12_failed 33 = .ok (.aload_n 0, 1) := by decide +kernel
theorem dX12_failed_34 : decode cX12_failed 34 = .ok (.getfield 78, 3) := by decide +kernel
theorem dX12_failed_37 : decode cX12_failed 37 = .ok (.goto 7, 3) := by decide +kernel
theorem dX12_failed_40 : decode cX12_failed 40 = .ok (.aload_n 0, 1) := by decide +kernel
theorem dX12_failed_41 : decode cX12_failed 41 = .ok (.getfield 116, 3) := by decide +kernel
theorem dX12_failed_44 : decode cX12_failed 44 = .ok (.putfield 116, 3) := by decide +kernel
theorem dX12_failed_47 : decode cX12_failed 47 = .ok (.aload_n 0, 1) := by decide +kernel
theorem dX12_failed_48 : decode cX12_failed 48 = .ok (.getfield 78, 3) := by decide +kernel
theorem dX12_failed_51 : decode cX12_failed 51 = .ok (.ifCond .le 7, 3) := by decide +kernel
theorem dX12_failed_54 : decode cX12_failed 54 = .ok (.iconst 1, 1) := by decide +kernel
theorem dX12_failed_55 : decode cX12_failed 55 = .ok (.goto 4, 3) := by decide +kernel
theorem dX12_failed_58 : decode cX12_failed 58 = .ok (.iconst 0, 1) := by decide +kernel
theorem dX12_failed_59 : decode cX12_failed 59 = .ok (.ireturn, 1) := by decide +kernel
theorem dX12_fault_0 : decode cX12_fault 0 = .ok (.aload_n 0, 1) := by decide +kernel
theorem dX12_fault_1 : decode cX12_fault 1 = .ok (.iconst 0, 1) := by decide +kernel
theorem dX12_fault_2 : decode cX12_fault 2 = .ok (.putfield 47, 3) := by decide +kernel
theorem dX12_fault_5 : decode cX12_fault 5 = .ok (.aload_n 0, 1) := by decide +kernel
theorem dX12_fault_6 : decode cX12_fault 6 = .ok (.getfield 116, 3) := by decide +kernel
theorem dX12_fault_9 : decode cX12_fault 9 = .ok (.ireturn, 1) := by decide +kernel
theorem dX12_kindBy_0 : decode cX12_kindBy 0 = .ok (.iload_n 0, 1) := by decide +kernel
theorem dX12_kindBy_1 : decode cX12_kindBy 1 = .ok (.bipush 110, 2) := by decide +kernel
theorem dX12_kindBy_3 : decode cX12_kindBy 3 = .ok (.if_icmp .ne 7, 3) := by decide +kernel
theorem dX12_kindBy_6 : decode cX12_kindBy 6 = .ok (.iconst 1, 1) := by decide +kernel
theorem dX12_kindBy_7 : decode cX12_kindBy 7 = .ok (.goto 45, 3) := by decide +kernel
theorem dX12_kindBy_10 : decode cX12_kindBy 10 = .ok (.iload_n 0, 1) := by decide +kernel
theorem dX12_kindBy_11 : decode cX12_kindBy 11 = .ok (.bipush 99, 2) := by decide +kernel
theorem dX12_kindBy_13 : decode cX12_kindBy 13 = .ok (.if_icmp .ne 7, 3) := by decide +kernel
theorem dX12_kindBy_16 : decode cX12_kindBy 16 = .ok (.iconst 2, 1) := by decide +kernel
theorem dX12_kindBy_17 : decode cX12_kindBy 17 = .ok (.goto 35, 3) := by decide +kernel
theorem dX12_kindBy_20 : decode cX12_kindBy 20 = .ok (.iload_n 0, 1) := by decide +kernel
theorem dX12_kindBy_21 : decode cX12_kindBy 21 = .ok (.bipush 102, 2) := by decide +kernel
theorem dX12_kindBy_23 : decode cX12_kindBy 23 = .ok (.if_icmp .ne 7, 3) := by decide +kernel
theorem dX12_kindBy_26 : decode cX12_kindBy 26 = .ok (.iconst 3, 1) := by decide +kernel
theorem dX12_kindBy_27 : decode cX12_kindBy 27 = .ok (.goto 25, 3) := by decide +kernel
theorem dX12_kindBy_30 : decode cX12_kindBy 30 = .ok (.iload_n 0, 1) := by decide +kernel
theorem dX12_kindBy_31 : decode cX12_kindBy 31 = .ok (.bipush 115, 2) := by decide +kernel
theorem dX12_kindBy_33 : decode cX12_kindBy 33 = .ok (.if_icmp .ne 7, 3) := by decide +kernel
theorem dX12_kindBy_36 : decode cX12_kindBy 36 = .ok (.iconst 4, 1) := by decide +kernel
theorem dX12_kindBy_37 : decode cX12_kindBy 37 = .ok (.goto 15, 3) := by decide +kernel
theorem dX12_kindBy_40 : decode cX12_kindBy 40 = .ok (.iload_n 0, 1) := by decide +kernel
theorem dX12_kindBy_41 : decode cX12_kindBy 41 = .ok (.bipush 109, 2) := by decide +kernel
theorem dX12_kindBy_43 : decode cX12_kindBy 43 = .ok (.if_icmp .ne 7, 3) := by decide +kernel
theorem dX12_kindBy_46 : decode cX12_kindBy 46 = .ok (.iconst 5, 1) := by decide +kernel
theorem dX12_kindBy_47 : decode cX12_kindBy 47 = .ok (.goto 5, 3) := by decide +kernel
theorem dX12_kindBy_50 : decode cX12_kindBy 50 = .ok (.ldc 90, 2) := by decide +kernel
theorem dX12_kindBy_52 : decode cX12_kindBy 52 = .ok (.ireturn, 1) := by decide +kernel
theorem dX12_isTold_0 : decode cX12_isTold 0 = .ok (.iconst 0, 1) := by decide +kernel
theorem dX12_isTold_1 : decode cX12_isTold 1 = .ok (.istore 4, 2) := by decide +kernel
theorem dX12_isTold_3 : decode cX12_isTold 3 = .ok (.iconst 0, 1) := by decide +kernel
theorem dX12_isTold_4 : decode cX12_isTold 4 = .ok (.istore 5, 2) := by decide +kernel
theorem dX12_isTold_6 : decode cX12_isTold 6 = .ok (.iload 5, 2) := by decide +kernel
theorem dX12_isTold_8 : decode cX12_isTold 8 = .ok (.aload_n 0, 1) := by decide +kernel
theorem dX12_isTold_9 : decode cX12_isTold 9 = .ok (.getfield 22, 3) := by decide +kernel
theorem dX12_isTold_12 : decode cX12_isTold 12 = .ok (.iconst 3, 1) := by decide +kernel
theorem dX12_isTold_13 : decode cX12_isTold 13 = .ok (.iaload, 1) := by decide +kernel
theorem dX12_isTold_14 : decode cX12_isTold 14 = .ok (.if_icmp .ge 82, 3) := by decide +kernel
theorem dX12_isTold_17 : decode cX12_isTold 17 = .ok (.bipush 7, 2) := by decide +kernel
theorem dX12_isTold_19 : decode cX12_isTold 19 = .ok (.iconst 3, 1) := by decide +kernel
theorem dX12_isTold_20 : decode cX12_isTold 20 = .ok (.iload 5, 2) := by decide +kernel
theorem dX12_isTold_22 : decode cX12_isTold 22 = .ok (.imul, 1) := by decide +kernel
theorem dX12_isTold_23 : decode cX12_isTold 23 = .ok (.iadd, 1) := by decide +kernel
theorem dX12_isTold_24 : decode cX12_isTold 24 = .ok (.istore 6, 2) := by decide +kernel
theorem dX12_isTold_26 : decode cX12_isTold 26 = .ok (.iload 4, 2) := by decide +kernel
theorem dX12_isTold_28 : decode cX12_isTold 28 = .ok (.ifCond .ne 55, 3) := by decide +kernel
theorem dX12_isTold_31 : decode cX12_isTold 31 = .ok (.aload_n 0, 1) := by decide +kernel
theorem dX12_isTold_32 : decode cX12_isTold 32 = .ok (.getfield 22, 3) := by decide +kernel
theorem dX12_isTold_35 : decode cX12_isTold 35 = .ok (.iload 6, 2) := by decide +kernel
theorem dX12_isTold_37 : decode cX12_isTold 37 = .ok (.iaload, 1) := by decide +kernel
theorem dX12_isTold_38 : decode cX12_isTold 38 = .ok (.iload_n 1, 1) := by decide +kernel
theorem dX12_isTold_39 : decode cX12_isTold 39 = .ok (.if_icmp .ne 18, 3) := by decide +kernel
theorem dX12_isTold_42 : decode cX12_isTold 42 = .ok (.aload_n 0, 1) := by decide +kernel
theorem dX12_isTold_43 : decode cX12_isTold 43 = .ok (.getfield 22, 3) := by decide +kernel
theorem dX12_isTold_46 : decode cX12_isTold 46 = .ok (.iload 6, 2) := by decide +kernel
theorem dX12_isTold_48 : decode cX12_isTold 48 = .ok (.iconst 1, 1) := by decide +kernel
theorem dX12_isTold_49 : decode cX12_isTold 49 = .ok (.iadd, 1) := by decide +kernel
theorem dX12_isTold_50 : decode cX12_isTold 50 = .ok (.iaload, 1) := by decide +kernel
theorem dX12_isTold_51 : decode cX12_isTold 51 = .ok (.i2l, 1) := by decide +kernel
theorem dX12_isTold_52 : decode cX12_isTold 52 = .ok (.lload_n 2, 1) := by decide +kernel
theorem dX12_isTold_53 : decode cX12_isTold 53 = .ok (.lcmp, 1) := by decide +kernel
theorem dX12_isTold_54 : decode cX12_isTold 54 = .ok (.ifCond .eq 29, 3) := by decide +kernel
theorem dX12_isTold_57 : decode cX12_isTold 57 = .ok (.aload_n 0, 1) := by decide +kernel
theorem dX12_isTold_58 : decode cX12_isTold 58 = .ok (.getfield 22, 3) := by decide +kernel
theorem dX12_isTold_61 : decode cX12_isTold 61 = .ok (.iload 6, 2) := by decide +kernel
theorem dX12_isTold_63 : decode cX12_isTold 63 = .ok (.iaload, 1) := by decide +kernel
theorem dX12_isTold_64 : decode cX12_isTold 64 = .ok (.i2l, 1) := by decide +kernel
theorem dX12_isTold_65 : decode cX12_isTold 65 = .ok (.lload_n 2, 1) := by decide +kernel
theorem dX12_isTold_66 : decode cX12_isTold 66 = .ok (.lcmp, 1) := by decide +kernel
theorem dX12_isTold_67 : decode cX12_isTold 67 = .ok (.ifCond .ne 20, 3) := by decide +kernel
theorem dX12_isTold_70 : decode cX12_isTold 70 = .ok (.aload_n 0, 1) := by decide +kernel
theorem dX12_isTold_71 : decode cX12_isTold 71 = .ok (.getfield 22, 3) := by decide +kernel
theorem dX12_isTold_74 : decode cX12_isTold 74 = .ok (.iload 6, 2) := by decide +kernel
theorem dX12_isTold_76 : decode cX12_isTold 76 = .ok (.iconst 1, 1) := by decide +kernel
theorem dX12_isTold_77 : decode cX12_isTold 77 = .ok (.iadd, 1) := by decide +kernel
theorem dX12_isTold_78 : decode cX12_isTold 78 = .ok (.iaload, 1) := by decide +kernel
theorem dX12_isTold_79 : decode cX12_isTold 79 = .ok (.iload_n 1, 1) := by decide +kernel
theorem dX12_isTold_80 : decode cX12_isTold 80 = .ok (.if_icmp .ne 7, 3) := by decide +kernel
theorem dX12_isTold_83 : decode cX12_isTold 83 = .ok (.iconst 1, 1) := by decide +kernel
theorem dX12_isTold_84 : decode cX12_isTold 84 = .ok (.goto 4, 3) := by decide +kernel
theorem dX12_isTold_87 : decode cX12_isTold 87 = .ok (.iconst 0, 1) := by decide +kernel
theorem dX12_isTold_88 : decode cX12_isTold 88 = .ok (.istore 4, 2) := by decide +kernel
theorem dX12_isTold_90 : decode cX12_isTold 90 = .ok (.iinc 5 1, 3) := by decide +kernel
theorem dX12_isTold_93 : decode cX12_isTold 93 = .ok (.goto (-87), 3) := by decide +kernel
theorem dX12_isTold_96 : decode cX12_isTold 96 = .ok (.iload 4, 2) := by decide +kernel
theorem dX12_isTold_98 : decode cX12_isTold 98 = .ok (.ireturn, 1) := by decide +kernel
theorem dX12_readPath_0 : decode cX12_readPath 0 = .ok (.aload_n 0, 1) := by decide +kernel
theorem dX12_readPath_1 : decode cX12_readPath 1 = .ok (.getfield 22, 3) := by decide +kernel
theorem dX12_readPath_4 : decode cX12_readPath 4 = .ok (.iconst 3, 1) := by decide +kernel
theorem dX12_readPath_5 : decode cX12_readPath 5 = .ok (.iaload, 1) := by decide +kernel
theorem dX12_readPath_6 : decode cX12_readPath 6 = .ok (.bipush 12, 2) := by decide +kernel
theorem dX12_readPath_8 : decode cX12_readPath 8 = .ok (.if_icmp .ne 8, 3) := by decide +kernel
theorem dX12_readPath_11 : decode cX12_readPath 11 = .ok (.aload_n 0, 1) := by decide +kernel
theorem dX12_readPath_12 : decode cX12_readPath 12 = .ok (.iconst 3, 1) := by decide +kernel
theorem dX12_readPath_13 : decode cX12_readPath 13 = .ok (.invokevirtual 105, 3) := by decide +kernel
theorem dX12_readPath_16 : decode cX12_readPath 16 = .ok (.aload_n 0, 1) := by decide +kernel
theorem dX12_readPath_17 : decode cX12_readPath 17 = .ok (.aload_n 0, 1) := by decide +kernel
theorem dX12_readPath_18 : decode cX12_readPath 18 = .ok (.bipush 112, 2) := by decide +kernel
theorem dX12_readPath_20 : decode cX12_readPath 20 = .ok (.invokevirtual 119, 3) := by decide +kernel
theorem dX12_readPath_23 : decode cX12_readPath 23 = .ok (.invokevirtual 112, 3) := by decide +kernel
theorem dX12_readPath_26 : decode cX12_readPath 26 = .ok (.aload_n 0, 1) := by decide +kernel
theorem dX12_readPath_27 : decode cX12_readPath 27 = .ok (.iconst 0, 1) := by decide +kernel
theorem dX12_readPath_28 : decode cX12_readPath 28 = .ok (.bipush 7, 2) := by decide +kernel
theorem dX12_readPath_30 : decode cX12_readPath 30 = .ok (.invokevirtual 122, 3) := by decide +kernel
theorem dX12_readPath_33 : decode cX12_readPath 33 = .ok (.istore_n 1, 1) := by decide +kernel
theorem dX12_readPath_34 : decode cX12_readPath 34 = .ok (.aload_n 0, 1) := by decide +kernel
theorem dX12_readPath_35 : decode cX12_readPath 35 = .ok (.bipush 44, 2) := by decide +kernel
theorem dX12_readPath_37 : decode cX12_readPath 37 = .ok (.invokevirtual 126, 3) := by decide +kernel
theorem dX12_readPath_40 : decode cX12_readPath 40 = .ok (.aload_n 0, 1) := by decide +kernel
theorem dX12_readPath_41 : decode cX12_readPath 41 = .ok (.getfield 78, 3) := by decide +kernel
theorem dX12_readPath_44 : decode cX12_readPath 44 = .ok (.ifCond .ne 37, 3) := by decide +kernel
theorem dX12_readPath_47 : decode cX12_readPath 47 = .ok (.aload_n 0, 1) := by decide +kernel
theorem dX12_readPath_48 : decode cX12_readPath 48 = .ok (.getfield 102, 3) := by decide +kernel
theorem dX12_readPath_51 : decode cX12_readPath 51 = .ok (.iconst 3, 1) := by decide +kernel
theorem dX12_readPath_52 : decode cX12_readPath 52 = .ok (.if_icmp .ne 29, 3) := by decide +kernel
theorem dX12_readPath_55 : decode cX12_readPath 55 = .ok (.aload_n 0, 1) := by decide +kernel
theorem dX12_readPath_56 : decode cX12_readPath 56 = .ok (.getfield 91, 3) := by decide +kernel
theorem dX12_readPath_59 : decode cX12_readPath 59 = .ok (.iload_n 1, 1) := by decide +kernel
theorem dX12_readPath_60 : decode cX12_readPath 60 = .ok (.if_icmp .eq 16, 3) := by decide +kernel
theorem dX12_readPath_63 : decode cX12_readPath 63 = .ok (.aload_n 0, 1) := by decide +kernel
theorem dX12_readPath_64 : decode cX12_readPath 64 = .ok (.iload_n 1, 1) := by decide +kernel
theorem dX12_readPath_65 : decode cX12_readPath 65 = .ok (.aload_n 0, 1) := by decide +kernel
theorem dX12_readPath_66 : decode cX12_readPath 66 = .ok (.getfield 91, 3) := by decide +kernel
theorem dX12_readPath_69 : decode cX12_readPath 69 = .ok (.i2l, 1) := by decide +kernel
theorem dX12_readPath_70 : decode cX12_readPath 70 = .ok (.invokevirtual 129, 3) := by decide +kernel
theorem dX12_readPath_73 : decode cX12_readPath 73 = .ok (.ifCond .eq 8, 3) := by decide +kernel
theorem dX12_readPath_76 : decode cX12_readPath 76 = .ok (.aload_n 0, 1) := by decide +kernel
theorem dX12_readPath_77 : decode cX12_readPath 77 = .ok (.iconst 2, 1) := by decide +kernel
theorem dX12_readPath_78 : decode cX12_readPath 78 = .ok (.invokevirtual 105, 3) := by decide +kernel
theorem dX12_readPath_81 : decode cX12_readPath 81 = .ok (.aload_n 0, 1) := by decide +kernel
theorem dX12_readPath_82 : decode cX12_readPath 82 = .ok (.iconst 0, 1) := by decide +kernel
theorem dX12_readPath_83 : decode cX12_readPath 83 = .ok (.bipush 7, 2) := by decide +kernel
theorem dX12_readPath_85 : decode cX12_readPath 85 = .ok (.invokevirtual 122, 3) := by decide +kernel
theorem dX12_readPath_88 : decode cX12_readPath 88 = .ok (.istore_n 2, 1) := by decide +kernel
theorem dX12_readPath_89 : decode cX12_readPath 89 = .ok (.aload_n 0, 1) := by decide +kernel
theorem dX12_readPath_90 : decode cX12_readPath 90 = .ok (.bipush 44, 2) := by decide +kernel
theorem dX12_readPath_92 : decode cX12_readPath 92 = .ok (.invokevirtual 126, 3) := by decide +kernel
theorem dX12_readPath_95 : decode cX12_readPath 95 = .ok (.aload_n 0, 1) := by decide +kernel
theorem dX12_readPath_96 : decode cX12_readPath 96 = .ok (.iconst 1, 1) := by decide +kernel
theorem dX12_readPath_97 : decode cX12_readPath 97 = .ok (.bipush 9, 2) := by decide +kernel
theorem dX12_readPath_99 : decode cX12_readPath 99 = .ok (.invokevirtual 122, 3) := by decide +kernel
theorem dX12_readPath_102 : decode cX12_readPath 102 = .ok (.istore_n 3, 1) := by decide +kernel
theorem dX12_readPath_103 : decode cX12_readPath 103 = .ok (.aload_n 0, 1) := by decide +kernel
theorem dX12_readPath_104 : decode cX12_readPath 104 = .ok (.bipush 59, 2) := by decide +kernel
theorem dX12_readPath_106 : decode cX12_readPath 106 = .ok (.invokevirtual 126, 3) := by decide +kernel
theorem dX12_readPath_109 : decode cX12_readPath 109 = .ok (.aload_n 0, 1) := by decide +kernel
theorem dX12_readPath_110 : decode cX12_readPath 110 = .ok (.getfield 78, 3) := by decide +kernel
theorem dX12_readPath_113 : decode cX12_readPath 113 = .ok (.ifCond .ne 54, 3) := by decide +kernel
theorem dX12_readPath_116 : decode cX12_readPath 116 = .ok (.bipush 7, 2) := by decide +kernel
theorem dX12_readPath_118 : decode cX12_readPath 118 = .ok (.iconst 3, 1) := by decide +kernel
theorem dX12_readPath_119 : decode cX12_readPath 119 = .ok (.aload_n 0, 1) := by decide +kernel
theorem dX12_readPath_120 : decode cX12_readPath 120 = .ok (.getfield 22, 3) := by decide +kernel
theorem dX12_readPath_123 : decode cX12_readPath 123 = .ok (.iconst 3, 1) := by decide +kernel
theorem dX12_readPath_124 : decode cX12_readPath 124 = .ok (.iaload, 1) := by decide +kernel
theorem dX12_readPath_125 : decode cX12_readPath 125 = .ok (.imul, 1) := by decide +kernel
theorem dX12_readPath_126 : decode cX12_readPath 126 = .ok (.iadd, 1) := by decide +kernel
theorem dX12_readPath_127 : decode cX12_readPath 127 = .ok (.istore 4, 2) := by decide +kernel
theorem dX12_readPath_129 : decode cX12_readPath 129 = .ok (.aload_n 0, 1) := by decide +kernel
theorem dX12_readPath_130 : decode cX12_readPath 130 = .ok (.getfield 22, 3) := by decide +kernel
theorem dX12_readPath_133 : decode cX12_readPath 133 = .ok (.iload 4, 2) := by decide +kernel
theorem dX12_readPath_135 : decode cX12_readPath 135 = .ok (.iload_n 1, 1) := by decide +kernel
theorem dX12_readPath_136 : decode cX12_readPath 136 = .ok (.iastore, 1) := by decide +kernel
theorem dX12_readPath_137 : decode cX12_readPath 137 = .ok (.aload_n 0, 1) := by decide +kernel
theorem dX12_readPath_138 : decode cX12_readPath 138 = .ok (.getfield 22, 3) := by decide +kernel
theorem dX12_readPath_141 : decode cX12_readPath 141 = .ok (.iload 4, 2) := by decide +kernel
theorem dX12_readPath_143 : decode cX12_readPath 143 = .ok (.iconst 1, 1) := by decide +kernel
theorem dX12_readPath_144 : decode cX12_readPath 144 = .ok (.iadd, 1) := by decide +kernel
theorem dX12_readPath_145 : decode cX12_readPath 145 = .ok (.iload_n 2, 1) := by decide +kernel
theorem dX12_readPath_146 : decode cX12_readPath 146 = .ok (.iastore, 1) := by decide +kernel
theorem dX12_readPath_147 : decode cX12_readPath 147 = .ok (.aload_n 0, 1) := by decide +kernel
theorem dX12_readPath_148 : decode cX12_readPath 148 = .ok (.getfield 22, 3) := by decide +kernel
theorem dX12_readPath_151 : decode cX12_readPath 151 = .ok (.iload 4, 2) := by decide +kernel
theorem dX12_readPath_153 : decode cX12_readPath 153 = .ok (.iconst 2, 1) := by decide +kernel
theorem dX12_readPath_154 : decode cX12_readPath 154 = .ok (.iadd, 1) := by decide +kernel
theorem dX12_readPath_155 : decode cX12_readPath 155 = .ok (.iload_n 3, 1) := by decide +kernel
theorem dX12_readPath_156 : decode cX12_readPath 156 = .ok (.iastore, 1) := by decide +kernel
theorem dX12_readPath_157 : decode cX12_readPath 157 = .ok (.aload_n 0, 1) := by decide +kernel
theorem dX12_readPath_158 : decode cX12_readPath 158 = .ok (.getfield 22, 3) := by decide +kernel
theorem dX12_readPath_161 : decode cX12_readPath 161 = .ok (.iconst 3, 1) := by decide +kernel
theorem dX12_readPath_162 : decode cX12_readPath 162 = .ok (.dup2, 1) := by decide +kernel
theorem dX12_readPath_163 : decode cX12_readPath 163 = .ok (.iaload, 1) := by decide +kernel
theorem dX12_readPath_164 : decode cX12_readPath 164 = .ok (.iconst 1, 1) := by decide +kernel
theorem dX12_readPath_165 : decode cX12_readPath 165 = .ok (.iadd, 1) := by decide +kernel
theorem dX12_readPath_166 : decode cX12_readPath 166 = .ok (.iastore, 1) := by decide +kernel
theorem dX12_readPath_167 : decode cX12_readPath 167 = .ok (.return_, 1) := by decide +kernel
theorem dX12_readWitness_0 : decode cX12_readWitness 0 = .ok (.aload_n 0, 1) := by decide +kernel
theorem dX12_readWitness_1 : decode cX12_readWitness 1 = .ok (.getfield 91, 3) := by decide +kernel
theorem dX12_readWitness_4 : decode cX12_readWitness 4 = .ok (.invokestatic 133, 3) := by decide +kernel
theorem dX12_readWitness_7 : decode cX12_readWitness 7 = .ok (.istore_n 1, 1) := by decide +kernel
theorem dX12_readWitness_8 : decode cX12_readWitness 8 = .ok (.aload_n 0, 1) := by decide +kernel
theorem dX12_readWitness_9 : decode cX12_readWitness 9 = .ok (.getfield 22, 3) := by decide +kernel
theorem dX12_readWitness_12 : decode cX12_readWitness 12 = .ok (.iconst 4, 1) := by decide +kernel
theorem dX12_readWitness_13 : decode cX12_readWitness 13 = .ok (.iaload, 1) := by decide +kernel
theorem dX12_readWitness_14 : decode cX12_readWitness 14 = .ok (.bipush 6, 2) := by decide +kernel
theorem dX12_readWitness_16 : decode cX12_readWitness 16 = .ok (.if_icmp .ne 8, 3) := by decide +kernel
theorem dX12_readWitness_19 : decode cX12_readWitness 19 = .ok (.aload_n 0, 1) := by decide +kernel
theorem dX12_readWitness_20 : decode cX12_readWitness 20 = .ok (.iconst 3, 1) := by decide +kernel
theorem dX12_readWitness_21 : decode cX12_readWitness 21 = .ok (.invokevirtual 105, 3) := by decide +kernel
theorem dX12_readWitness_24 : decode cX12_readWitness 24 = .ok (.aload_n 0, 1) := by decide +kernel
theorem dX12_readWitness_25 : decode cX12_readWitness 25 = .ok (.iconst 1, 1) := by decide +kernel
theorem dX12_readWitness_26 : decode cX12_readWitness 26 = .ok (.invokevirtual 112, 3) := by decide +kernel
theorem dX12_readWitness_29 : decode cX12_readWitness 29 = .ok (.aload_n 0, 1) := by decide +kernel
theorem dX12_readWitness_30 : decode cX12_readWitness 30 = .ok (.iconst 0, 1) := by decide +kernel
theorem dX12_readWitness_31 : decode cX12_readWitness 31 = .ok (.bipush 60, 2) := by decide +kernel
theorem dX12_readWitness_33 : decode cX12_readWitness 33 = .ok (.invokevirtual 122, 3) := by decide +kernel
theorem dX12_readWitness_36 : decode cX12_readWitness 36 = .ok (.istore_n 2, 1) := by decide +kernel
theorem dX12_readWitness_37 : decode cX12_readWitness 37 = .ok (.aload_n 0, 1) := by decide +kernel
theorem dX12_readWitness_38 : decode cX12_readWitness 38 = .ok (.bipush 44, 2) := by decide +kernel
theorem dX12_readWitness_40 : decode cX12_readWitness 40 = .ok (.invokevirtual 126, 3) := by decide +kernel
theorem dX12_readWitness_43 : decode cX12_readWitness 43 = .ok (.aload_n 0, 1) := by decide +kernel
theorem dX12_readWitness_44 : decode cX12_readWitness 44 = .ok (.iconst 0, 1) := by decide +kernel
theorem dX12_readWitness_45 : decode cX12_readWitness 45 = .ok (.bipush 7, 2) := by decide +kernel
theorem dX12_readWitness_47 : decode cX12_readWitness 47 = .ok (.invokevirtual 122, 3) := by decide +kernel
theorem dX12_readWitness_50 : decode cX12_readWitness 50 = .ok (.istore_n 3, 1) := by decide +kernel
theorem dX12_readWitness_51 : decode cX12_readWitness 51 = .ok (.aload_n 0, 1) := by decide +kernel
theorem dX12_readWitness_52 : decode cX12_readWitness 52 = .ok (.bipush 59, 2) := by decide +kernel
theorem dX12_readWitness_54 : decode cX12_readWitness 54 = .ok (.invokevirtual 126, 3) := by decide +kernel
theorem dX12_readWitness_57 : decode cX12_readWitness 57 = .ok (.aload_n 0, 1) := by decide +kernel
theorem dX12_readWitness_58 : decode cX12_readWitness 58 = .ok (.getfield 78, 3) := by decide +kernel
theorem dX12_readWitness_61 : decode cX12_readWitness 61 = .ok (.ifCond .ne 54, 3) := by decide +kernel
theorem dX12_readWitness_64 : decode cX12_readWitness 64 = .ok (.bipush 43, 2) := by decide +kernel
theorem dX12_readWitness_66 : decode cX12_readWitness 66 = .ok (.iconst 4, 1) := by decide +kernel
theorem dX12_readWitness_67 : decode cX12_readWitness 67 = .ok (.aload_n 0, 1) := by decide +kernel
theorem dX12_readWitness_68 : decode cX12_readWitness 68 = .ok (.getfield 22, 3) := by decide +kernel
theorem dX12_readWitness_71 : decode cX12_readWitness 71 = .ok (.iconst 4, 1) := by decide +kernel
theorem dX12_readWitness_72 : decode cX12_readWitness 72 = .ok (.iaload, 1) := by decide +kernel
theorem dX12_readWitness_73 : decode cX12_readWitness 73 = .ok (.imul, 1) := by decide +kernel
theorem dX12_readWitness_74 : decode cX12_readWitness 74 = .ok (.iadd, 1) := by decide +kernel
theorem dX12_readWitness_75 : decode cX12_readWitness 75 = .ok (.istore 4, 2) := by decide +kernel
theorem dX12_readWitness_77 : decode cX12_readWitness 77 = .ok (.aload_n 0, 1) := by decide +kernel
theorem dX12_readWitness_78 : decode cX12_readWitness 78 = .ok (.getfield 22, 3) := by decide +kernel
theorem dX12_readWitness_81 : decode cX12_readWitness 81 = .ok (.iload 4, 2) := by decide +kernel
theorem dX12_readWitness_83 : decode cX12_readWitness 83 = .ok (.iload_n 1, 1) := by decide +kernel
theorem dX12_readWitness_84 : decode cX12_readWitness 84 = .ok (.iastore, 1) := by decide +kernel
theorem dX12_readWitness_85 : decode cX12_readWitness 85 = .ok (.aload_n 0, 1) := by decide +kernel
theorem dX12_readWitness_86 : decode cX12_readWitness 86 = .ok (.getfield 22, 3) := by decide +kernel
theorem dX12_readWitness_89 : decode cX12_readWitness 89 = .ok (.iload 4, 2) := by decide +kernel
theorem dX12_readWitness_91 : decode cX12_readWitness 91 = .ok (.iconst 1, 1) := by decide +kernel
theorem dX12_readWitness_92 : decode cX12_readWitness 92 = .ok (.iadd, 1) := by decide +kernel
theorem dX12_readWitness_93 : decode cX12_readWitness 93 = .ok (.iload_n 2, 1) := by decide +kernel
theorem dX12_readWitness_94 : decode cX12_readWitness 94 = .ok (.iastore, 1) := by decide +kernel
theorem dX12_readWitness_95 : decode cX12_readWitness 95 = .ok (.aload_n 0, 1) := by decide +kernel
theorem dX12_readWitness_96 : decode cX12_readWitness 96 = .ok (.getfield 22, 3) := by decide +kernel
theorem dX12_readWitness_99 : decode cX12_readWitness 99 = .ok (.iload 4, 2) := by decide +kernel
theorem dX12_readWitness_101 : decode cX12_readWitness 101 = .ok (.iconst 2, 1) := by decide +kernel
theorem dX12_readWitness_102 : decode cX12_readWitness 102 = .ok (.iadd, 1) := by decide +kernel
theorem dX12_readWitness_103 : decode cX12_readWitness 103 = .ok (.iload_n 3, 1) := by decide +kernel
theorem dX12_readWitness_104 : decode cX12_readWitness 104 = .ok (.iastore, 1) := by decide +kernel
theorem dX12_readWitness_105 : decode cX12_readWitness 105 = .ok (.aload_n 0, 1) := by decide +kernel
theorem dX12_readWitness_106 : decode cX12_readWitness 106 = .ok (.getfield 22, 3) := by decide +kernel
theorem dX12_readWitness_109 : decode cX12_readWitness 109 = .ok (.iconst 4, 1) := by decide +kernel
theorem dX12_readWitness_110 : decode cX12_readWitness 110 = .ok (.dup2, 1) := by decide +kernel
theorem dX12_readWitness_111 : decode cX12_readWitness 111 = .ok (.iaload, 1) := by decide +kernel
theorem dX12_readWitness_112 : decode cX12_readWitness 112 = .ok (.iconst 1, 1) := by decide +kernel
theorem dX12_readWitness_113 : decode cX12_readWitness 113 = .ok (.iadd, 1) := by decide +kernel
theorem dX12_readWitness_114 : decode cX12_readWitness 114 = .ok (.iastore, 1) := by decide +kernel
theorem dX12_readWitness_115 : decode cX12_readWitness 115 = .ok (.return_, 1) := by decide +kernel
theorem dX12_parish_0 : decode cX12_parish 0 = .ok (.aload_n 0, 1) := by decide +kernel
theorem dX12_parish_1 : decode cX12_parish 1 = .ok (.iconst 0, 1) := by decide +kernel
theorem dX12_parish_2 : decode cX12_parish 2 = .ok (.putfield 47, 3) := by decide +kernel
theorem dX12_parish_5 : decode cX12_parish 5 = .ok (.aload_n 0, 1) := by decide +kernel
theorem dX12_parish_6 : decode cX12_parish 6 = .ok (.invokevirtual 136, 3) := by decide +kernel
theorem dX12_parish_9 : decode cX12_parish 9 = .ok (.iconst 0, 1) := by decide +kernel
theorem dX12_parish_10 : decode cX12_parish 10 = .ok (.istore_n 1, 1) := by decide +kernel
theorem dX12_parish_11 : decode cX12_parish 11 = .ok (.iload_n 1, 1) := by decide +kernel
theorem dX12_parish_12 : decode cX12_parish 12 = .ok (.bipush 67, 2) := by decide +kernel
theorem dX12_parish_14 : decode cX12_parish 14 = .ok (.if_icmp .ge 16, 3) := by decide +kernel
theorem dX12_parish_17 : decode cX12_parish 17 = .ok (.aload_n 0, 1) := by decide +kernel
theorem dX12_parish_18 : decode cX12_parish 18 = .ok (.getfield 22, 3) := by decide +kernel
theorem dX12_parish_21 : decode cX12_parish 21 = .ok (.iload_n 1, 1) := by decide +kernel
theorem dX12_parish_22 : decode cX12_parish 22 = .ok (.iconst 0, 1) := by decide +kernel
theorem dX12_parish_23 : decode cX12_parish 23 = .ok (.iastore, 1) := by decide +kernel
theorem dX12_parish_24 : decode cX12_parish 24 = .ok (.iinc 1 1, 3) := by decide +kernel
theorem dX12_parish_27 : decode cX12_parish 27 = .ok (.goto (-16), 3) := by decide +kernel
theorem dX12_parish_30 : decode cX12_parish 30 = .ok (.aload_n 0, 1) := by decide +kernel
theorem dX12_parish_31 : decode cX12_parish 31 = .ok (.getfield 22, 3) := by decide +kernel
theorem dX12_parish_34 : decode cX12_parish 34 = .ok (.iconst 0, 1) := by decide +kernel
theorem dX12_parish_35 : decode cX12_parish 35 = .ok (.iconst 1, 1) := by decide +kernel
theorem dX12_parish_36 : decode cX12_parish 36 = .ok (.iastore, 1) := by decide +kernel
theorem dX12_parish_37 : decode cX12_parish 37 = .ok (.aload_n 0, 1) := by decide +kernel
theorem dX12_parish_38 : decode cX12_parish 38 = .ok (.aload_n 0, 1) := by decide +kernel
theorem dX12_parish_39 : decode cX12_parish 39 = .ok (.bipush 99, 2) := by decide +kernel
theorem dX12_parish_41 : decode cX12_parish 41 = .ok (.invokevirtual 119, 3) := by decide +kernel
theorem dX12_parish_44 : decode cX12_parish 44 = .ok (.invokevirtual 112, 3) := by decide +kernel
theorem dX12_parish_47 : decode cX12_parish 47 = .ok (.aload_n 0, 1) := by decide +kernel
theorem dX12_parish_48 : decode cX12_parish 48 = .ok (.getfield 22, 3) := by decide +kernel
theorem dX12_parish_51 : decode cX12_parish 51 = .ok (.iconst 1, 1) := by decide +kernel
theorem dX12_parish_52 : decode cX12_parish 52 = .ok (.aload_n 0, 1) := by decide +kernel
theorem dX12_parish_53 : decode cX12_parish 53 = .ok (.iconst 0, 1) := by decide +kernel
theorem dX12_parish_54 : decode cX12_parish 54 = .ok (.bipush 7, 2) := by decide +kernel
theorem dX12_parish_56 : decode cX12_parish 56 = .ok (.invokevirtual 122, 3) := by decide +kernel
theorem dX12_parish_59 : decode cX12_parish 59 = .ok (.iastore, 1) := by decide +kernel
theorem dX12_parish_60 : decode cX12_parish 60 = .ok (.aload_n 0, 1) := by decide +kernel
theorem dX12_parish_61 : decode cX12_parish 61 = .ok (.bipush 44, 2) := by decide +kernel
theorem dX12_parish_63 : decode cX12_parish 63 = .ok (.invokevirtual 126, 3) := by decide +kernel
theorem dX12_parish_66 : decode cX12_parish 66 = .ok (.aload_n 0, 1) := by decide +kernel
theorem dX12_parish_67 : decode cX12_parish 67 = .ok (.getfield 22, 3) := by decide +kernel
theorem dX12_parish_70 : decode cX12_parish 70 = .ok (.iconst 2, 1) := by decide +kernel
theorem dX12_parish_71 : decode cX12_parish 71 = .ok (.aload_n 0, 1) := by decide +kernel
theorem dX12_parish_72 : decode cX12_parish 72 = .ok (.bipush 20, 2) := by decide +kernel
theorem dX12_parish_74 : decode cX12_parish 74 = .ok (.bipush 90, 2) := by decide +kernel
theorem dX12_parish_76 : decode cX12_parish 76 = .ok (.invokevirtual 122, 3) := by decide +kernel
theorem dX12_parish_79 : decode cX12_parish 79 = .ok (.iastore, 1) := by decide +kernel
theorem dX12_parish_80 : decode cX12_parish 80 = .ok (.aload_n 0, 1) := by decide +kernel
theorem dX12_parish_81 : decode cX12_parish 81 = .ok (.bipush 59, 2) := by decide +kernel
theorem dX12_parish_83 : decode cX12_parish 83 = .ok (.invokevirtual 126, 3) := by decide +kernel
theorem dX12_parish_86 : decode cX12_parish 86 = .ok (.aload_n 0, 1) := by decide +kernel
theorem dX12_parish_87 : decode cX12_parish 87 = .ok (.bipush 112, 2) := by decide +kernel
theorem dX12_parish_89 : decode cX12_parish 89 = .ok (.invokevirtual 119, 3) := by decide +kernel
theorem dX12_parish_92 : decode cX12_parish 92 = .ok (.ifCond .ne 8, 3) := by decide +kernel
theorem dX12_parish_95 : decode cX12_parish 95 = .ok (.aload_n 0, 1) := by decide +kernel
theorem dX12_parish_96 : decode cX12_parish 96 = .ok (.iconst 1, 1) := by decide +kernel
theorem dX12_parish_97 : decode cX12_parish 97 = .ok (.invokevirtual 105, 3) := by decide +kernel
theorem dX12_parish_100 : decode cX12_parish 100 = .ok (.aload_n 0, 1) := by decide +kernel
theorem dX12_parish_101 : decode cX12_parish 101 = .ok (.bipush 112, 2) := by decide +kernel
theorem dX12_parish_103 : decode cX12_parish 103 = .ok (.invokevirtual 119, 3) := by decide +kernel
theorem dX12_parish_106 : decode cX12_parish 106 = .ok (.ifCond .eq 10, 3) := by decide +kernel
theorem dX12_parish_109 : decode cX12_parish 109 = .ok (.aload_n 0, 1) := by decide +kernel
theorem dX12_parish_110 : decode cX12_parish 110 = .ok (.invokevirtual 139, 3) := by decide +kernel
theorem dX12_parish_113 : decode cX12_parish 113 = .ok (.goto (-13), 3) := by decide +kernel
theorem dX12_parish_116 : decode cX12_parish 116 = .ok (.aload_n 0, 1) := by decide +kernel
theorem dX12_parish_117 : decode cX12_parish 117 = .ok (.getfield 78, 3) := by decide +kernel
theorem dX12_parish_120 : decode cX12_parish 120 = .ok (.ifCond .ne 30, 3) := by decide +kernel
theorem dX12_parish_123 : decode cX12_parish 123 = .ok (.aload_n 0, 1) := by decide +kernel
theorem dX12_parish_124 : decode cX12_parish 124 = .ok (.getfield 102, 3) := by decide +kernel
theorem dX12_parish_127 : decode cX12_parish 127 = .ok (.iconst 2, 1) := by decide +kernel
theorem dX12_parish_128 : decode cX12_parish 128 = .ok (.if_icmp .ne 22, 3) := by decide +kernel
theorem dX12_parish_131 : decode cX12_parish 131 = .ok (.aload_n 0, 1) := by decide +kernel
theorem dX12_parish_132 : decode cX12_parish 132 = .ok (.getfield 91, 3) := by decide +kernel
theorem dX12_parish_135 : decode cX12_parish 135 = .ok (.invokestatic 133, 3) := by decide +kernel
theorem dX12_parish_138 : decode cX12_parish 138 = .ok (.ldc 90, 2) := by decide +kernel
theorem dX12_parish_140 : decode cX12_parish 140 = .ok (.if_icmp .eq 10, 3) := by decide +kernel
theorem dX12_parish_143 : decode cX12_parish 143 = .ok (.aload_n 0, 1) := by decide +kernel
theorem dX12_parish_144 : decode cX12_parish 144 = .ok (.invokevirtual 142, 3) := by decide +kernel
theorem dX12_parish_147 : decode cX12_parish 147 = .ok (.goto (-31), 3) := by decide +kernel
theorem dX12_parish_150 : decode cX12_parish 150 = .ok (.aload_n 0, 1) := by decide +kernel
theorem dX12_parish_151 : decode cX12_parish 151 = .ok (.invokevirtual 145, 3) := by decide +kernel
theorem dX12_parish_154 : decode cX12_parish 154 = .ok (.ifCond .eq 11, 3) := by decide +kernel
theorem dX12_parish_157 : decode cX12_parish 157 = .ok (.ldc 149, 2) := by decide +kernel
theorem dX12_parish_159 : decode cX12_parish 159 = .ok (.aload_n 0, 1) := by decide +kernel
theorem dX12_parish_160 : decode cX12_parish 160 = .ok (.getfield 84, 3) := by decide +kernel
theorem dX12_parish_163 : decode cX12_parish 163 = .ok (.isub, 1) := by decide +kernel
theorem dX12_parish_164 : decode cX12_parish 164 = .ok (.ireturn, 1) := by decide +kernel
theorem dX12_parish_165 : decode cX12_parish 165 = .ok (.aload_n 0, 1) := by decide +kernel
theorem dX12_parish_166 : decode cX12_parish 166 = .ok (.iconst 0, 1) := by decide +kernel
theorem dX12_parish_167 : decode cX12_parish 167 = .ok (.putfield 150, 3) := by decide +kernel
theorem dX12_parish_170 : decode cX12_parish 170 = .ok (.iconst 0, 1) := by decide +kernel
theorem dX12_parish_171 : decode cX12_parish 171 = .ok (.istore_n 1, 1) := by decide +kernel
theorem dX12_parish_172 : decode cX12_parish 172 = .ok (.iload_n 1, 1) := by decide +kernel
theorem dX12_parish_173 : decode cX12_parish 173 = .ok (.bipush 67, 2) := by decide +kernel
theorem dX12_parish_175 : decode cX12_parish 175 = .ok (.if_icmp .ge 21, 3) := by decide +kernel
theorem dX12_parish_178 : decode cX12_parish 178 = .ok (.aload_n 0, 1) := by decide +kernel
theorem dX12_parish_179 : decode cX12_parish 179 = .ok (.getfield 19, 3) := by decide +kernel
theorem dX12_parish_182 : decode cX12_parish 182 = .ok (.iload_n 1, 1) := by decide +kernel
theorem dX12_parish_183 : decode cX12_parish 183 = .ok (.aload_n 0, 1) := by decide +kernel
theorem dX12_parish_184 : decode cX12_parish 184 = .ok (.getfield 22, 3) := by decide +kernel
theorem dX12_parish_187 : decode cX12_parish 187 = .ok (.iload_n 1, 1) := by decide +kernel
theorem dX12_parish_188 : decode cX12_parish 188 = .ok (.iaload, 1) := by decide +kernel
theorem dX12_parish_189 : decode cX12_parish 189 = .ok (.iastore, 1) := by decide +kernel
theorem dX12_parish_190 : decode cX12_parish 190 = .ok (.iinc 1 1, 3) := by decide +kernel
theorem dX12_parish_193 : decode cX12_parish 193 = .ok (.goto (-21), 3) := by decide +kernel
theorem dX12_parish_196 : decode cX12_parish 196 = .ok (.aload_n 0, 1) := by decide +kernel
theorem dX12_parish_197 : decode cX12_parish 197 = .ok (.getfield 19, 3) := by decide +kernel
theorem dX12_parish_200 : decode cX12_parish 200 = .ok (.iconst 3, 1) := by decide +kernel
theorem dX12_parish_201 : decode cX12_parish 201 = .ok (.iaload, 1) := by decide +kernel
theorem dX12_parish_202 : decode cX12_parish 202 = .ok (.ireturn, 1) := by decide +kernel
theorem dX12_isThere_0 : decode cX12_isThere 0 = .ok (.aload_n 0, 1) := by decide +kernel
theorem dX12_isThere_1 : decode cX12_isThere 1 = .ok (.getfield 19, 3) := by decide +kernel
theorem dX12_isThere_4 : decode cX12_isThere 4 = .ok (.iconst 0, 1) := by decide +kernel
theorem dX12_isThere_5 : decode cX12_isThere 5 = .ok (.iaload, 1) := by decide +kernel
theorem dX12_isThere_6 : decode cX12_isThere 6 = .ok (.iconst 1, 1) := by decide +kernel
theorem dX12_isThere_7 : decode cX12_isThere 7 = .ok (.if_icmp .ne 7, 3) := by decide +kernel
theorem dX12_isThere_10 : decode cX12_isThere 10 = .ok (.iconst 1, 1) := by decide +kernel
theorem dX12_isThere_11 : decode cX12_isThere 11 = .ok (.goto 4, 3) := by decide +kernel
theorem dX12_isThere_14 : decode cX12_isThere 14 = .ok (.iconst 0, 1) := by decide +kernel
theorem dX12_isThere_15 : decode cX12_isThere 15 = .ok (.ireturn, 1) := by decide +kernel
theorem dX12_isField_0 : decode cX12_isField 0 = .ok (.lload_n 0, 1) := by decide +kernel
theorem dX12_isField_1 : decode cX12_isField 1 = .ok (.lconst 0, 1) := by decide +kernel
theorem dX12_isField_2 : decode cX12_isField 2 = .ok (.ldc2_w 55, 3) := by decide +kernel
theorem dX12_isField_5 : decode cX12_isField 5 = .ok (.invokestatic 57, 3) := by decide +kernel
theorem dX12_isField_8 : decode cX12_isField 8 = .ok (.ireturn, 1) := by decide +kernel
theorem dX12_isPath_0 : decode cX12_isPath 0 = .ok (.iload_n 1, 1) := by decide +kernel
theorem dX12_isPath_1 : decode cX12_isPath 1 = .ok (.i2l, 1) := by decide +kernel
theorem dX12_isPath_2 : decode cX12_isPath 2 = .ok (.lconst 0, 1) := by decide +kernel
theorem dX12_isPath_3 : decode cX12_isPath 3 = .ok (.aload_n 0, 1) := by decide +kernel
theorem dX12_isPath_4 : decode cX12_isPath 4 = .ok (.getfield 19, 3) := by decide +kernel
theorem dX12_isPath_7 : decode cX12_isPath 7 = .ok (.iconst 3, 1) := by decide +kernel
theorem dX12_isPath_8 : decode cX12_isPath 8 = .ok (.iaload, 1) := by decide +kernel
theorem dX12_isPath_9 : decode cX12_isPath 9 = .ok (.iconst 1, 1) := by decide +kernel
theorem dX12_isPath_10 : decode cX12_isPath 10 = .ok (.isub, 1) := by decide +kernel
theorem dX12_isPath_11 : decode cX12_isPath 11 = .ok (.i2l, 1) := by decide +kernel
theorem dX12_isPath_12 : decode cX12_isPath 12 = .ok (.invokestatic 57, 3) := by decide +kernel
theorem dX12_isPath_15 : decode cX12_isPath 15 = .ok (.ireturn, 1) := by decide +kernel
theorem dX12_isWitness_0 : decode cX12_isWitness 0 = .ok (.iload_n 1, 1) := by decide +kernel
theorem dX12_isWitness_1 : decode cX12_isWitness 1 = .ok (.i2l, 1) := by decide +kernel
theorem dX12_isWitness_2 : decode cX12_isWitness 2 = .ok (.lconst 0, 1) := by decide +kernel
theorem dX12_isWitness_3 : decode cX12_isWitness 3 = .ok (.aload_n 0, 1) := by decide +kernel
theorem dX12_isWitness_4 : decode cX12_isWitness 4 = .ok (.getfield 19, 3) := by decide +kernel
theorem dX12_isWitness_7 : decode cX12_isWitness 7 = .ok (.iconst 4, 1) := by decide +kernel
theorem dX12_isWitness_8 : decode cX12_isWitness 8 = .ok (.iaload, 1) := by decide +kernel
theorem dX12_isWitness_9 : decode cX12_isWitness 9 = .ok (.iconst 1, 1) := by decide +kernel
theorem dX12_isWitness_10 : decode cX12_isWitness 10 = .ok (.isub, 1) := by decide +kernel
theorem dX12_isWitness_11 : decode cX12_isWitness 11 = .ok (.i2l, 1) := by decide +kernel
theorem dX12_isWitness_12 : decode cX12_isWitness 12 = .ok (.invokestatic 57, 3) := by decide +kernel
theorem dX12_isWitness_15 : decode cX12_isWitness 15 = .ok (.ireturn, 1) := by decide +kernel
theorem dX12_has_0 : decode cX12_has 0 = .ok (.iload_n 0, 1) := by decide +kernel
theorem dX12_has_1 : decode cX12_has 1 = .ok (.iload_n 1, 1) := by decide +kernel
theorem dX12_has_2 : decode cX12_has 2 = .ok (.ishr, 1) := by decide +kernel
theorem dX12_has_3 : decode cX12_has 3 = .ok (.iconst 1, 1) := by decide +kernel
theorem dX12_has_4 : decode cX12_has 4 = .ok (.iand, 1) := by decide +kernel
theorem dX12_has_5 : decode cX12_has 5 = .ok (.iconst 1, 1) := by decide +kernel
theorem dX12_has_6 : decode cX12_has 6 = .ok (.if_icmp .ne 7, 3) := by decide +kernel
theorem dX12_has_9 : decode cX12_has 9 = .ok (.iconst 1, 1) := by decide +kernel
theorem dX12_has_10 : decode cX12_has 10 = .ok (.goto 4, 3) := by decide +kernel
theorem dX12_has_13 : decode cX12_has 13 = .ok (.iconst 0, 1) := by decide +kernel
theorem dX12_has_14 : decode cX12_has 14 = .ok (.ireturn, 1) := by decide +kernel
theorem dX12_bits_0 : decode cX12_bits 0 = .ok (.iconst 0, 1) := by decide +kernel
theorem dX12_bits_1 : decode cX12_bits 1 = .ok (.istore_n 1, 1) := by decide +kernel
theorem dX12_bits_2 : decode cX12_bits 2 = .ok (.iconst 0, 1) := by decide +kernel
theorem dX12_bits_3 : decode cX12_bits 3 = .ok (.istore_n 2, 1) := by decide +kernel
theorem dX12_bits_4 : decode cX12_bits 4 = .ok (.iload_n 2, 1) := by decide +kernel
theorem dX12_bits_5 : decode cX12_bits 5 = .ok (.bipush 12, 2) := by decide +kernel
theorem dX12_bits_7 : decode cX12_bits 7 = .ok (.if_icmp .ge 17, 3) := by decide +kernel
theorem dX12_bits_10 : decode cX12_bits 10 = .ok (.iload_n 1, 1) := by decide +kernel
theorem dX12_bits_11 : decode cX12_bits 11 = .ok (.iload_n 0, 1) := by decide +kernel
theorem dX12_bits_12 : decode cX12_bits 12 = .ok (.iload_n 2, 1) := by decide +kernel
theorem dX12_bits_13 : decode cX12_bits 13 = .ok (.ishr, 1) := by decide +kernel
theorem dX12_bits_14 : decode cX12_bits 14 = .ok (.iconst 1, 1) := by decide +kernel
theorem dX12_bits_15 : decode cX12_bits 15 = .ok (.iand, 1) := by decide +kernel
theorem dX12_bits_16 : decode cX12_bits 16 = .ok (.iadd, 1) := by decide +kernel
theorem dX12_bits_17 : decode cX12_bits 17 = .ok (.istore_n 1, 1) := by decide +kernel
theorem dX12_bits_18 : decode cX12_bits 18 = .ok (.iinc 2 1, 3) := by decide +kernel
theorem dX12_bits_21 : decode cX12_bits 21 = .ok (.goto (-17), 3) := by decide +kernel
theorem dX12_bits_24 : decode cX12_bits 24 = .ok (.iload_n 1, 1) := by decide +kernel
theorem dX12_bits_25 : decode cX12_bits 25 = .ok (.ireturn, 1) := by decide +kernel
theorem dX12_allPaths_0 : decode cX12_allPaths 0 = .ok (.iconst 1, 1) := by decide +kernel
theorem dX12_allPaths_1 : decode cX12_allPaths 1 = .ok (.aload_n 0, 1) := by decide +kernel
theorem dX12_allPaths_2 : decode cX12_allPaths 2 = .ok (.getfield 19, 3) := by decide +kernel
theorem dX12_allPaths_5 : decode cX12_allPaths 5 = .ok (.iconst 3, 1) := by decide +kernel
theorem dX12_allPaths_6 : decode cX12_allPaths 6 = .ok (.iaload, 1) := by decide +kernel
theorem dX12_allPaths_7 : decode cX12_allPaths 7 = .ok (.ishl, 1) := by decide +kernel
theorem dX12_allPaths_8 : decode cX12_allPaths 8 = .ok (.iconst 1, 1) := by decide +kernel
theorem dX12_allPaths_9 : decode cX12_allPaths 9 = .ok (.isub, 1) := by decide +kernel
theorem dX12_allPaths_10 : decode cX12_allPaths 10 = .ok (.ireturn, 1) := by decide +kernel
theorem dX12_other_0 : decode cX12_other 0 = .ok (.bipush 7, 2) := by decide +kernel
theorem dX12_other_2 : decode cX12_other 2 = .ok (.iconst 3, 1) := by decide +kernel
theorem dX12_other_3 : decode cX12_other 3 = .ok (.iload_n 1, 1) := by decide +kernel
theorem dX12_other_4 : decode cX12_other 4 = .ok (.imul, 1) := by decide +kernel
theorem dX12_other_5 : decode cX12_other 5 = .ok (.iadd, 1) := by decide +kernel
theorem dX12_other_6 : decode cX12_other 6 = .ok (.istore_n 3, 1) := by decide +kernel
theorem dX12_other_7 : decode cX12_other 7 = .ok (.aload_n 0, 1) := by decide +kernel
theorem dX12_other_8 : decode cX12_other 8 = .ok (.getfield 19, 3) := by decide +kernel
theorem dX12_other_11 : decode cX12_other 11 = .ok (.iload_n 3, 1) := by decide +kernel
theorem dX12_other_12 : decode cX12_other 12 = .ok (.iaload, 1) := by decide +kernel
theorem dX12_other_13 : decode cX12_other 13 = .ok (.iload_n 2, 1) := by decide +kernel
theorem dX12_other_14 : decode cX12_other 14 = .ok (.if_icmp .ne 14, 3) := by decide +kernel
theorem dX12_other_17 : decode cX12_other 17 = .ok (.aload_n 0, 1) := by decide +kernel
theorem dX12_other_18 : decode cX12_other 18 = .ok (.getfield 19, 3) := by decide +kernel
theorem dX12_other_21 : decode cX12_other 21 = .ok (.iload_n 3, 1) := by decide +kernel
theorem dX12_other_22 : decode cX12_other 22 = .ok (.iconst 1, 1) := by decide +kernel
theorem dX12_other_23 : decode cX12_other 23 = .ok (.iadd, 1) := by decide +kernel
theorem dX12_other_24 : decode cX12_other 24 = .ok (.iaload, 1) := by decide +kernel
theorem dX12_other_25 : decode cX12_other 25 = .ok (.goto 26, 3) := by decide +kernel
theorem dX12_other_28 : decode cX12_other 28 = .ok (.aload_n 0, 1) := by decide +kernel
theorem dX12_other_29 : decode cX12_other 29 = .ok (.getfield 19, 3) := by decide +kernel
theorem dX12_other_32 : decode cX12_other 32 = .ok (.iload_n 3, 1) := by decide +kernel
theorem dX12_other_33 : decode cX12_other 33 = .ok (.iconst 1, 1) := by decide +kernel
theorem dX12_other_34 : decode cX12_other 34 = .ok (.iadd, 1) := by decide +kernel
theorem dX12_other_35 : decode cX12_other 35 = .ok (.iaload, 1) := by decide +kernel
theorem dX12_other_36 : decode cX12_other 36 = .ok (.iload_n 2, 1) := by decide +kernel
theorem dX12_other_37 : decode cX12_other 37 = .ok (.if_icmp .ne 12, 3) := by decide +kernel
theorem dX12_other_40 : decode cX12_other 40 = .ok (.aload_n 0, 1) := by decide +kernel
theorem dX12_other_41 : decode cX12_other 41 = .ok (.getfield 19, 3) := by decide +kernel
theorem dX12_other_44 : decode cX12_other 44 = .ok (.iload_n 3, 1) := by decide +kernel
theorem dX12_other_45 : decode cX12_other 45 = .ok (.iaload, 1) := by decide +kernel
theorem dX12_other_46 : decode cX12_other 46 = .ok (.goto 5, 3) := by decide +kernel
theorem dX12_other_49 : decode cX12_other 49 = .ok (.ldc 90, 2) := by decide +kernel
theorem dX12_other_51 : decode cX12_other 51 = .ok (.ireturn, 1) := by decide +kernel
theorem dX12_layFars_0 : decode cX12_layFars 0 = .ok (.iconst 0, 1) := by decide +kernel
theorem dX12_layFars_1 : decode cX12_layFars 1 = .ok (.istore_n 2, 1) := by decide +kernel
theorem dX12_layFars_2 : decode cX12_layFars 2 = .ok (.iload_n 2, 1) := by decide +kernel
theorem dX12_layFars_3 : decode cX12_layFars 3 = .ok (.bipush 8, 2) := by decide +kernel
theorem dX12_layFars_5 : decode cX12_layFars 5 = .ok (.if_icmp .ge 31, 3) := by decide +kernel
theorem dX12_layFars_8 : decode cX12_layFars 8 = .ok (.aload_n 0, 1) := by decide +kernel
theorem dX12_layFars_9 : decode cX12_layFars 9 = .ok (.getfield 34, 3) := by decide +kernel
theorem dX12_layFars_12 : decode cX12_layFars 12 = .ok (.iload_n 2, 1) := by decide +kernel
theorem dX12_layFars_13 : decode cX12_layFars 13 = .ok (.iload_n 2, 1) := by decide +kernel
theorem dX12_layFars_14 : decode cX12_layFars 14 = .ok (.aload_n 0, 1) := by decide +kernel
theorem dX12_layFars_15 : decode cX12_layFars 15 = .ok (.getfield 19, 3) := by decide +kernel
theorem dX12_layFars_18 : decode cX12_layFars 18 = .ok (.iconst 1, 1) := by decide +kernel
theorem dX12_layFars_19 : decode cX12_layFars 19 = .ok (.iaload, 1) := by decide +kernel
theorem dX12_layFars_20 : decode cX12_layFars 20 = .ok (.if_icmp .ne 7, 3) := by decide +kernel
theorem dX12_layFars_23 : decode cX12_layFars 23 = .ok (.iconst 0, 1) := by decide +kernel
theorem dX12_layFars_24 : decode cX12_layFars 24 = .ok (.goto 5, 3) := by decide +kernel
theorem dX12_layFars_27 : decode cX12_layFars 27 = .ok (.ldc 90, 2) := by decide +kernel
theorem dX12_layFars_29 : decode cX12_layFars 29 = .ok (.iastore, 1) := by decide +kernel
theorem dX12_layFars_30 : decode cX12_layFars 30 = .ok (.iinc 2 1, 3) := by decide +kernel
theorem dX12_layFars_33 : decode cX12_layFars 33 = .ok (.goto (-31), 3) := by decide +kernel
theorem dX12_layFars_36 : decode cX12_layFars 36 = .ok (.iconst 0, 1) := by decide +kernel
theorem dX12_layFars_37 : decode cX12_layFars 37 = .ok (.istore_n 2, 1) := by decide +kernel
theorem dX12_layFars_38 : decode cX12_layFars 38 = .ok (.iload_n 2, 1) := by decide +kernel
theorem dX12_layFars_39 : decode cX12_layFars 39 = .ok (.bipush 8, 2) := by decide +kernel
theorem dX12_layFars_41 : decode cX12_layFars 41 = .ok (.if_icmp .ge 216, 3) := by decide +kernel
theorem dX12_layFars_44 : decode cX12_layFars 44 = .ok (.iconst 0, 1) := by decide +kernel
theorem dX12_layFars_45 : decode cX12_layFars 45 = .ok (.istore_n 3, 1) := by decide +kernel
theorem dX12_layFars_46 : decode cX12_layFars 46 = .ok (.iload_n 3, 1) := by decide +kernel
theorem dX12_layFars_47 : decode cX12_layFars 47 = .ok (.aload_n 0, 1) := by decide +kernel
theorem dX12_layFars_48 : decode cX12_layFars 48 = .ok (.getfield 19, 3) := by decide +kernel
theorem dX12_layFars_51 : decode cX12_layFars 51 = .ok (.iconst 3, 1) := by decide +kernel
theorem dX12_layFars_52 : decode cX12_layFars 52 = .ok (.iaload, 1) := by decide +kernel
theorem dX12_layFars_53 : decode cX12_layFars 53 = .ok (.if_icmp .ge 198, 3) := by decide +kernel
theorem dX12_layFars_56 : decode cX12_layFars 56 = .ok (.bipush 7, 2) := by decide +kernel
theorem dX12_layFars_58 : decode cX12_layFars 58 = .ok (.iconst 3, 1) := by decide +kernel
theorem dX12_layFars_59 : decode cX12_layFars 59 = .ok (.iload_n 3, 1) := by decide +kernel
theorem dX12_layFars_60 : decode cX12_layFars 60 = .ok (.imul, 1) := by decide +kernel
theorem dX12_layFars_61 : decode cX12_layFars 61 = .ok (.iadd, 1) := by decide +kernel
theorem dX12_layFars_62 : decode cX12_layFars 62 = .ok (.istore 4, 2) := by decide +kernel
theorem dX12_layFars_64 : decode cX12_layFars 64 = .ok (.aload_n 0, 1) := by decide +kernel
theorem dX12_layFars_65 : decode cX12_layFars 65 = .ok (.getfield 19, 3) := by decide +kernel
theorem dX12_layFars_68 : decode cX12_layFars 68 = .ok (.iload 4, 2) := by decide +kernel
theorem dX12_layFars_70 : decode cX12_layFars 70 = .ok (.iaload, 1) := by decide +kernel
theorem dX12_layFars_71 : decode cX12_layFars 71 = .ok (.istore 5, 2) := by decide +kernel
theorem dX12_layFars_73 : decode cX12_layFars 73 = .ok (.aload_n 0, 1) := by decide +kernel
theorem dX12_layFars_74 : decode cX12_layFars 74 = .ok (.getfield 19, 3) := by decide +kernel
theorem dX12_layFars_77 : decode cX12_layFars 77 = .ok (.iload 4, 2) := by decide +kernel
theorem dX12_layFars_79 : decode cX12_layFars 79 = .ok (.iconst 1, 1) := by decide +kernel
theorem dX12_layFars_80 : decode cX12_layFars 80 = .ok (.iadd, 1) := by decide +kernel
theorem dX12_layFars_81 : decode cX12_layFars 81 = .ok (.iaload, 1) := by decide +kernel
theorem dX12_layFars_82 : decode cX12_layFars 82 = .ok (.istore 6, 2) := by decide +kernel
theorem dX12_layFars_84 : decode cX12_layFars 84 = .ok (.aload_n 0, 1) := by decide +kernel
theorem dX12_layFars_85 : decode cX12_layFars 85 = .ok (.getfield 19, 3) := by decide +kernel
theorem dX12_layFars_88 : decode cX12_layFars 88 = .ok (.iload 4, 2) := by decide +kernel
theorem dX12_layFars_90 : decode cX12_layFars 90 = .ok (.iconst 2, 1) := by decide +kernel
theorem dX12_layFars_91 : decode cX12_layFars 91 = .ok (.iadd, 1) := by decide +kernel
theorem dX12_layFars_92 : decode cX12_layFars 92 = .ok (.iaload, 1) := by decide +kernel
theorem dX12_layFars_93 : decode cX12_layFars 93 = .ok (.istore 7, 2) := by decide +kernel
theorem dX12_layFars_95 : decode cX12_layFars 95 = .ok (.iload_n 1, 1) := by decide +kernel
theorem dX12_layFars_96 : decode cX12_layFars 96 = .ok (.iload_n 3, 1) := by decide +kernel
theorem dX12_layFars_97 : decode cX12_layFars 97 = .ok (.invokestatic 153, 3) := by decide +kernel
theorem dX12_layFars_100 : decode cX12_layFars 100 = .ok (.ifCond .eq 145, 3) := by decide +kernel
theorem dX12_layFars_103 : decode cX12_layFars 103 = .ok (.aload_n 0, 1) := by decide +kernel
theorem dX12_layFars_104 : decode cX12_layFars 104 = .ok (.getfield 34, 3) := by decide +kernel
theorem dX12_layFars_107 : decode cX12_layFars 107 = .ok (.iload 5, 2) := by decide +kernel
theorem dX12_layFars_109 : decode cX12_layFars 109 = .ok (.aload_n 0, 1) := by decide +kernel
theorem dX12_layFars_110 : decode cX12_layFars 110 = .ok (.getfield 34, 3) := by decide +kernel
theorem dX12_layFars_113 : decode cX12_layFars 113 = .ok (.iload 6, 2) := by decide +kernel
theorem dX12_layFars_115 : decode cX12_layFars 115 = .ok (.iaload, 1) := by decide +kernel
theorem dX12_layFars_116 : decode cX12_layFars 116 = .ok (.ldc 90, 2) := by decide +kernel
theorem dX12_layFars_118 : decode cX12_layFars 118 = .ok (.if_icmp .eq 48, 3) := by decide +kernel
theorem dX12_layFars_121 : decode cX12_layFars 121 = .ok (.aload_n 0, 1) := by decide +kernel
theorem dX12_layFars_122 : decode cX12_layFars 122 = .ok (.getfield 34, 3) := by decide +kernel
theorem dX12_layFars_125 : decode cX12_layFars 125 = .ok (.iload 5, 2) := by decide +kernel
theorem dX12_layFars_127 : decode cX12_layFars 127 = .ok (.iaload, 1) := by decide +kernel
theorem dX12_layFars_128 : decode cX12_layFars 128 = .ok (.ldc 90, 2) := by decide +kernel
theorem dX12_layFars_130 : decode cX12_layFars 130 = .ok (.if_icmp .eq 23, 3) := by decide +kernel
theorem dX12_layFars_133 : decode cX12_layFars 133 = .ok (.aload_n 0, 1) := by decide +kernel
theorem dX12_layFars_134 : decode cX12_layFars 134 = .ok (.getfield 34, 3) := by decide +kernel
theorem dX12_layFars_137 : decode cX12_layFars 137 = .ok (.iload 6, 2) := by decide +kernel
theorem dX12_layFars_139 : decode cX12_layFars 139 = .ok (.iaload, 1) := by decide +kernel
theorem dX12_layFars_140 : decode cX12_layFars 140 = .ok (.iload 7, 2) := by decide +kernel
theorem dX12_layFars_142 : decode cX12_layFars 142 = .ok (.iadd, 1) := by decide +kernel
theorem dX12_layFars_143 : decode cX12_layFars 143 = .ok (.aload_n 0, 1) := by decide +kernel
theorem dX12_layFars_144 : decode cX12_layFars 144 = .ok (.getfield 34, 3) := by decide +kernel
theorem dX12_layFars_147 : decode cX12_layFars 147 = .ok (.iload 5, 2) := by decide +kernel
theorem dX12_layFars_149 : decode cX12_layFars 149 = .ok (.iaload, 1) := by decide +kernel
theorem dX12_layFars_150 : decode cX12_layFars 150 = .ok (.if_icmp .ge 16, 3) := by decide +kernel
theorem dX12_layFars_153 : decode cX12_layFars 153 = .ok (.aload_n 0, 1) := by decide +kernel
theorem dX12_layFars_154 : decode cX12_layFars 154 = .ok (.getfield 34, 3) := by decide +kernel
theorem dX12_layFars_157 : decode cX12_layFars 157 = .ok (.iload 6, 2) := by decide +kernel
theorem dX12_layFars_159 : decode cX12_layFars 159 = .ok (.iaload, 1) := by decide +kernel
theorem dX12_layFars_160 : decode cX12_layFars 160 = .ok (.iload 7, 2) := by decide +kernel
theorem dX12_layFars_162 : decode cX12_layFars 162 = .ok (.iadd, 1) := by decide +kernel
theorem dX12_layFars_163 : decode cX12_layFars 163 = .ok (.goto 10, 3) := by decide +kernel
theorem dX12_layFars_166 : decode cX12_layFars 166 = .ok (.aload_n 0, 1) := by decide +kernel
theorem dX12_layFars_167 : decode cX12_layFars 167 = .ok (.getfield 34, 3) := by decide +kernel
theorem dX12_layFars_170 : decode cX12_layFars 170 = .ok (.iload 5, 2) := by decide +kernel
theorem dX12_layFars_172 : decode cX12_layFars 172 = .ok (.iaload, 1) := by decide +kernel
theorem dX12_layFars_173 : decode cX12_layFars 173 = .ok (.iastore, 1) := by decide +kernel
theorem dX12_layFars_174 : decode cX12_layFars 174 = .ok (.aload_n 0, 1) := by decide +kernel
theorem dX12_layFars_175 : decode cX12_layFars 175 = .ok (.getfield 34, 3) := by decide +kernel
theorem dX12_layFars_178 : decode cX12_layFars 178 = .ok (.iload 6, 2) := by decide +kernel
theorem dX12_layFars_180 : decode cX12_layFars 180 = .ok (.aload_n 0, 1) := by decide +kernel
theorem dX12_layFars_181 : decode cX12_layFars 181 = .ok (.getfield 34, 3) := by decide +kernel
theorem dX12_layFars_184 : decode cX12_layFars 184 = .ok (.iload 5, 2) := by decide +kernel
theorem dX12_layFars_186 : decode cX12_layFars 186 = .ok (.iaload, 1) := by decide +kernel
theorem dX12_layFars_187 : decode cX12_layFars 187 = .ok (.ldc 90, 2) := by decide +kernel
theorem dX12_layFars_189 : decode cX12_layFars 189 = .ok (.if_icmp .eq 48, 3) := by decide +kernel
theorem dX12_layFars_192 : decode cX12_layFars 192 = .ok (.aload_n 0, 1) := by decide +kernel
theorem dX12_layFars_193 : decode cX12_layFars 193 = .ok (.getfield 34, 3) := by decide +kernel
theorem dX12_layFars_196 : decode cX12_layFars 196 = .ok (.iload 6, 2) := by decide +kernel
theorem dX12_layFars_198 : decode cX12_layFars 198 = .ok (.iaload, 1) := by decide +kernel
theorem dX12_layFars_199 : decode cX12_layFars 199 = .ok (.ldc 90, 2) := by decide +kernel
theorem dX12_layFars_201 : decode cX12_layFars 201 = .ok (.if_icmp .eq 23, 3) := by decide +kernel
theorem dX12_layFars_204 : decode cX12_layFars 204 = .ok (.aload_n 0, 1) := by decide +kernel
theorem dX12_layFars_205 : decode cX12_layFars 205 = .ok (.getfield 34, 3) := by decide +kernel
theorem dX12_layFars_208 : decode cX12_layFars 208 = .ok (.iload 5, 2) := by decide +kernel
theorem dX12_layFars_210 : decode cX12_layFars 210 = .ok (.iaload, 1) := by decide +kernel
theorem dX12_layFars_211 : decode cX12_layFars 211 = .ok (.iload 7, 2) := by decide +kernel
theorem dX12_layFars_213 : decode cX12_layFars 213 = .ok (.iadd, 1) := by decide +kernel
theorem dX12_layFars_214 : decode cX12_layFars 214 = .ok (.aload_n 0, 1) := by decide +kernel
theorem dX12_layFars_215 : decode cX12_layFars 215 = .ok (.getfield 34, 3) := by decide +kernel
theorem dX12_layFars_218 : decode cX12_layFars 218 = .ok (.iload 6, 2) := by decide +kernel
theorem dX12_layFars_220 : decode cX12_layFars 220 = .ok (.iaload, 1) := by decide +kernel
theorem dX12_layFars_221 : decode cX12_layFars 221 = .ok (.if_icmp .ge 16, 3) := by decide +kernel
theorem dX12_layFars_224 : decode cX12_layFars 224 = .ok (.aload_n 0, 1) := by decide +kernel
theorem dX12_layFars_225 : decode cX12_layFars 225 = .ok (.getfield 34, 3) := by decide +kernel
theorem dX12_layFars_228 : decode cX12_layFars 228 = .ok (.iload 5, 2) := by decide +kernel
theorem dX12_layFars_230 : decode cX12_layFars 230 = .ok (.iaload, 1) := by decide +kernel
theorem dX12_layFars_231 : decode cX12_layFars 231 = .ok (.iload 7, 2) := by decide +kernel
theorem dX12_layFars_233 : decode cX12_layFars 233 = .ok (.iadd, 1) := by decide +kernel
theorem dX12_layFars_234 : decode cX12_layFars 234 = .ok (.goto 10, 3) := by decide +kernel
theorem dX12_layFars_237 : decode cX12_layFars 237 = .ok (.aload_n 0, 1) := by decide +kernel
theorem dX12_layFars_238 : decode cX12_layFars 238 = .ok (.getfield 34, 3) := by decide +kernel
theorem dX12_layFars_241 : decode cX12_layFars 241 = .ok (.iload 6, 2) := by decide +kernel
theorem dX12_layFars_243 : decode cX12_layFars 243 = .ok (.iaload, 1) := by decide +kernel
theorem dX12_layFars_244 : decode cX12_layFars 244 = .ok (.iastore, 1) := by decide +kernel
theorem dX12_layFars_245 : decode cX12_layFars 245 = .ok (.iinc 3 1, 3) := by decide +kernel
theorem dX12_layFars_248 : decode cX12_layFars 248 = .ok (.goto (-202), 3) := by decide +kernel
theorem dX12_layFars_251 : decode cX12_layFars 251 = .ok (.iinc 2 1, 3) := by decide +kernel
theorem dX12_layFars_254 : decode cX12_layFars 254 = .ok (.goto (-216), 3) := by decide +kernel
theorem dX12_layFars_257 : decode cX12_layFars 257 = .ok (.return_, 1) := by decide +kernel
theorem dX12_layWay_0 : decode cX12_layWay 0 = .ok (.aload_n 0, 1) := by decide +kernel
theorem dX12_layWay_1 : decode cX12_layWay 1 = .ok (.invokevirtual 157, 3) := by decide +kernel
theorem dX12_layWay_4 : decode cX12_layWay 4 = .ok (.iload_n 1, 1) := by decide +kernel
theorem dX12_layWay_5 : decode cX12_layWay 5 = .ok (.iconst (-1), 1) := by decide +kernel
theorem dX12_layWay_6 : decode cX12_layWay 6 = .ok (.ixor, 1) := by decide +kernel
theorem dX12_layWay_7 : decode cX12_layWay 7 = .ok (.iand, 1) := by decide +kernel
theorem dX12_layWay_8 : decode cX12_layWay 8 = .ok (.istore_n 3, 1) := by decide +kernel
theorem dX12_layWay_9 : decode cX12_layWay 9 = .ok (.aload_n 0, 1) := by decide +kernel
theorem dX12_layWay_10 : decode cX12_layWay 10 = .ok (.iload_n 3, 1) := by decide +kernel
theorem dX12_layWay_11 : decode cX12_layWay 11 = .ok (.invokevirtual 161, 3) := by decide +kernel
theorem dX12_layWay_14 : decode cX12_layWay 14 = .ok (.aload_n 0, 1) := by decide +kernel
theorem dX12_layWay_15 : decode cX12_layWay 15 = .ok (.iconst 0, 1) := by decide +kernel
theorem dX12_layWay_16 : decode cX12_layWay 16 = .ok (.putfield 164, 3) := by decide +kernel
theorem dX12_layWay_19 : decode cX12_layWay 19 = .ok (.aload_n 0, 1) := by decide +kernel
theorem dX12_layWay_20 : decode cX12_layWay 20 = .ok (.ldc 90, 2) := by decide +kernel
theorem dX12_layWay_22 : decode cX12_layWay 22 = .ok (.putfield 167, 3) := by decide +kernel
theorem dX12_layWay_25 : decode cX12_layWay 25 = .ok (.aload_n 0, 1) := by decide +kernel
theorem dX12_layWay_26 : decode cX12_layWay 26 = .ok (.aload_n 0, 1) := by decide +kernel
theorem dX12_layWay_27 : decode cX12_layWay 27 = .ok (.getfield 34, 3) := by decide +kernel
theorem dX12_layWay_30 : decode cX12_layWay 30 = .ok (.iload_n 2, 1) := by decide +kernel
theorem dX12_layWay_31 : decode cX12_layWay 31 = .ok (.iaload, 1) := by decide +kernel
theorem dX12_layWay_32 : decode cX12_layWay 32 = .ok (.putfield 170, 3) := by decide +kernel
theorem dX12_layWay_35 : decode cX12_layWay 35 = .ok (.iload_n 2, 1) := by decide +kernel
theorem dX12_layWay_36 : decode cX12_layWay 36 = .ok (.istore 4, 2) := by decide +kernel
theorem dX12_layWay_38 : decode cX12_layWay 38 = .ok (.aload_n 0, 1) := by decide +kernel
theorem dX12_layWay_39 : decode cX12_layWay 39 = .ok (.getfield 170, 3) := by decide +kernel
theorem dX12_layWay_42 : decode cX12_layWay 42 = .ok (.ldc 90, 2) := by decide +kernel
theorem dX12_layWay_44 : decode cX12_layWay 44 = .ok (.if_icmp .eq 193, 3) := by decide +kernel
theorem dX12_layWay_47 : decode cX12_layWay 47 = .ok (.iload 4, 2) := by decide +kernel
theorem dX12_layWay_49 : decode cX12_layWay 49 = .ok (.aload_n 0, 1) := by decide +kernel
theorem dX12_layWay_50 : decode cX12_layWay 50 = .ok (.getfield 19, 3) := by decide +kernel
theorem dX12_layWay_53 : decode cX12_layWay 53 = .ok (.iconst 1, 1) := by decide +kernel
theorem dX12_layWay_54 : decode cX12_layWay 54 = .ok (.iaload, 1) := by decide +kernel
theorem dX12_layWay_55 : decode cX12_layWay 55 = .ok (.if_icmp .eq 182, 3) := by decide +kernel
theorem dX12_layWay_58 : decode cX12_layWay 58 = .ok (.ldc 90, 2) := by decide +kernel
theorem dX12_layWay_60 : decode cX12_layWay 60 = .ok (.istore 5, 2) := by decide +kernel
theorem dX12_layWay_62 : decode cX12_layWay 62 = .ok (.ldc 90, 2) := by decide +kernel
theorem dX12_layWay_64 : decode cX12_layWay 64 = .ok (.istore 6, 2) := by decide +kernel
theorem dX12_layWay_66 : decode cX12_layWay 66 = .ok (.iconst 0, 1) := by decide +kernel
theorem dX12_layWay_67 : decode cX12_layWay 67 = .ok (.istore 7, 2) := by decide +kernel
theorem dX12_layWay_69 : decode cX12_layWay 69 = .ok (.iload 7, 2) := by decide +kernel
theorem dX12_layWay_71 : decode cX12_layWay 71 = .ok (.aload_n 0, 1) := by decide +kernel
theorem dX12_layWay_72 : decode cX12_layWay 72 = .ok (.getfield 19, 3) := by decide +kernel
theorem dX12_layWay_75 : decode cX12_layWay 75 = .ok (.iconst 3, 1) := by decide +kernel
theorem dX12_layWay_76 : decode cX12_layWay 76 = .ok (.iaload, 1) := by decide +kernel
theorem dX12_layWay_77 : decode cX12_layWay 77 = .ok (.if_icmp .ge 118, 3) := by decide +kernel
theorem dX12_layWay_80 : decode cX12_layWay 80 = .ok (.iload_n 3, 1) := by decide +kernel
theorem dX12_layWay_81 : decode cX12_layWay 81 = .ok (.iload 7, 2) := by decide +kernel
theorem dX12_layWay_83 : decode cX12_layWay 83 = .ok (.invokestatic 153, 3) := by decide +kernel
theorem dX12_layWay_86 : decode cX12_layWay 86 = .ok (.ifCond .eq 14, 3) := by decide +kernel
theorem dX12_layWay_89 : decode cX12_layWay 89 = .ok (.aload_n 0, 1) := by decide +kernel
theorem dX12_layWay_90 : decode cX12_layWay 90 = .ok (.iload 7, 2) := by decide +kernel
theorem dX12_layWay_92 : decode cX12_layWay 92 = .ok (.iload 4, 2) := by decide +kernel
theorem dX12_layWay_94 : decode cX12_layWay 94 = .ok (.invokevirtual 173, 3) := by decide +kernel
theorem dX12_layWay_97 : decode cX12_layWay 97 = .ok (.goto 5, 3) := by decide +kernel
theorem dX12_layWay_100 : decode cX12_layWay 100 = .ok (.ldc 90, 2) := by decide +kernel
theorem dX12_layWay_102 : decode cX12_layWay 102 = .ok (.istore 8, 2) := by decide +kernel
theorem dX12_layWay_104 : decode cX12_layWay 104 = .ok (.iload 8, 2) := by decide +kernel
theorem dX12_layWay_106 : decode cX12_layWay 106 = .ok (.ldc 90, 2) := by decide +kernel
theorem dX12_layWay_108 : decode cX12_layWay 108 = .ok (.if_icmp .eq 51, 3) := by decide +kernel
theorem dX12_layWay_111 : decode cX12_layWay 111 = .ok (.aload_n 0, 1) := by decide +kernel
theorem dX12_layWay_112 : decode cX12_layWay 112 = .ok (.getfield 34, 3) := by decide +kernel
theorem dX12_layWay_115 : decode cX12_layWay 115 = .ok (.iload 8, 2) := by decide +kernel
theorem dX12_layWay_117 : decode cX12_layWay 117 = .ok (.iaload, 1) := by decide +kernel
theorem dX12_layWay_118 : decode cX12_layWay 118 = .ok (.ldc 90, 2) := by decide +kernel
theorem dX12_layWay_120 : decode cX12_layWay 120 = .ok (.if_icmp .eq 39, 3) := by decide +kernel
theorem dX12_layWay_123 : decode cX12_layWay 123 = .ok (.aload_n 0, 1) := by decide +kernel
theorem dX12_layWay_124 : decode cX12_layWay 124 = .ok (.getfield 34, 3) := by decide +kernel
theorem dX12_layWay_127 : decode cX12_layWay 127 = .ok (.iload 8, 2) := by decide +kernel
theorem dX12_layWay_129 : decode cX12_layWay 129 = .ok (.iaload, 1) := by decide +kernel
theorem dX12_layWay_130 : decode cX12_layWay 130 = .ok (.aload_n 0, 1) := by decide +kernel
theorem dX12_layWay_131 : decode cX12_layWay 131 = .ok (.getfield 19, 3) := by decide +kernel
theorem dX12_layWay_134 : decode cX12_layWay 134 = .ok (.bipush 7, 2) := by decide +kernel
theorem dX12_layWay_136 : decode cX12_layWay 136 = .ok (.iconst 3, 1) := by decide +kernel
theorem dX12_layWay_137 : decode cX12_layWay 137 = .ok (.iload 7, 2) := by decide +kernel
theorem dX12_layWay_139 : decode cX12_layWay 139 = .ok (.imul, 1) := by decide +kernel
theorem dX12_layWay_140 : decode cX12_layWay 140 = .ok (.iadd, 1) := by decide +kernel
theorem dX12_layWay_141 : decode cX12_layWay 141 = .ok (.iconst 2, 1) := by decide +kernel
theorem dX12_layWay_142 : decode cX12_layWay 142 = .ok (.iadd, 1) := by decide +kernel
theorem dX12_layWay_143 : decode cX12_layWay 143 = .ok (.iaload, 1) := by decide +kernel
theorem dX12_layWay_144 : decode cX12_layWay 144 = .ok (.iadd, 1) := by decide +kernel
theorem dX12_layWay_145 : decode cX12_layWay 145 = .ok (.aload_n 0, 1) := by decide +kernel
theorem dX12_layWay_146 : decode cX12_layWay 146 = .ok (.getfield 34, 3) := by decide +kernel
theorem dX12_layWay_149 : decode cX12_layWay 149 = .ok (.iload 4, 2) := by decide +kernel
theorem dX12_layWay_151 : decode cX12_layWay 151 = .ok (.iaload, 1) := by decide +kernel
theorem dX12_layWay_152 : decode cX12_layWay 152 = .ok (.if_icmp .ne 7, 3) := by decide +kernel
theorem dX12_layWay_155 : decode cX12_layWay 155 = .ok (.iconst 1, 1) := by decide +kernel
theorem dX12_layWay_156 : decode cX12_layWay 156 = .ok (.goto 4, 3) := by decide +kernel
theorem dX12_layWay_159 : decode cX12_layWay 159 = .ok (.iconst 0, 1) := by decide +kernel
theorem dX12_layWay_160 : decode cX12_layWay 160 = .ok (.istore 9, 2) := by decide +kernel
theorem dX12_layWay_162 : decode cX12_layWay 162 = .ok (.iload 9, 2) := by decide +kernel
theorem dX12_layWay_164 : decode cX12_layWay 164 = .ok (.ifCond .eq 25, 3) := by decide +kernel
theorem dX12_layWay_167 : decode cX12_layWay 167 = .ok (.iload 6, 2) := by decide +kernel
theorem dX12_layWay_169 : decode cX12_layWay 169 = .ok (.ldc 90, 2) := by decide +kernel
theorem dX12_layWay_171 : decode cX12_layWay 171 = .ok (.if_icmp .eq 10, 3) := by decide +kernel
theorem dX12_layWay_174 : decode cX12_layWay 174 = .ok (.iload 8, 2) := by decide +kernel
theorem dX12_layWay_176 : decode cX12_layWay 176 = .ok (.iload 6, 2) := by decide +kernel
theorem dX12_layWay_178 : decode cX12_layWay 178 = .ok (.if_icmp .ge 11, 3) := by decide +kernel
theorem dX12_layWay_181 : decode cX12_layWay 181 = .ok (.iload 8, 2) := by decide +kernel
theorem dX12_layWay_183 : decode cX12_layWay 183 = .ok (.istore 6, 2) := by decide +kernel
theorem dX12_layWay_185 : decode cX12_layWay 185 = .ok (.iload 7, 2) := by decide +kernel
theorem dX12_layWay_187 : decode cX12_layWay 187 = .ok (.istore 5, 2) := by decide +kernel
theorem dX12_layWay_189 : decode cX12_layWay 189 = .ok (.iinc 7 1, 3) := by decide +kernel
theorem dX12_layWay_192 : decode cX12_layWay 192 = .ok (.goto (-123), 3) := by decide +kernel
theorem dX12_layWay_195 : decode cX12_layWay 195 = .ok (.aload_n 0, 1) := by decide +kernel
theorem dX12_layWay_196 : decode cX12_layWay 196 = .ok (.dup, 1) := by decide +kernel
theorem dX12_layWay_197 : decode cX12_layWay 197 = .ok (.getfield 164, 3) := by decide +kernel
theorem dX12_layWay_200 : decode cX12_layWay 200 = .ok (.iconst 1, 1) := by decide +kernel
theorem dX12_layWay_201 : decode cX12_layWay 201 = .ok (.iload 5, 2) := by decide +kernel
theorem dX12_layWay_203 : decode cX12_layWay 203 = .ok (.ishl, 1) := by decide +kernel
theorem dX12_layWay_204 : decode cX12_layWay 204 = .ok (.ior, 1) := by decide +kernel
theorem dX12_layWay_205 : decode cX12_layWay 205 = .ok (.putfield 164, 3) := by decide +kernel
theorem dX12_layWay_208 : decode cX12_layWay 208 = .ok (.aload_n 0, 1) := by decide +kernel
theorem dX12_layWay_209 : decode cX12_layWay 209 = .ok (.aload_n 0, 1) := by decide +kernel
theorem dX12_layWay_210 : decode cX12_layWay 210 = .ok (.getfield 167, 3) := by decide +kernel
theorem dX12_layWay_213 : decode cX12_layWay 213 = .ok (.ldc 90, 2) := by decide +kernel
theorem dX12_layWay_215 : decode cX12_layWay 215 = .ok (.if_icmp .ne 8, 3) := by decide +kernel
theorem dX12_layWay_218 : decode cX12_layWay 218 = .ok (.iload 5, 2) := by decide +kernel
theorem dX12_layWay_220 : decode cX12_layWay 220 = .ok (.goto 7, 3) := by decide +kernel
theorem dX12_layWay_223 : decode cX12_layWay 223 = .ok (.aload_n 0, 1) := by decide +kernel
theorem dX12_layWay_224 : decode cX12_layWay 224 = .ok (.getfield 167, 3) := by decide +kernel
theorem dX12_layWay_227 : decode cX12_layWay 227 = .ok (.putfield 167, 3) := by decide +kernel
theorem dX12_layWay_230 : decode cX12_layWay 230 = .ok (.iload 6, 2) := by decide +kernel
theorem dX12_layWay_232 : decode cX12_layWay 232 = .ok (.istore 4, 2) := by decide +kernel
theorem dX12_layWay_234 : decode cX12_layWay 234 = .ok (.goto (-196), 3) := by decide +kernel
theorem dX12_layWay_237 : decode cX12_layWay 237 = .ok (.return_, 1) := by decide +kernel
theorem dX12_isBurial_0 : decode cX12_isBurial 0 = .ok (.aload_n 0, 1) := by decide +kernel
theorem dX12_isBurial_1 : decode cX12_isBurial 1 = .ok (.iload_n 1, 1) := by decide +kernel
theorem dX12_isBurial_2 : decode cX12_isBurial 2 = .ok (.iload_n 2, 1) := by decide +kernel
theorem dX12_isBurial_3 : decode cX12_isBurial 3 = .ok (.invokevirtual 176, 3) := by decide +kernel
theorem dX12_isBurial_6 : decode cX12_isBurial 6 = .ok (.iload_n 2, 1) := by decide +kernel
theorem dX12_isBurial_7 : decode cX12_isBurial 7 = .ok (.aload_n 0, 1) := by decide +kernel
theorem dX12_isBurial_8 : decode cX12_isBurial 8 = .ok (.getfield 19, 3) := by decide +kernel
theorem dX12_isBurial_11 : decode cX12_isBurial 11 = .ok (.iconst 1, 1) := by decide +kernel
theorem dX12_isBurial_12 : decode cX12_isBurial 12 = .ok (.iaload, 1) := by decide +kernel
theorem dX12_isBurial_13 : decode cX12_isBurial 13 = .ok (.if_icmp .eq 16, 3) := by decide +kernel
theorem dX12_isBurial_16 : decode cX12_isBurial 16 = .ok (.aload_n 0, 1) := by decide +kernel
theorem dX12_isBurial_17 : decode cX12_isBurial 17 = .ok (.getfield 170, 3) := by decide +kernel
theorem dX12_isBurial_20 : decode cX12_isBurial 20 = .ok (.ldc 90, 2) := by decide +kernel
theorem dX12_isBurial_22 : decode cX12_isBurial 22 = .ok (.if_icmp .eq 7, 3) := by decide +kernel
theorem dX12_isBurial_25 : decode cX12_isBurial 25 = .ok (.iconst 1, 1) := by decide +kernel
theorem dX12_isBurial_26 : decode cX12_isBurial 26 = .ok (.goto 4, 3) := by decide +kernel
theorem dX12_isBurial_29 : decode cX12_isBurial 29 = .ok (.iconst 0, 1) := by decide +kernel
theorem dX12_isBurial_30 : decode cX12_isBurial 30 = .ok (.ireturn, 1) := by decide +kernel
theorem dX12_pathsAt_0 : decode cX12_pathsAt 0 = .ok (.iconst 0, 1) := by decide +kernel
theorem dX12_pathsAt_1 : decode cX12_pathsAt 1 = .ok (.istore_n 2, 1) := by decide +kernel
theorem dX12_pathsAt_2 : decode cX12_pathsAt 2 = .ok (.iconst 0, 1) := by decide +kernel
theorem dX12_pathsAt_3 : decode cX12_pathsAt 3 = .ok (.istore_n 3, 1) := by decide +kernel
theorem dX12_pathsAt_4 : decode cX12_pathsAt 4 = .ok (.iload_n 3, 1) := by decide +kernel
theorem dX12_pathsAt_5 : decode cX12_pathsAt 5 = .ok (.aload_n 0, 1) := by decide +kernel
theorem dX12_pathsAt_6 : decode cX12_pathsAt 6 = .ok (.getfield 19, 3) := by decide +kernel
theorem dX12_pathsAt_9 : decode cX12_pathsAt 9 = .ok (.iconst 3, 1) := by decide +kernel
theorem dX12_pathsAt_10 : decode cX12_pathsAt 10 = .ok (.iaload, 1) := by decide +kernel
theorem dX12_pathsAt_11 : decode cX12_pathsAt 11 = .ok (.if_icmp .ge 30, 3) := by decide +kernel
theorem dX12_pathsAt_14 : decode cX12_pathsAt 14 = .ok (.iload_n 2, 1) := by decide +kernel
theorem dX12_pathsAt_15 : decode cX12_pathsAt 15 = .ok (.aload_n 0, 1) := by decide +kernel
theorem dX12_pathsAt_16 : decode cX12_pathsAt 16 = .ok (.iload_n 3, 1) := by decide +kernel
theorem dX12_pathsAt_17 : decode cX12_pathsAt 17 = .ok (.iload_n 1, 1) := by decide +kernel
theorem dX12_pathsAt_18 : decode cX12_pathsAt 18 = .ok (.invokevirtual 173, 3) := by decide +kernel
theorem dX12_pathsAt_21 : decode cX12_pathsAt 21 = .ok (.ldc 90, 2) := by decide +kernel
theorem dX12_pathsAt_23 : decode cX12_pathsAt 23 = .ok (.if_icmp .eq 9, 3) := by decide +kernel
theorem dX12_pathsAt_26 : decode cX12_pathsAt 26 = .ok (.iconst 1, 1) := by decide +kernel
theorem dX12_pathsAt_27 : decode cX12_pathsAt 27 = .ok (.iload_n 3, 1) := by decide +kernel
theorem dX12_pathsAt_28 : decode cX12_pathsAt 28 = .ok (.ishl, 1) := by decide +kernel
theorem dX12_pathsAt_29 : decode cX12_pathsAt 29 = .ok (.goto 4, 3) := by decide +kernel
theorem dX12_pathsAt_32 : decode cX12_pathsAt 32 = .ok (.iconst 0, 1) := by decide +kernel
theorem dX12_pathsAt_33 : decode cX12_pathsAt 33 = .ok (.ior, 1) := by decide +kernel
theorem dX12_pathsAt_34 : decode cX12_pathsAt 34 = .ok (.istore_n 2, 1) := by decide +kernel
theorem dX12_pathsAt_35 : decode cX12_pathsAt 35 = .ok (.iinc 3 1, 3) := by decide +kernel
theorem dX12_pathsAt_38 : decode cX12_pathsAt 38 = .ok (.goto (-34), 3) := by decide +kernel
theorem dX12_pathsAt_41 : decode cX12_pathsAt 41 = .ok (.iload_n 2, 1) := by decide +kernel
theorem dX12_pathsAt_42 : decode cX12_pathsAt 42 = .ok (.ireturn, 1) := by decide +kernel
theorem dX12_sees_0 : decode cX12_sees 0 = .ok (.aload_n 0, 1) := by decide +kernel
theorem dX12_sees_1 : decode cX12_sees 1 = .ok (.getfield 164, 3) := by decide +kernel
theorem dX12_sees_4 : decode cX12_sees 4 = .ok (.aload_n 0, 1) := by decide +kernel
theorem dX12_sees_5 : decode cX12_sees 5 = .ok (.iload_n 2, 1) := by decide +kernel
theorem dX12_sees_6 : decode cX12_sees 6 = .ok (.invokevirtual 180, 3) := by decide +kernel
theorem dX12_sees_9 : decode cX12_sees 9 = .ok (.iand, 1) := by decide +kernel
theorem dX12_sees_10 : decode cX12_sees 10 = .ok (.istore 4, 2) := by decide +kernel
theorem dX12_sees_12 : decode cX12_sees 12 = .ok (.iload_n 1, 1) := by decide +kernel
theorem dX12_sees_13 : decode cX12_sees 13 = .ok (.tableswitch 80 1 4 #[31, 34, 58, 75], 31) := by decide +kernel
theorem dX12_sees_44 : decode cX12_sees 44 = .ok (.iload 4, 2) := by decide +kernel
theorem dX12_sees_46 : decode cX12_sees 46 = .ok (.ireturn, 1) := by decide +kernel
theorem dX12_sees_47 : decode cX12_sees 47 = .ok (.iload 4, 2) := by decide +kernel
theorem dX12_sees_49 : decode cX12_sees 49 = .ok (.ifCond .ne 13, 3) := by decide +kernel
theorem dX12_sees_52 : decode cX12_sees 52 = .ok (.iload_n 2, 1) := by decide +kernel
theorem dX12_sees_53 : decode cX12_sees 53 = .ok (.aload_n 0, 1) := by decide +kernel
theorem dX12_sees_54 : decode cX12_sees 54 = .ok (.getfield 19, 3) := by decide +kernel
theorem dX12_sees_57 : decode cX12_sees 57 = .ok (.iconst 1, 1) := by decide +kernel
theorem dX12_sees_58 : decode cX12_sees 58 = .ok (.iaload, 1) := by decide +kernel
theorem dX12_sees_59 : decode cX12_sees 59 = .ok (.if_icmp .ne 10, 3) := by decide +kernel
theorem dX12_sees_62 : decode cX12_sees 62 = .ok (.aload_n 0, 1) := by decide +kernel
theorem dX12_sees_63 : decode cX12_sees 63 = .ok (.getfield 164, 3) := by decide +kernel
theorem dX12_sees_66 : decode cX12_sees 66 = .ok (.goto 4, 3) := by decide +kernel
theorem dX12_sees_69 : decode cX12_sees 69 = .ok (.iconst 0, 1) := by decide +kernel
theorem dX12_sees_70 : decode cX12_sees 70 = .ok (.ireturn, 1) := by decide +kernel
theorem dX12_sees_71 : decode cX12_sees 71 = .ok (.aload_n 0, 1) := by decide +kernel
theorem dX12_sees_72 : decode cX12_sees 72 = .ok (.iload_n 2, 1) := by decide +kernel
theorem dX12_sees_73 : decode cX12_sees 73 = .ok (.invokevirtual 180, 3) := by decide +kernel
theorem dX12_sees_76 : decode cX12_sees 76 = .ok (.iload_n 3, 1) := by decide +kernel
theorem dX12_sees_77 : decode cX12_sees 77 = .ok (.iand, 1) := by decide +kernel
theorem dX12_sees_78 : decode cX12_sees 78 = .ok (.ifCond .ne 8, 3) := by decide +kernel
theorem dX12_sees_81 : decode cX12_sees 81 = .ok (.iload 4, 2) := by decide +kernel
theorem dX12_sees_83 : decode cX12_sees 83 = .ok (.goto 4, 3) := by decide +kernel
theorem dX12_sees_86 : decode cX12_sees 86 = .ok (.iconst 0, 1) := by decide +kernel
theorem dX12_sees_87 : decode cX12_sees 87 = .ok (.ireturn, 1) := by decide +kernel
theorem dX12_sees_88 : decode cX12_sees 88 = .ok (.aload_n 0, 1) := by decide +kernel
theorem dX12_sees_89 : decode cX12_sees 89 = .ok (.getfield 164, 3) := by decide +kernel
theorem dX12_sees_92 : decode cX12_sees 92 = .ok (.ireturn, 1) := by decide +kernel
theorem dX12_sees_93 : decode cX12_sees 93 = .ok (.iconst 1, 1) := by decide +kernel
theorem dX12_sees_94 : decode cX12_sees 94 = .ok (.aload_n 0, 1) := by decide +kernel
theorem dX12_sees_95 : decode cX12_sees 95 = .ok (.getfield 167, 3) := by decide +kernel
theorem dX12_sees_98 : decode cX12_sees 98 = .ok (.ishl, 1) := by decide +kernel
theorem dX12_sees_99 : decode cX12_sees 99 = .ok (.ireturn, 1) := by decide +kernel
theorem dX12_of_0 : decode cX12_of 0 = .ok (.aload_n 0, 1) := by decide +kernel
theorem dX12_of_1 : decode cX12_of 1 = .ok (.bipush 43, 2) := by decide +kernel
theorem dX12_of_3 : decode cX12_of 3 = .ok (.iconst 4, 1) := by decide +kernel
theorem dX12_of_4 : decode cX12_of 4 = .ok (.iload_n 1, 1) := by decide +kernel
theorem dX12_of_5 : decode cX12_of 5 = .ok (.imul, 1) := by decide +kernel
theorem dX12_of_6 : decode cX12_of 6 = .ok (.iadd, 1) := by decide +kernel
theorem dX12_of_7 : decode cX12_of 7 = .ok (.iload_n 2, 1) := by decide +kernel
theorem dX12_of_8 : decode cX12_of 8 = .ok (.iadd, 1) := by decide +kernel
theorem dX12_of_9 : decode cX12_of 9 = .ok (.iaload, 1) := by decide +kernel
theorem dX12_of_10 : decode cX12_of 10 = .ok (.ireturn, 1) := by decide +kernel
theorem dX12_livesBy_0 : decode cX12_livesBy 0 = .ok (.iload_n 2, 1) := by decide +kernel
theorem dX12_livesBy_1 : decode cX12_livesBy 1 = .ok (.aload_n 0, 1) := by decide +kernel
theorem dX12_livesBy_2 : decode cX12_livesBy 2 = .ok (.iconst 2, 1) := by decide +kernel
theorem dX12_livesBy_3 : decode cX12_livesBy 3 = .ok (.iaload, 1) := by decide +kernel
theorem dX12_livesBy_4 : decode cX12_livesBy 4 = .ok (.iload_n 1, 1) := by decide +kernel
theorem dX12_livesBy_5 : decode cX12_livesBy 5 = .ok (.iconst 2, 1) := by decide +kernel
theorem dX12_livesBy_6 : decode cX12_livesBy 6 = .ok (.if_icmp .ne 8, 3) := by decide +kernel
theorem dX12_livesBy_9 : decode cX12_livesBy 9 = .ok (.bipush 9, 2) := by decide +kernel
theorem dX12_livesBy_11 : decode cX12_livesBy 11 = .ok (.goto 4, 3) := by decide +kernel
theorem dX12_livesBy_14 : decode cX12_livesBy 14 = .ok (.iconst 0, 1) := by decide +kernel
theorem dX12_livesBy_15 : decode cX12_livesBy 15 = .ok (.iadd, 1) := by decide +kernel
theorem dX12_livesBy_16 : decode cX12_livesBy 16 = .ok (.if_icmp .gt 7, 3) := by decide +kernel
theorem dX12_livesBy_19 : decode cX12_livesBy 19 = .ok (.iconst 1, 1) := by decide +kernel
theorem dX12_livesBy_20 : decode cX12_livesBy 20 = .ok (.goto 4, 3) := by decide +kernel
theorem dX12_livesBy_23 : decode cX12_livesBy 23 = .ok (.iconst 0, 1) := by decide +kernel
theorem dX12_livesBy_24 : decode cX12_livesBy 24 = .ok (.ireturn, 1) := by decide +kernel
theorem dX12_lives_0 : decode cX12_lives 0 = .ok (.aload_n 0, 1) := by decide +kernel
theorem dX12_lives_1 : decode cX12_lives 1 = .ok (.aload_n 0, 1) := by decide +kernel
theorem dX12_lives_2 : decode cX12_lives 2 = .ok (.iload_n 1, 1) := by decide +kernel
theorem dX12_lives_3 : decode cX12_lives 3 = .ok (.iconst 0, 1) := by decide +kernel
theorem dX12_lives_4 : decode cX12_lives 4 = .ok (.invokestatic 183, 3) := by decide +kernel
theorem dX12_lives_7 : decode cX12_lives 7 = .ok (.aload_n 0, 1) := by decide +kernel
theorem dX12_lives_8 : decode cX12_lives 8 = .ok (.iload_n 1, 1) := by decide +kernel
theorem dX12_lives_9 : decode cX12_lives 9 = .ok (.iconst 1, 1) := by decide +kernel
theorem dX12_lives_10 : decode cX12_lives 10 = .ok (.invokestatic 183, 3) := by decide +kernel
theorem dX12_lives_13 : decode cX12_lives 13 = .ok (.invokestatic 187, 3) := by decide +kernel
theorem dX12_lives_16 : decode cX12_lives 16 = .ok (.ireturn, 1) := by decide +kernel
theorem dX12_swears_0 : decode cX12_swears 0 = .ok (.aload_n 0, 1) := by decide +kernel
theorem dX12_swears_1 : decode cX12_swears 1 = .ok (.iload_n 1, 1) := by decide +kernel
theorem dX12_swears_2 : decode cX12_swears 2 = .ok (.invokestatic 191, 3) := by decide +kernel
theorem dX12_swears_5 : decode cX12_swears 5 = .ok (.ifCond .eq 12, 3) := by decide +kernel
theorem dX12_swears_8 : decode cX12_swears 8 = .ok (.aload_n 0, 1) := by decide +kernel
theorem dX12_swears_9 : decode cX12_swears 9 = .ok (.iload_n 1, 1) := by decide +kernel
theorem dX12_swears_10 : decode cX12_swears 10 = .ok (.iconst 3, 1) := by decide +kernel
theorem dX12_swears_11 : decode cX12_swears 11 = .ok (.invokestatic 183, 3) := by decide +kernel
theorem dX12_swears_14 : decode cX12_swears 14 = .ok (.goto 4, 3) := by decide +kernel
theorem dX12_swears_17 : decode cX12_swears 17 = .ok (.iconst 0, 1) := by decide +kernel
theorem dX12_swears_18 : decode cX12_swears 18 = .ok (.ireturn, 1) := by decide +kernel
theorem dX12_waysOf_0 : decode cX12_waysOf 0 = .ok (.iconst 0, 1) := by decide +kernel
theorem dX12_waysOf_1 : decode cX12_waysOf 1 = .ok (.istore_n 1, 1) := by decide +kernel
theorem dX12_waysOf_2 : decode cX12_waysOf 2 = .ok (.iconst 0, 1) := by decide +kernel
theorem dX12_waysOf_3 : decode cX12_waysOf 3 = .ok (.istore_n 2, 1) := by decide +kernel
theorem dX12_waysOf_4 : decode cX12_waysOf 4 = .ok (.iload_n 2, 1) := by decide +kernel
theorem dX12_waysOf_5 : decode cX12_waysOf 5 = .ok (.aload_n 0, 1) := by decide +kernel
theorem dX12_waysOf_6 : decode cX12_waysOf 6 = .ok (.iconst 4, 1) := by decide +kernel
theorem dX12_waysOf_7 : decode cX12_waysOf 7 = .ok (.iaload, 1) := by decide +kernel
theorem dX12_waysOf_8 : decode cX12_waysOf 8 = .ok (.if_icmp .ge 17, 3) := by decide +kernel
theorem dX12_waysOf_11 : decode cX12_waysOf 11 = .ok (.iload_n 1, 1) := by decide +kernel
theorem dX12_waysOf_12 : decode cX12_waysOf 12 = .ok (.aload_n 0, 1) := by decide +kernel
theorem dX12_waysOf_13 : decode cX12_waysOf 13 = .ok (.iload_n 2, 1) := by decide +kernel
theorem dX12_waysOf_14 : decode cX12_waysOf 14 = .ok (.invokestatic 195, 3) := by decide +kernel
theorem dX12_waysOf_17 : decode cX12_waysOf 17 = .ok (.ior, 1) := by decide +kernel
theorem dX12_waysOf_18 : decode cX12_waysOf 18 = .ok (.istore_n 1, 1) := by decide +kernel
theorem dX12_waysOf_19 : decode cX12_waysOf 19 = .ok (.iinc 2 1, 3) := by decide +kernel
theorem dX12_waysOf_22 : decode cX12_waysOf 22 = .ok (.goto (-18), 3) := by decide +kernel
theorem dX12_waysOf_25 : decode cX12_waysOf 25 = .ok (.iload_n 1, 1) := by decide +kernel
theorem dX12_waysOf_26 : decode cX12_waysOf 26 = .ok (.ireturn, 1) := by decide +kernel
theorem dX12_living_0 : decode cX12_living 0 = .ok (.iconst 0, 1) := by decide +kernel
theorem dX12_living_1 : decode cX12_living 1 = .ok (.istore_n 1, 1) := by decide +kernel
theorem dX12_living_2 : decode cX12_living 2 = .ok (.iconst 0, 1) := by decide +kernel
theorem dX12_living_3 : decode cX12_living 3 = .ok (.istore_n 2, 1) := by decide +kernel
theorem dX12_living_4 : decode cX12_living 4 = .ok (.iload_n 2, 1) := by decide +kernel
theorem dX12_living_5 : decode cX12_living 5 = .ok (.aload_n 0, 1) := by decide +kernel
theorem dX12_living_6 : decode cX12_living 6 = .ok (.iconst 4, 1) := by decide +kernel
theorem dX12_living_7 : decode cX12_living 7 = .ok (.iaload, 1) := by decide +kernel
theorem dX12_living_8 : decode cX12_living 8 = .ok (.if_icmp .ge 27, 3) := by decide +kernel
theorem dX12_living_11 : decode cX12_living 11 = .ok (.iload_n 1, 1) := by decide +kernel
theorem dX12_living_12 : decode cX12_living 12 = .ok (.aload_n 0, 1) := by decide +kernel
theorem dX12_living_13 : decode cX12_living 13 = .ok (.iload_n 2, 1) := by decide +kernel
theorem dX12_living_14 : decode cX12_living 14 = .ok (.invokestatic 191, 3) := by decide +kernel
theorem dX12_living_17 : decode cX12_living 17 = .ok (.ifCond .eq 9, 3) := by decide +kernel
theorem dX12_living_20 : decode cX12_living 20 = .ok (.iconst 1, 1) := by decide +kernel
theorem dX12_living_21 : decode cX12_living 21 = .ok (.iload_n 2, 1) := by decide +kernel
theorem dX12_living_22 : decode cX12_living 22 = .ok (.ishl, 1) := by decide +kernel
theorem dX12_living_23 : decode cX12_living 23 = .ok (.goto 4, 3) := by decide +kernel
theorem dX12_living_26 : decode cX12_living 26 = .ok (.iconst 0, 1) := by decide +kernel
theorem dX12_living_27 : decode cX12_living 27 = .ok (.ior, 1) := by decide +kernel
theorem dX12_living_28 : decode cX12_living 28 = .ok (.istore_n 1, 1) := by decide +kernel
theorem dX12_living_29 : decode cX12_living 29 = .ok (.iinc 2 1, 3) := by decide +kernel
theorem dX12_living_32 : decode cX12_living 32 = .ok (.goto (-28), 3) := by decide +kernel
theorem dX12_living_35 : decode cX12_living 35 = .ok (.iload_n 1, 1) := by decide +kernel
theorem dX12_living_36 : decode cX12_living 36 = .ok (.ireturn, 1) := by decide +kernel
theorem dX12_see_0 : decode cX12_see 0 = .ok (.iconst 0, 1) := by decide +kernel
theorem dX12_see_1 : decode cX12_see 1 = .ok (.istore_n 2, 1) := by decide +kernel
theorem dX12_see_2 : decode cX12_see 2 = .ok (.iload_n 2, 1) := by decide +kernel
theorem dX12_see_3 : decode cX12_see 3 = .ok (.aload_n 1, 1) := by decide +kernel
theorem dX12_see_4 : decode cX12_see 4 = .ok (.iconst 4, 1) := by decide +kernel
theorem dX12_see_5 : decode cX12_see 5 = .ok (.iaload, 1) := by decide +kernel
theorem dX12_see_6 : decode cX12_see 6 = .ok (.if_icmp .ge 54, 3) := by decide +kernel
theorem dX12_see_9 : decode cX12_see 9 = .ok (.aload_n 1, 1) := by decide +kernel
theorem dX12_see_10 : decode cX12_see 10 = .ok (.bipush 43, 2) := by decide +kernel
theorem dX12_see_12 : decode cX12_see 12 = .ok (.iconst 4, 1) := by decide +kernel
theorem dX12_see_13 : decode cX12_see 13 = .ok (.iload_n 2, 1) := by decide +kernel
theorem dX12_see_14 : decode cX12_see 14 = .ok (.imul, 1) := by decide +kernel
theorem dX12_see_15 : decode cX12_see 15 = .ok (.iadd, 1) := by decide +kernel
theorem dX12_see_16 : decode cX12_see 16 = .ok (.iconst 3, 1) := by decide +kernel
theorem dX12_see_17 : decode cX12_see 17 = .ok (.iadd, 1) := by decide +kernel
theorem dX12_see_18 : decode cX12_see 18 = .ok (.dup2, 1) := by decide +kernel
theorem dX12_see_19 : decode cX12_see 19 = .ok (.iaload, 1) := by decide +kernel
theorem dX12_see_20 : decode cX12_see 20 = .ok (.aload_n 1, 1) := by decide +kernel
theorem dX12_see_21 : decode cX12_see 21 = .ok (.iload_n 2, 1) := by decide +kernel
theorem dX12_see_22 : decode cX12_see 22 = .ok (.invokestatic 191, 3) := by decide +kernel
theorem dX12_see_25 : decode cX12_see 25 = .ok (.ifCond .eq 26, 3) := by decide +kernel
theorem dX12_see_28 : decode cX12_see 28 = .ok (.aload_n 0, 1) := by decide +kernel
theorem dX12_see_29 : decode cX12_see 29 = .ok (.aload_n 1, 1) := by decide +kernel
theorem dX12_see_30 : decode cX12_see 30 = .ok (.iload_n 2, 1) := by decide +kernel
theorem dX12_see_31 : decode cX12_see 31 = .ok (.iconst 0, 1) := by decide +kernel
theorem dX12_see_32 : decode cX12_see 32 = .ok (.invokestatic 183, 3) := by decide +kernel
theorem dX12_see_35 : decode cX12_see 35 = .ok (.aload_n 1, 1) := by decide +kernel
theorem dX12_see_36 : decode cX12_see 36 = .ok (.iload_n 2, 1) := by decide +kernel
theorem dX12_see_37 : decode cX12_see 37 = .ok (.iconst 2, 1) := by decide +kernel
theorem dX12_see_38 : decode cX12_see 38 = .ok (.invokestatic 183, 3) := by decide +kernel
theorem dX12_see_41 : decode cX12_see 41 = .ok (.aload_n 1, 1) := by decide +kernel
theorem dX12_see_42 : decode cX12_see 42 = .ok (.bipush 6, 2) := by decide +kernel
theorem dX12_see_44 : decode cX12_see 44 = .ok (.iaload, 1) := by decide +kernel
theorem dX12_see_45 : decode cX12_see 45 = .ok (.invokevirtual 199, 3) := by decide +kernel
theorem dX12_see_48 : decode cX12_see 48 = .ok (.goto 4, 3) := by decide +kernel
theorem dX12_see_51 : decode cX12_see 51 = .ok (.iconst 0, 1) := by decide +kernel
theorem dX12_see_52 : decode cX12_see 52 = .ok (.ior, 1) := by decide +kernel
theorem dX12_see_53 : decode cX12_see 53 = .ok (.iastore, 1) := by decide +kernel
theorem dX12_see_54 : decode cX12_see 54 = .ok (.iinc 2 1, 3) := by decide +kernel
theorem dX12_see_57 : decode cX12_see 57 = .ok (.goto (-55), 3) := by decide +kernel
theorem dX12_see_60 : decode cX12_see 60 = .ok (.return_, 1) := by decide +kernel
theorem dX12_year_0 : decode cX12_year 0 = .ok (.iconst 0, 1) := by decide +kernel
theorem dX12_year_1 : decode cX12_year 1 = .ok (.istore_n 1, 1) := by decide +kernel
theorem dX12_year_2 : decode cX12_year 2 = .ok (.iload_n 1, 1) := by decide +kernel
theorem dX12_year_3 : decode cX12_year 3 = .ok (.aload_n 0, 1) := by decide +kernel
theorem dX12_year_4 : decode cX12_year 4 = .ok (.iconst 4, 1) := by decide +kernel
theorem dX12_year_5 : decode cX12_year 5 = .ok (.iaload, 1) := by decide +kernel
theorem dX12_year_6 : decode cX12_year 6 = .ok (.if_icmp .ge 86, 3) := by decide +kernel
theorem dX12_year_9 : decode cX12_year 9 = .ok (.bipush 43, 2) := by decide +kernel
theorem dX12_year_11 : decode cX12_year 11 = .ok (.iconst 4, 1) := by decide +kernel
theorem dX12_year_12 : decode cX12_year 12 = .ok (.iload_n 1, 1) := by decide +kernel
theorem dX12_year_13 : decode cX12_year 13 = .ok (.imul, 1) := by decide +kernel
theorem dX12_year_14 : decode cX12_year 14 = .ok (.iadd, 1) := by decide +kernel
theorem dX12_year_15 : decode cX12_year 15 = .ok (.istore_n 2, 1) := by decide +kernel
theorem dX12_year_16 : decode cX12_year 16 = .ok (.aload_n 0, 1) := by decide +kernel
theorem dX12_year_17 : decode cX12_year 17 = .ok (.iload_n 2, 1) := by decide +kernel
theorem dX12_year_18 : decode cX12_year 18 = .ok (.iconst 1, 1) := by decide +kernel
theorem dX12_year_19 : decode cX12_year 19 = .ok (.iadd, 1) := by decide +kernel
theorem dX12_year_20 : decode cX12_year 20 = .ok (.dup2, 1) := by decide +kernel
theorem dX12_year_21 : decode cX12_year 21 = .ok (.iaload, 1) := by decide +kernel
theorem dX12_year_22 : decode cX12_year 22 = .ok (.aload_n 0, 1) := by decide +kernel
theorem dX12_year_23 : decode cX12_year 23 = .ok (.iload_n 1, 1) := by decide +kernel
theorem dX12_year_24 : decode cX12_year 24 = .ok (.invokestatic 191, 3) := by decide +kernel
theorem dX12_year_27 : decode cX12_year 27 = .ok (.ifCond .eq 7, 3) := by decide +kernel
theorem dX12_year_30 : decode cX12_year 30 = .ok (.iconst 1, 1) := by decide +kernel
theorem dX12_year_31 : decode cX12_year 31 = .ok (.goto 4, 3) := by decide +kernel
theorem dX12_year_34 : decode cX12_year 34 = .ok (.iconst 0, 1) := by decide +kernel
theorem dX12_year_35 : decode cX12_year 35 = .ok (.iadd, 1) := by decide +kernel
theorem dX12_year_36 : decode cX12_year 36 = .ok (.iastore, 1) := by decide +kernel
theorem dX12_year_37 : decode cX12_year 37 = .ok (.aload_n 0, 1) := by decide +kernel
theorem dX12_year_38 : decode cX12_year 38 = .ok (.iload_n 2, 1) := by decide +kernel
theorem dX12_year_39 : decode cX12_year 39 = .ok (.iconst 3, 1) := by decide +kernel
theorem dX12_year_40 : decode cX12_year 40 = .ok (.iadd, 1) := by decide +kernel
theorem dX12_year_41 : decode cX12_year 41 = .ok (.iaload, 1) := by decide +kernel
theorem dX12_year_42 : decode cX12_year 42 = .ok (.istore_n 3, 1) := by decide +kernel
theorem dX12_year_43 : decode cX12_year 43 = .ok (.aload_n 0, 1) := by decide +kernel
theorem dX12_year_44 : decode cX12_year 44 = .ok (.iload_n 2, 1) := by decide +kernel
theorem dX12_year_45 : decode cX12_year 45 = .ok (.iaload, 1) := by decide +kernel
theorem dX12_year_46 : decode cX12_year 46 = .ok (.iconst 4, 1) := by decide +kernel
theorem dX12_year_47 : decode cX12_year 47 = .ok (.if_icmp .ne 16, 3) := by decide +kernel
theorem dX12_year_50 : decode cX12_year 50 = .ok (.aload_n 0, 1) := by decide +kernel
theorem dX12_year_51 : decode cX12_year 51 = .ok (.iconst 5, 1) := by decide +kernel
theorem dX12_year_52 : decode cX12_year 52 = .ok (.iaload, 1) := by decide +kernel
theorem dX12_year_53 : decode cX12_year 53 = .ok (.iconst 3, 1) := by decide +kernel
theorem dX12_year_54 : decode cX12_year 54 = .ok (.irem, 1) := by decide +kernel
theorem dX12_year_55 : decode cX12_year 55 = .ok (.iconst 2, 1) := by decide +kernel
theorem dX12_year_56 : decode cX12_year 56 = .ok (.if_icmp .ne 7, 3) := by decide +kernel
theorem dX12_year_59 : decode cX12_year 59 = .ok (.iconst 0, 1) := by decide +kernel
theorem dX12_year_60 : decode cX12_year 60 = .ok (.goto 19, 3) := by decide +kernel
theorem dX12_year_63 : decode cX12_year 63 = .ok (.aload_n 0, 1) := by decide +kernel
theorem dX12_year_64 : decode cX12_year 64 = .ok (.iload_n 2, 1) := by decide +kernel
theorem dX12_year_65 : decode cX12_year 65 = .ok (.iaload, 1) := by decide +kernel
theorem dX12_year_66 : decode cX12_year 66 = .ok (.iconst 5, 1) := by decide +kernel
theorem dX12_year_67 : decode cX12_year 67 = .ok (.if_icmp .ne 11, 3) := by decide +kernel
theorem dX12_year_70 : decode cX12_year 70 = .ok (.iload_n 3, 1) := by decide +kernel
theorem dX12_year_71 : decode cX12_year 71 = .ok (.iload_n 3, 1) := by decide +kernel
theorem dX12_year_72 : decode cX12_year 72 = .ok (.iconst 1, 1) := by decide +kernel
theorem dX12_year_73 : decode cX12_year 73 = .ok (.isub, 1) := by decide +kernel
theorem dX12_year_74 : decode cX12_year 74 = .ok (.iand, 1) := by decide +kernel
theorem dX12_year_75 : decode cX12_year 75 = .ok (.goto 4, 3) := by decide +kernel
theorem dX12_year_78 : decode cX12_year 78 = .ok (.iload_n 3, 1) := by decide +kernel
theorem dX12_year_79 : decode cX12_year 79 = .ok (.istore_n 3, 1) := by decide +kernel
theorem dX12_year_80 : decode cX12_year 80 = .ok (.aload_n 0, 1) := by decide +kernel
theorem dX12_year_81 : decode cX12_year 81 = .ok (.iload_n 2, 1) := by decide +kernel
theorem dX12_year_82 : decode cX12_year 82 = .ok (.iconst 3, 1) := by decide +kernel
theorem dX12_year_83 : decode cX12_year 83 = .ok (.iadd, 1) := by decide +kernel
theorem dX12_year_84 : decode cX12_year 84 = .ok (.iload_n 3, 1) := by decide +kernel
theorem dX12_year_85 : decode cX12_year 85 = .ok (.iastore, 1) := by decide +kernel
theorem dX12_year_86 : decode cX12_year 86 = .ok (.iinc 1 1, 3) := by decide +kernel
theorem dX12_year_89 : decode cX12_year 89 = .ok (.goto (-87), 3) := by decide +kernel
theorem dX12_year_92 : decode cX12_year 92 = .ok (.aload_n 0, 1) := by decide +kernel
theorem dX12_year_93 : decode cX12_year 93 = .ok (.iconst 5, 1) := by decide +kernel
theorem dX12_year_94 : decode cX12_year 94 = .ok (.dup2, 1) := by decide +kernel
theorem dX12_year_95 : decode cX12_year 95 = .ok (.iaload, 1) := by decide +kernel
theorem dX12_year_96 : decode cX12_year 96 = .ok (.iconst 1, 1) := by decide +kernel
theorem dX12_year_97 : decode cX12_year 97 = .ok (.iadd, 1) := by decide +kernel
theorem dX12_year_98 : decode cX12_year 98 = .ok (.iastore, 1) := by decide +kernel
theorem dX12_year_99 : decode cX12_year 99 = .ok (.return_, 1) := by decide +kernel
theorem dX12_layThen_0 : decode cX12_layThen 0 = .ok (.iconst 0, 1) := by decide +kernel
theorem dX12_layThen_1 : decode cX12_layThen 1 = .ok (.istore_n 1, 1) := by decide +kernel
theorem dX12_layThen_2 : decode cX12_layThen 2 = .ok (.iload_n 1, 1) := by decide +kernel
theorem dX12_layThen_3 : decode cX12_layThen 3 = .ok (.bipush 67, 2) := by decide +kernel
theorem dX12_layThen_5 : decode cX12_layThen 5 = .ok (.if_icmp .ge 21, 3) := by decide +kernel
theorem dX12_layThen_8 : decode cX12_layThen 8 = .ok (.aload_n 0, 1) := by decide +kernel
theorem dX12_layThen_9 : decode cX12_layThen 9 = .ok (.getfield 25, 3) := by decide +kernel
theorem dX12_layThen_12 : decode cX12_layThen 12 = .ok (.iload_n 1, 1) := by decide +kernel
theorem dX12_layThen_13 : decode cX12_layThen 13 = .ok (.aload_n 0, 1) := by decide +kernel
theorem dX12_layThen_14 : decode cX12_layThen 14 = .ok (.getfield 19, 3) := by decide +kernel
theorem dX12_layThen_17 : decode cX12_layThen 17 = .ok (.iload_n 1, 1) := by decide +kernel
theorem dX12_layThen_18 : decode cX12_layThen 18 = .ok (.iaload, 1) := by decide +kernel
theorem dX12_layThen_19 : decode cX12_layThen 19 = .ok (.iastore, 1) := by decide +kernel
theorem dX12_layThen_20 : decode cX12_layThen 20 = .ok (.iinc 1 1, 3) := by decide +kernel
theorem dX12_layThen_23 : decode cX12_layThen 23 = .ok (.goto (-21), 3) := by decide +kernel
theorem dX12_layThen_26 : decode cX12_layThen 26 = .ok (.return_, 1) := by decide +kernel
theorem dX12_keep_0 : decode cX12_keep 0 = .ok (.aload_n 0, 1) := by decide +kernel
theorem dX12_keep_1 : decode cX12_keep 1 = .ok (.getfield 150, 3) := by decide +kernel
theorem dX12_keep_4 : decode cX12_keep 4 = .ok (.bipush 24, 2) := by decide +kernel
theorem dX12_keep_6 : decode cX12_keep 6 = .ok (.if_icmp .ne 43, 3) := by decide +kernel
theorem dX12_keep_9 : decode cX12_keep 9 = .ok (.iconst 0, 1) := by decide +kernel
theorem dX12_keep_10 : decode cX12_keep 10 = .ok (.istore_n 1, 1) := by decide +kernel
theorem dX12_keep_11 : decode cX12_keep 11 = .ok (.iload_n 1, 1) := by decide +kernel
theorem dX12_keep_12 : decode cX12_keep 12 = .ok (.sipush 1541, 3) := by decide +kernel
theorem dX12_keep_15 : decode cX12_keep 15 = .ok (.if_icmp .ge 24, 3) := by decide +kernel
theorem dX12_keep_18 : decode cX12_keep 18 = .ok (.aload_n 0, 1) := by decide +kernel
theorem dX12_keep_19 : decode cX12_keep 19 = .ok (.getfield 28, 3) := by decide +kernel
theorem dX12_keep_22 : decode cX12_keep 22 = .ok (.iload_n 1, 1) := by decide +kernel
theorem dX12_keep_23 : decode cX12_keep 23 = .ok (.aload_n 0, 1) := by decide +kernel
theorem dX12_keep_24 : decode cX12_keep 24 = .ok (.getfield 28, 3) := by decide +kernel
theorem dX12_keep_27 : decode cX12_keep 27 = .ok (.iload_n 1, 1) := by decide +kernel
theorem dX12_keep_28 : decode cX12_keep 28 = .ok (.bipush 67, 2) := by decide +kernel
theorem dX12_keep_30 : decode cX12_keep 30 = .ok (.iadd, 1) := by decide +kernel
theorem dX12_keep_31 : decode cX12_keep 31 = .ok (.iaload, 1) := by decide +kernel
theorem dX12_keep_32 : decode cX12_keep 32 = .ok (.iastore, 1) := by decide +kernel
theorem dX12_keep_33 : decode cX12_keep 33 = .ok (.iinc 1 1, 3) := by decide +kernel
theorem dX12_keep_36 : decode cX12_keep 36 = .ok (.goto (-25), 3) := by decide +kernel
theorem dX12_keep_39 : decode cX12_keep 39 = .ok (.aload_n 0, 1) := by decide +kernel
theorem dX12_keep_40 : decode cX12_keep 40 = .ok (.dup, 1) := by decide +kernel
theorem dX12_keep_41 : decode cX12_keep 41 = .ok (.getfield 150, 3) := by decide +kernel
theorem dX12_keep_44 : decode cX12_keep 44 = .ok (.iconst 1, 1) := by decide +kernel
theorem dX12_keep_45 : decode cX12_keep 45 = .ok (.isub, 1) := by decide +kernel
theorem dX12_keep_46 : decode cX12_keep 46 = .ok (.putfield 150, 3) := by decide +kernel
theorem dX12_keep_49 : decode cX12_keep 49 = .ok (.iconst 0, 1) := by decide +kernel
theorem dX12_keep_50 : decode cX12_keep 50 = .ok (.istore_n 1, 1) := by decide +kernel
theorem dX12_keep_51 : decode cX12_keep 51 = .ok (.iload_n 1, 1) := by decide +kernel
theorem dX12_keep_52 : decode cX12_keep 52 = .ok (.bipush 67, 2) := by decide +kernel
theorem dX12_keep_54 : decode cX12_keep 54 = .ok (.if_icmp .ge 29, 3) := by decide +kernel
theorem dX12_keep_57 : decode cX12_keep 57 = .ok (.aload_n 0, 1) := by decide +kernel
theorem dX12_keep_58 : decode cX12_keep 58 = .ok (.getfield 28, 3) := by decide +kernel
theorem dX12_keep_61 : decode cX12_keep 61 = .ok (.bipush 67, 2) := by decide +kernel
theorem dX12_keep_63 : decode cX12_keep 63 = .ok (.aload_n 0, 1) := by decide +kernel
theorem dX12_keep_64 : decode cX12_keep 64 = .ok (.getfield 150, 3) := by decide +kernel
theorem dX12_keep_67 : decode cX12_keep 67 = .ok (.imul, 1) := by decide +kernel
theorem dX12_keep_68 : decode cX12_keep 68 = .ok (.iload_n 1, 1) := by decide +kernel
theorem dX12_keep_69 : decode cX12_keep 69 = .ok (.iadd, 1) := by decide +kernel
theorem dX12_keep_70 : decode cX12_keep 70 = .ok (.aload_n 0, 1) := by decide +kernel
theorem dX12_keep_71 : decode cX12_keep 71 = .ok (.getfield 19, 3) := by decide +kernel
theorem dX12_keep_74 : decode cX12_keep 74 = .ok (.iload_n 1, 1) := by decide +kernel
theorem dX12_keep_75 : decode cX12_keep 75 = .ok (.iaload, 1) := by decide +kernel
theorem dX12_keep_76 : decode cX12_keep 76 = .ok (.iastore, 1) := by decide +kernel
theorem dX12_keep_77 : decode cX12_keep 77 = .ok (.iinc 1 1, 3) := by decide +kernel
theorem dX12_keep_80 : decode cX12_keep 80 = .ok (.goto (-29), 3) := by decide +kernel
theorem dX12_keep_83 : decode cX12_keep 83 = .ok (.aload_n 0, 1) := by decide +kernel
theorem dX12_keep_84 : decode cX12_keep 84 = .ok (.dup, 1) := by decide +kernel
theorem dX12_keep_85 : decode cX12_keep 85 = .ok (.getfield 150, 3) := by decide +kernel
theorem dX12_keep_88 : decode cX12_keep 88 = .ok (.iconst 1, 1) := by decide +kernel
theorem dX12_keep_89 : decode cX12_keep 89 = .ok (.iadd, 1) := by decide +kernel
theorem dX12_keep_90 : decode cX12_keep 90 = .ok (.putfield 150, 3) := by decide +kernel
theorem dX12_keep_93 : decode cX12_keep 93 = .ok (.return_, 1) := by decide +kernel
theorem dX12_bury_0 : decode cX12_bury 0 = .ok (.aload_n 0, 1) := by decide +kernel
theorem dX12_bury_1 : decode cX12_bury 1 = .ok (.iconst 0, 1) := by decide +kernel
theorem dX12_bury_2 : decode cX12_bury 2 = .ok (.putfield 47, 3) := by decide +kernel
theorem dX12_bury_5 : decode cX12_bury 5 = .ok (.aload_n 0, 1) := by decide +kernel
theorem dX12_bury_6 : decode cX12_bury 6 = .ok (.invokevirtual 203, 3) := by decide +kernel
theorem dX12_bury_9 : decode cX12_bury 9 = .ok (.ifCond .ne 6, 3) := by decide +kernel
theorem dX12_bury_12 : decode cX12_bury 12 = .ok (.ldc 206, 2) := by decide +kernel
theorem dX12_bury_14 : decode cX12_bury 14 = .ok (.ireturn, 1) := by decide +kernel
theorem dX12_bury_15 : decode cX12_bury 15 = .ok (.iload_n 1, 1) := by decide +kernel
theorem dX12_bury_16 : decode cX12_bury 16 = .ok (.i2l, 1) := by decide +kernel
theorem dX12_bury_17 : decode cX12_bury 17 = .ok (.invokestatic 207, 3) := by decide +kernel
theorem dX12_bury_20 : decode cX12_bury 20 = .ok (.ifCond .ne 6, 3) := by decide +kernel
theorem dX12_bury_23 : decode cX12_bury 23 = .ok (.ldc 67, 2) := by decide +kernel
theorem dX12_bury_25 : decode cX12_bury 25 = .ok (.ireturn, 1) := by decide +kernel
theorem dX12_bury_26 : decode cX12_bury 26 = .ok (.aload_n 0, 1) := by decide +kernel
theorem dX12_bury_27 : decode cX12_bury 27 = .ok (.aload_n 0, 1) := by decide +kernel
theorem dX12_bury_28 : decode cX12_bury 28 = .ok (.getfield 19, 3) := by decide +kernel
theorem dX12_bury_31 : decode cX12_bury 31 = .ok (.bipush 6, 2) := by decide +kernel
theorem dX12_bury_33 : decode cX12_bury 33 = .ok (.iaload, 1) := by decide +kernel
theorem dX12_bury_34 : decode cX12_bury 34 = .ok (.iload_n 1, 1) := by decide +kernel
theorem dX12_bury_35 : decode cX12_bury 35 = .ok (.invokevirtual 211, 3) := by decide +kernel
theorem dX12_bury_38 : decode cX12_bury 38 = .ok (.ifCond .ne 6, 3) := by decide +kernel
theorem dX12_bury_41 : decode cX12_bury 41 = .ok (.ldc 206, 2) := by decide +kernel
theorem dX12_bury_43 : decode cX12_bury 43 = .ok (.ireturn, 1) := by decide +kernel
theorem dX12_bury_44 : decode cX12_bury 44 = .ok (.aload_n 0, 1) := by decide +kernel
theorem dX12_bury_45 : decode cX12_bury 45 = .ok (.invokevirtual 214, 3) := by decide +kernel
theorem dX12_bury_48 : decode cX12_bury 48 = .ok (.aload_n 0, 1) := by decide +kernel
theorem dX12_bury_49 : decode cX12_bury 49 = .ok (.aload_n 0, 1) := by decide +kernel
theorem dX12_bury_50 : decode cX12_bury 50 = .ok (.getfield 19, 3) := by decide +kernel
theorem dX12_bury_53 : decode cX12_bury 53 = .ok (.invokevirtual 217, 3) := by decide +kernel
theorem dX12_bury_56 : decode cX12_bury 56 = .ok (.aload_n 0, 1) := by decide +kernel
theorem dX12_bury_57 : decode cX12_bury 57 = .ok (.getfield 19, 3) := by decide +kernel
theorem dX12_bury_60 : decode cX12_bury 60 = .ok (.invokestatic 221, 3) := by decide +kernel
theorem dX12_bury_63 : decode cX12_bury 63 = .ok (.ireturn, 1) := by decide +kernel
theorem dX12_years_0 : decode cX12_years 0 = .ok (.aload_n 0, 1) := by decide +kernel
theorem dX12_years_1 : decode cX12_years 1 = .ok (.iconst 0, 1) := by decide +kernel
theorem dX12_years_2 : decode cX12_years 2 = .ok (.putfield 47, 3) := by decide +kernel
theorem dX12_years_5 : decode cX12_years 5 = .ok (.aload_n 0, 1) := by decide +kernel
theorem dX12_years_6 : decode cX12_years 6 = .ok (.invokevirtual 203, 3) := by decide +kernel
theorem dX12_years_9 : decode cX12_years 9 = .ok (.ifCond .ne 6, 3) := by decide +kernel
theorem dX12_years_12 : decode cX12_years 12 = .ok (.ldc 206, 2) := by decide +kernel
theorem dX12_years_14 : decode cX12_years 14 = .ok (.ireturn, 1) := by decide +kernel
theorem dX12_years_15 : decode cX12_years 15 = .ok (.iload_n 1, 1) := by decide +kernel
theorem dX12_years_16 : decode cX12_years 16 = .ok (.i2l, 1) := by decide +kernel
theorem dX12_years_17 : decode cX12_years 17 = .ok (.lconst 1, 1) := by decide +kernel
theorem dX12_years_18 : decode cX12_years 18 = .ok (.ldc2_w 225, 3) := by decide +kernel
theorem dX12_years_21 : decode cX12_years 21 = .ok (.invokestatic 57, 3) := by decide +kernel
theorem dX12_years_24 : decode cX12_years 24 = .ok (.ifCond .ne 6, 3) := by decide +kernel
theorem dX12_years_27 : decode cX12_years 27 = .ok (.ldc 67, 2) := by decide +kernel
theorem dX12_years_29 : decode cX12_years 29 = .ok (.ireturn, 1) := by decide +kernel
theorem dX12_years_30 : decode cX12_years 30 = .ok (.aload_n 0, 1) := by decide +kernel
theorem dX12_years_31 : decode cX12_years 31 = .ok (.getfield 19, 3) := by decide +kernel
theorem dX12_years_34 : decode cX12_years 34 = .ok (.iconst 5, 1) := by decide +kernel
theorem dX12_years_35 : decode cX12_years 35 = .ok (.iaload, 1) := by decide +kernel
theorem dX12_years_36 : decode cX12_years 36 = .ok (.iload_n 1, 1) := by decide +kernel
theorem dX12_years_37 : decode cX12_years 37 = .ok (.iadd, 1) := by decide +kernel
theorem dX12_years_38 : decode cX12_years 38 = .ok (.sipush 999, 3) := by decide +kernel
theorem dX12_years_41 : decode cX12_years 41 = .ok (.if_icmp .le 6, 3) := by decide +kernel
theorem dX12_years_44 : decode cX12_years 44 = .ok (.ldc 77, 2) := by decide +kernel
theorem dX12_years_46 : decode cX12_years 46 = .ok (.ireturn, 1) := by decide +kernel
theorem dX12_years_47 : decode cX12_years 47 = .ok (.iconst 0, 1) := by decide +kernel
theorem dX12_years_48 : decode cX12_years 48 = .ok (.istore_n 2, 1) := by decide +kernel
theorem dX12_years_49 : decode cX12_years 49 = .ok (.iload_n 2, 1) := by decide +kernel
theorem dX12_years_50 : decode cX12_years 50 = .ok (.iload_n 1, 1) := by decide +kernel
theorem dX12_years_51 : decode cX12_years 51 = .ok (.if_icmp .ge 20, 3) := by decide +kernel
theorem dX12_years_54 : decode cX12_years 54 = .ok (.aload_n 0, 1) := by decide +kernel
theorem dX12_years_55 : decode cX12_years 55 = .ok (.invokevirtual 214, 3) := by decide +kernel
theorem dX12_years_58 : decode cX12_years 58 = .ok (.aload_n 0, 1) := by decide +kernel
theorem dX12_years_59 : decode cX12_years 59 = .ok (.getfield 19, 3) := by decide +kernel
theorem dX12_years_62 : decode cX12_years 62 = .ok (.invokestatic 227, 3) := by decide +kernel
theorem dX12_years_65 : decode cX12_years 65 = .ok (.iinc 2 1, 3) := by decide +kernel
theorem dX12_years_68 : decode cX12_years 68 = .ok (.goto (-19), 3) := by decide +kernel
theorem dX12_years_71 : decode cX12_years 71 = .ok (.aload_n 0, 1) := by decide +kernel
theorem dX12_years_72 : decode cX12_years 72 = .ok (.getfield 19, 3) := by decide +kernel
theorem dX12_years_75 : decode cX12_years 75 = .ok (.invokestatic 230, 3) := by decide +kernel
theorem dX12_years_78 : decode cX12_years 78 = .ok (.ireturn, 1) := by decide +kernel
theorem dX12_lock_0 : decode cX12_lock 0 = .ok (.aload_n 0, 1) := by decide +kernel
theorem dX12_lock_1 : decode cX12_lock 1 = .ok (.iconst 0, 1) := by decide +kernel
theorem dX12_lock_2 : decode cX12_lock 2 = .ok (.putfield 47, 3) := by decide +kernel
theorem dX12_lock_5 : decode cX12_lock 5 = .ok (.aload_n 0, 1) := by decide +kernel
theorem dX12_lock_6 : decode cX12_lock 6 = .ok (.iload_n 1, 1) := by decide +kernel
theorem dX12_lock_7 : decode cX12_lock 7 = .ok (.invokevirtual 233, 3) := by decide +kernel
theorem dX12_lock_10 : decode cX12_lock 10 = .ok (.ifCond .eq 13, 3) := by decide +kernel
theorem dX12_lock_13 : decode cX12_lock 13 = .ok (.iload_n 2, 1) := by decide +kernel
theorem dX12_lock_14 : decode cX12_lock 14 = .ok (.i2l, 1) := by decide +kernel
theorem dX12_lock_15 : decode cX12_lock 15 = .ok (.lconst 0, 1) := by decide +kernel
theorem dX12_lock_16 : decode cX12_lock 16 = .ok (.lconst 1, 1) := by decide +kernel
theorem dX12_lock_17 : decode cX12_lock 17 = .ok (.invokestatic 57, 3) := by decide +kernel
theorem dX12_lock_20 : decode cX12_lock 20 = .ok (.ifCond .ne 6, 3) := by decide +kernel
theorem dX12_lock_23 : decode cX12_lock 23 = .ok (.ldc 67, 2) := by decide +kernel
theorem dX12_lock_25 : decode cX12_lock 25 = .ok (.ireturn, 1) := by decide +kernel
theorem dX12_lock_26 : decode cX12_lock 26 = .ok (.aload_n 0, 1) := by decide +kernel
theorem dX12_lock_27 : decode cX12_lock 27 = .ok (.getfield 19, 3) := by decide +kernel
theorem dX12_lock_30 : decode cX12_lock 30 = .ok (.bipush 6, 2) := by decide +kernel
theorem dX12_lock_32 : decode cX12_lock 32 = .ok (.iaload, 1) := by decide +kernel
theorem dX12_lock_33 : decode cX12_lock 33 = .ok (.iload_n 1, 1) := by decide +kernel
theorem dX12_lock_34 : decode cX12_lock 34 = .ok (.ishr, 1) := by decide +kernel
theorem dX12_lock_35 : decode cX12_lock 35 = .ok (.iconst 1, 1) := by decide +kernel
theorem dX12_lock_36 : decode cX12_lock 36 = .ok (.iand, 1) := by decide +kernel
theorem dX12_lock_37 : decode cX12_lock 37 = .ok (.iload_n 2, 1) := by decide +kernel
theorem dX12_lock_38 : decode cX12_lock 38 = .ok (.if_icmp .ne 6, 3) := by decide +kernel
theorem dX12_lock_41 : decode cX12_lock 41 = .ok (.ldc 206, 2) := by decide +kernel
theorem dX12_lock_43 : decode cX12_lock 43 = .ok (.ireturn, 1) := by decide +kernel
theorem dX12_lock_44 : decode cX12_lock 44 = .ok (.aload_n 0, 1) := by decide +kernel
theorem dX12_lock_45 : decode cX12_lock 45 = .ok (.invokevirtual 214, 3) := by decide +kernel
theorem dX12_lock_48 : decode cX12_lock 48 = .ok (.aload_n 0, 1) := by decide +kernel
theorem dX12_lock_49 : decode cX12_lock 49 = .ok (.getfield 19, 3) := by decide +kernel
theorem dX12_lock_52 : decode cX12_lock 52 = .ok (.bipush 6, 2) := by decide +kernel
theorem dX12_lock_54 : decode cX12_lock 54 = .ok (.dup2, 1) := by decide +kernel
theorem dX12_lock_55 : decode cX12_lock 55 = .ok (.iaload, 1) := by decide +kernel
theorem dX12_lock_56 : decode cX12_lock 56 = .ok (.iconst 1, 1) := by decide +kernel
theorem dX12_lock_57 : decode cX12_lock 57 = .ok (.iload_n 1, 1) := by decide +kernel
theorem dX12_lock_58 : decode cX12_lock 58 = .ok (.ishl, 1) := by decide +kernel
theorem dX12_lock_59 : decode cX12_lock 59 = .ok (.ixor, 1) := by decide +kernel
theorem dX12_lock_60 : decode cX12_lock 60 = .ok (.iastore, 1) := by decide +kernel
theorem dX12_lock_61 : decode cX12_lock 61 = .ok (.aload_n 0, 1) := by decide +kernel
theorem dX12_lock_62 : decode cX12_lock 62 = .ok (.getfield 19, 3) := by decide +kernel
theorem dX12_lock_65 : decode cX12_lock 65 = .ok (.bipush 6, 2) := by decide +kernel
theorem dX12_lock_67 : decode cX12_lock 67 = .ok (.iaload, 1) := by decide +kernel
theorem dX12_lock_68 : decode cX12_lock 68 = .ok (.ireturn, 1) := by decide +kernel
theorem dX12_follow_0 : decode cX12_follow 0 = .ok (.aload_n 0, 1) := by decide +kernel
theorem dX12_follow_1 : decode cX12_follow 1 = .ok (.iconst 0, 1) := by decide +kernel
theorem dX12_follow_2 : decode cX12_follow 2 = .ok (.putfield 47, 3) := by decide +kernel
theorem dX12_follow_5 : decode cX12_follow 5 = .ok (.aload_n 0, 1) := by decide +kernel
theorem dX12_follow_6 : decode cX12_follow 6 = .ok (.iload_n 1, 1) := by decide +kernel
theorem dX12_follow_7 : decode cX12_follow 7 = .ok (.invokevirtual 236, 3) := by decide +kernel
theorem dX12_follow_10 : decode cX12_follow 10 = .ok (.ifCond .ne 6, 3) := by decide +kernel
theorem dX12_follow_13 : decode cX12_follow 13 = .ok (.ldc 67, 2) := by decide +kernel
theorem dX12_follow_15 : decode cX12_follow 15 = .ok (.ireturn, 1) := by decide +kernel
theorem dX12_follow_16 : decode cX12_follow 16 = .ok (.aload_n 0, 1) := by decide +kernel
theorem dX12_follow_17 : decode cX12_follow 17 = .ok (.getfield 19, 3) := by decide +kernel
theorem dX12_follow_20 : decode cX12_follow 20 = .ok (.iload_n 1, 1) := by decide +kernel
theorem dX12_follow_21 : decode cX12_follow 21 = .ok (.invokestatic 191, 3) := by decide +kernel
theorem dX12_follow_24 : decode cX12_follow 24 = .ok (.ifCond .eq 6, 3) := by decide +kernel
theorem dX12_follow_27 : decode cX12_follow 27 = .ok (.ldc 206, 2) := by decide +kernel
theorem dX12_follow_29 : decode cX12_follow 29 = .ok (.ireturn, 1) := by decide +kernel
theorem dX12_follow_30 : decode cX12_follow 30 = .ok (.aload_n 0, 1) := by decide +kernel
theorem dX12_follow_31 : decode cX12_follow 31 = .ok (.invokevirtual 214, 3) := by decide +kernel
theorem dX12_follow_34 : decode cX12_follow 34 = .ok (.aload_n 0, 1) := by decide +kernel
theorem dX12_follow_35 : decode cX12_follow 35 = .ok (.getfield 19, 3) := by decide +kernel
theorem dX12_follow_38 : decode cX12_follow 38 = .ok (.bipush 43, 2) := by decide +kernel
theorem dX12_follow_40 : decode cX12_follow 40 = .ok (.iconst 4, 1) := by decide +kernel
theorem dX12_follow_41 : decode cX12_follow 41 = .ok (.iload_n 1, 1) := by decide +kernel
theorem dX12_follow_42 : decode cX12_follow 42 = .ok (.imul, 1) := by decide +kernel
theorem dX12_follow_43 : decode cX12_follow 43 = .ok (.iadd, 1) := by decide +kernel
theorem dX12_follow_44 : decode cX12_follow 44 = .ok (.iconst 1, 1) := by decide +kernel
theorem dX12_follow_45 : decode cX12_follow 45 = .ok (.iadd, 1) := by decide +kernel
theorem dX12_follow_46 : decode cX12_follow 46 = .ok (.iconst 0, 1) := by decide +kernel
theorem dX12_follow_47 : decode cX12_follow 47 = .ok (.iastore, 1) := by decide +kernel
theorem dX12_follow_48 : decode cX12_follow 48 = .ok (.aload_n 0, 1) := by decide +kernel
theorem dX12_follow_49 : decode cX12_follow 49 = .ok (.getfield 19, 3) := by decide +kernel
theorem dX12_follow_52 : decode cX12_follow 52 = .ok (.bipush 43, 2) := by decide +kernel
theorem dX12_follow_54 : decode cX12_follow 54 = .ok (.iconst 4, 1) := by decide +kernel
theorem dX12_follow_55 : decode cX12_follow 55 = .ok (.iload_n 1, 1) := by decide +kernel
theorem dX12_follow_56 : decode cX12_follow 56 = .ok (.imul, 1) := by decide +kernel
theorem dX12_follow_57 : decode cX12_follow 57 = .ok (.iadd, 1) := by decide +kernel
theorem dX12_follow_58 : decode cX12_follow 58 = .ok (.iconst 3, 1) := by decide +kernel
theorem dX12_follow_59 : decode cX12_follow 59 = .ok (.iadd, 1) := by decide +kernel
theorem dX12_follow_60 : decode cX12_follow 60 = .ok (.iconst 0, 1) := by decide +kernel
theorem dX12_follow_61 : decode cX12_follow 61 = .ok (.iastore, 1) := by decide +kernel
theorem dX12_follow_62 : decode cX12_follow 62 = .ok (.aload_n 0, 1) := by decide +kernel
theorem dX12_follow_63 : decode cX12_follow 63 = .ok (.getfield 19, 3) := by decide +kernel
theorem dX12_follow_66 : decode cX12_follow 66 = .ok (.invokestatic 230, 3) := by decide +kernel
theorem dX12_follow_69 : decode cX12_follow 69 = .ok (.ireturn, 1) := by decide +kernel
theorem dX12_undo_0 : decode cX12_undo 0 = .ok (.aload_n 0, 1) := by decide +kernel
theorem dX12_undo_1 : decode cX12_undo 1 = .ok (.iconst 0, 1) := by decide +kernel
theorem dX12_undo_2 : decode cX12_undo 2 = .ok (.putfield 47, 3) := by decide +kernel
theorem dX12_undo_5 : decode cX12_undo 5 = .ok (.aload_n 0, 1) := by decide +kernel
theorem dX12_undo_6 : decode cX12_undo 6 = .ok (.getfield 150, 3) := by decide +kernel
theorem dX12_undo_9 : decode cX12_undo 9 = .ok (.ifCond .ne 6, 3) := by decide +kernel
theorem dX12_undo_12 : decode cX12_undo 12 = .ok (.ldc 206, 2) := by decide +kernel
theorem dX12_undo_14 : decode cX12_undo 14 = .ok (.ireturn, 1) := by decide +kernel
theorem dX12_undo_15 : decode cX12_undo 15 = .ok (.aload_n 0, 1) := by decide +kernel
theorem dX12_undo_16 : decode cX12_undo 16 = .ok (.dup, 1) := by decide +kernel
theorem dX12_undo_17 : decode cX12_undo 17 = .ok (.getfield 150, 3) := by decide +kernel
theorem dX12_undo_20 : decode cX12_undo 20 = .ok (.iconst 1, 1) := by decide +kernel
theorem dX12_undo_21 : decode cX12_undo 21 = .ok (.isub, 1) := by decide +kernel
theorem dX12_undo_22 : decode cX12_undo 22 = .ok (.putfield 150, 3) := by decide +kernel
theorem dX12_undo_25 : decode cX12_undo 25 = .ok (.iconst 0, 1) := by decide +kernel
theorem dX12_undo_26 : decode cX12_undo 26 = .ok (.istore_n 1, 1) := by decide +kernel
theorem dX12_undo_27 : decode cX12_undo 27 = .ok (.iload_n 1, 1) := by decide +kernel
theorem dX12_undo_28 : decode cX12_undo 28 = .ok (.bipush 67, 2) := by decide +kernel
theorem dX12_undo_30 : decode cX12_undo 30 = .ok (.if_icmp .ge 29, 3) := by decide +kernel
theorem dX12_undo_33 : decode cX12_undo 33 = .ok (.aload_n 0, 1) := by decide +kernel
theorem dX12_undo_34 : decode cX12_undo 34 = .ok (.getfield 19, 3) := by decide +kernel
theorem dX12_undo_37 : decode cX12_undo 37 = .ok (.iload_n 1, 1) := by decide +kernel
theorem dX12_undo_38 : decode cX12_undo 38 = .ok (.aload_n 0, 1) := by decide +kernel
theorem dX12_undo_39 : decode cX12_undo 39 = .ok (.getfield 28, 3) := by decide +kernel
theorem dX12_undo_42 : decode cX12_undo 42 = .ok (.bipush 67, 2) := by decide +kernel
theorem dX12_undo_44 : decode cX12_undo 44 = .ok (.aload_n 0, 1) := by decide +kernel
theorem dX12_undo_45 : decode cX12_undo 45 = .ok (.getfield 150, 3) := by decide +kernel
theorem dX12_undo_48 : decode cX12_undo 48 = .ok (.imul, 1) := by decide +kernel
theorem dX12_undo_49 : decode cX12_undo 49 = .ok (.iload_n 1, 1) := by decide +kernel
theorem dX12_undo_50 : decode cX12_undo 50 = .ok (.iadd, 1) := by decide +kernel
theorem dX12_undo_51 : decode cX12_undo 51 = .ok (.iaload, 1) := by decide +kernel
theorem dX12_undo_52 : decode cX12_undo 52 = .ok (.iastore, 1) := by decide +kernel
theorem dX12_undo_53 : decode cX12_undo 53 = .ok (.iinc 1 1, 3) := by decide +kernel
theorem dX12_undo_56 : decode cX12_undo 56 = .ok (.goto (-29), 3) := by decide +kernel
theorem dX12_undo_59 : decode cX12_undo 59 = .ok (.aload_n 0, 1) := by decide +kernel
theorem dX12_undo_60 : decode cX12_undo 60 = .ok (.getfield 150, 3) := by decide +kernel
theorem dX12_undo_63 : decode cX12_undo 63 = .ok (.ireturn, 1) := by decide +kernel
theorem dX12_witness_0 : decode cX12_witness 0 = .ok (.aload_n 0, 1) := by decide +kernel
theorem dX12_witness_1 : decode cX12_witness 1 = .ok (.iconst 0, 1) := by decide +kernel
theorem dX12_witness_2 : decode cX12_witness 2 = .ok (.putfield 47, 3) := by decide +kernel
theorem dX12_witness_5 : decode cX12_witness 5 = .ok (.aload_n 0, 1) := by decide +kernel
theorem dX12_witness_6 : decode cX12_witness 6 = .ok (.iload_n 1, 1) := by decide +kernel
theorem dX12_witness_7 : decode cX12_witness 7 = .ok (.invokevirtual 236, 3) := by decide +kernel
theorem dX12_witness_10 : decode cX12_witness 10 = .ok (.ifCond .ne 6, 3) := by decide +kernel
theorem dX12_witness_13 : decode cX12_witness 13 = .ok (.ldc 67, 2) := by decide +kernel
theorem dX12_witness_15 : decode cX12_witness 15 = .ok (.ireturn, 1) := by decide +kernel
theorem dX12_witness_16 : decode cX12_witness 16 = .ok (.iload_n 2, 1) := by decide +kernel
theorem dX12_witness_17 : decode cX12_witness 17 = .ok (.tableswitch 77 0 3 #[31, 41, 51, 68], 31) := by decide +kernel
theorem dX12_witness_48 : decode cX12_witness 48 = .ok (.aload_n 0, 1) := by decide +kernel
theorem dX12_witness_49 : decode cX12_witness 49 = .ok (.getfield 19, 3) := by decide +kernel
theorem dX12_witness_52 : decode cX12_witness 52 = .ok (.iload_n 1, 1) := by decide +kernel
theorem dX12_witness_53 : decode cX12_witness 53 = .ok (.iconst 1, 1) := by decide +kernel
theorem dX12_witness_54 : decode cX12_witness 54 = .ok (.invokestatic 183, 3) := by decide +kernel
theorem dX12_witness_57 : decode cX12_witness 57 = .ok (.ireturn, 1) := by decide +kernel
theorem dX12_witness_58 : decode cX12_witness 58 = .ok (.aload_n 0, 1) := by decide +kernel
theorem dX12_witness_59 : decode cX12_witness 59 = .ok (.getfield 19, 3) := by decide +kernel
theorem dX12_witness_62 : decode cX12_witness 62 = .ok (.iload_n 1, 1) := by decide +kernel
theorem dX12_witness_63 : decode cX12_witness 63 = .ok (.iconst 2, 1) := by decide +kernel
theorem dX12_witness_64 : decode cX12_witness 64 = .ok (.invokestatic 183, 3) := by decide +kernel
theorem dX12_witness_67 : decode cX12_witness 67 = .ok (.ireturn, 1) := by decide +kernel
theorem dX12_witness_68 : decode cX12_witness 68 = .ok (.aload_n 0, 1) := by decide +kernel
theorem dX12_witness_69 : decode cX12_witness 69 = .ok (.getfield 19, 3) := by decide +kernel
theorem dX12_witness_72 : decode cX12_witness 72 = .ok (.iload_n 1, 1) := by decide +kernel
theorem dX12_witness_73 : decode cX12_witness 73 = .ok (.invokestatic 191, 3) := by decide +kernel
theorem dX12_witness_76 : decode cX12_witness 76 = .ok (.ifCond .eq 7, 3) := by decide +kernel
theorem dX12_witness_79 : decode cX12_witness 79 = .ok (.iconst 1, 1) := by decide +kernel
theorem dX12_witness_80 : decode cX12_witness 80 = .ok (.goto 4, 3) := by decide +kernel
theorem dX12_witness_83 : decode cX12_witness 83 = .ok (.iconst 0, 1) := by decide +kernel
theorem dX12_witness_84 : decode cX12_witness 84 = .ok (.ireturn, 1) := by decide +kernel
theorem dX12_witness_85 : decode cX12_witness 85 = .ok (.aload_n 0, 1) := by decide +kernel
theorem dX12_witness_86 : decode cX12_witness 86 = .ok (.getfield 19, 3) := by decide +kernel
theorem dX12_witness_89 : decode cX12_witness 89 = .ok (.iload_n 1, 1) := by decide +kernel
theorem dX12_witness_90 : decode cX12_witness 90 = .ok (.invokestatic 195, 3) := by decide +kernel
theorem dX12_witness_93 : decode cX12_witness 93 = .ok (.ireturn, 1) := by decide +kernel
theorem dX12_witness_94 : decode cX12_witness 94 = .ok (.ldc 67, 2) := by decide +kernel
theorem dX12_witness_96 : decode cX12_witness 96 = .ok (.ireturn, 1) := by decide +kernel
theorem dX12_path_0 : decode cX12_path 0 = .ok (.aload_n 0, 1) := by decide +kernel
theorem dX12_path_1 : decode cX12_path 1 = .ok (.iconst 0, 1) := by decide +kernel
theorem dX12_path_2 : decode cX12_path 2 = .ok (.putfield 47, 3) := by decide +kernel
theorem dX12_path_5 : decode cX12_path 5 = .ok (.aload_n 0, 1) := by decide +kernel
theorem dX12_path_6 : decode cX12_path 6 = .ok (.iload_n 1, 1) := by decide +kernel
theorem dX12_path_7 : decode cX12_path 7 = .ok (.invokevirtual 233, 3) := by decide +kernel
theorem dX12_path_10 : decode cX12_path 10 = .ok (.ifCond .eq 15, 3) := by decide +kernel
theorem dX12_path_13 : decode cX12_path 13 = .ok (.iload_n 2, 1) := by decide +kernel
theorem dX12_path_14 : decode cX12_path 14 = .ok (.i2l, 1) := by decide +kernel
theorem dX12_path_15 : decode cX12_path 15 = .ok (.lconst 0, 1) := by decide +kernel
theorem dX12_path_16 : decode cX12_path 16 = .ok (.ldc2_w 239, 3) := by decide +kernel
theorem dX12_path_19 : decode cX12_path 19 = .ok (.invokestatic 57, 3) := by decide +kernel
theorem dX12_path_22 : decode cX12_path 22 = .ok (.ifCond .ne 6, 3) := by decide +kernel
theorem dX12_path_25 : decode cX12_path 25 = .ok (.ldc 67, 2) := by decide +kernel
theorem dX12_path_27 : decode cX12_path 27 = .ok (.ireturn, 1) := by decide +kernel
theorem dX12_path_28 : decode cX12_path 28 = .ok (.iload_n 2, 1) := by decide +kernel
theorem dX12_path_29 : decode cX12_path 29 = .ok (.iconst 3, 1) := by decide +kernel
theorem dX12_path_30 : decode cX12_path 30 = .ok (.if_icmp .ge 17, 3) := by decide +kernel
theorem dX12_path_33 : decode cX12_path 33 = .ok (.aload_n 0, 1) := by decide +kernel
theorem dX12_path_34 : decode cX12_path 34 = .ok (.getfield 19, 3) := by decide +kernel
theorem dX12_path_37 : decode cX12_path 37 = .ok (.bipush 7, 2) := by decide +kernel
theorem dX12_path_39 : decode cX12_path 39 = .ok (.iconst 3, 1) := by decide +kernel
theorem dX12_path_40 : decode cX12_path 40 = .ok (.iload_n 1, 1) := by decide +kernel
theorem dX12_path_41 : decode cX12_path 41 = .ok (.imul, 1) := by decide +kernel
theorem dX12_path_42 : decode cX12_path 42 = .ok (.iadd, 1) := by decide +kernel
theorem dX12_path_43 : decode cX12_path 43 = .ok (.iload_n 2, 1) := by decide +kernel
theorem dX12_path_44 : decode cX12_path 44 = .ok (.iadd, 1) := by decide +kernel
theorem dX12_path_45 : decode cX12_path 45 = .ok (.iaload, 1) := by decide +kernel
theorem dX12_path_46 : decode cX12_path 46 = .ok (.ireturn, 1) := by decide +kernel
theorem dX12_path_47 : decode cX12_path 47 = .ok (.iconst 0, 1) := by decide +kernel
theorem dX12_path_48 : decode cX12_path 48 = .ok (.istore_n 3, 1) := by decide +kernel
theorem dX12_path_49 : decode cX12_path 49 = .ok (.iconst 0, 1) := by decide +kernel
theorem dX12_path_50 : decode cX12_path 50 = .ok (.istore 4, 2) := by decide +kernel
theorem dX12_path_52 : decode cX12_path 52 = .ok (.iload 4, 2) := by decide +kernel
theorem dX12_path_54 : decode cX12_path 54 = .ok (.aload_n 0, 1) := by decide +kernel
theorem dX12_path_55 : decode cX12_path 55 = .ok (.getfield 19, 3) := by decide +kernel
theorem dX12_path_58 : decode cX12_path 58 = .ok (.iconst 4, 1) := by decide +kernel
theorem dX12_path_59 : decode cX12_path 59 = .ok (.iaload, 1) := by decide +kernel
theorem dX12_path_60 : decode cX12_path 60 = .ok (.if_icmp .ge 36, 3) := by decide +kernel
theorem dX12_path_63 : decode cX12_path 63 = .ok (.iload_n 3, 1) := by decide +kernel
theorem dX12_path_64 : decode cX12_path 64 = .ok (.aload_n 0, 1) := by decide +kernel
theorem dX12_path_65 : decode cX12_path 65 = .ok (.getfield 19, 3) := by decide +kernel
theorem dX12_path_68 : decode cX12_path 68 = .ok (.iload 4, 2) := by decide +kernel
theorem dX12_path_70 : decode cX12_path 70 = .ok (.invokestatic 195, 3) := by decide +kernel
theorem dX12_path_73 : decode cX12_path 73 = .ok (.iload_n 1, 1) := by decide +kernel
theorem dX12_path_74 : decode cX12_path 74 = .ok (.invokestatic 153, 3) := by decide +kernel
theorem dX12_path_77 : decode cX12_path 77 = .ok (.ifCond .eq 10, 3) := by decide +kernel
theorem dX12_path_80 : decode cX12_path 80 = .ok (.iconst 1, 1) := by decide +kernel
theorem dX12_path_81 : decode cX12_path 81 = .ok (.iload 4, 2) := by decide +kernel
theorem dX12_path_83 : decode cX12_path 83 = .ok (.ishl, 1) := by decide +kernel
theorem dX12_path_84 : decode cX12_path 84 = .ok (.goto 4, 3) := by decide +kernel
theorem dX12_path_87 : decode cX12_path 87 = .ok (.iconst 0, 1) := by decide +kernel
theorem dX12_path_88 : decode cX12_path 88 = .ok (.ior, 1) := by decide +kernel
theorem dX12_path_89 : decode cX12_path 89 = .ok (.istore_n 3, 1) := by decide +kernel
theorem dX12_path_90 : decode cX12_path 90 = .ok (.iinc 4 1, 3) := by decide +kernel
theorem dX12_path_93 : decode cX12_path 93 = .ok (.goto (-41), 3) := by decide +kernel
theorem dX12_path_96 : decode cX12_path 96 = .ok (.iload_n 2, 1) := by decide +kernel
theorem dX12_path_97 : decode cX12_path 97 = .ok (.iconst 3, 1) := by decide +kernel
theorem dX12_path_98 : decode cX12_path 98 = .ok (.if_icmp .ne 17, 3) := by decide +kernel
theorem dX12_path_101 : decode cX12_path 101 = .ok (.aload_n 0, 1) := by decide +kernel
theorem dX12_path_102 : decode cX12_path 102 = .ok (.getfield 19, 3) := by decide +kernel
theorem dX12_path_105 : decode cX12_path 105 = .ok (.bipush 6, 2) := by decide +kernel
theorem dX12_path_107 : decode cX12_path 107 = .ok (.iaload, 1) := by decide +kernel
theorem dX12_path_108 : decode cX12_path 108 = .ok (.iload_n 1, 1) := by decide +kernel
theorem dX12_path_109 : decode cX12_path 109 = .ok (.ishr, 1) := by decide +kernel
theorem dX12_path_110 : decode cX12_path 110 = .ok (.iconst 1, 1) := by decide +kernel
theorem dX12_path_111 : decode cX12_path 111 = .ok (.iand, 1) := by decide +kernel
theorem dX12_path_112 : decode cX12_path 112 = .ok (.goto 4, 3) := by decide +kernel
theorem dX12_path_115 : decode cX12_path 115 = .ok (.iload_n 3, 1) := by decide +kernel
theorem dX12_path_116 : decode cX12_path 116 = .ok (.ireturn, 1) := by decide +kernel
theorem dX12_stand_0 : decode cX12_stand 0 = .ok (.aload_n 0, 1) := by decide +kernel
theorem dX12_stand_1 : decode cX12_stand 1 = .ok (.iconst 0, 1) := by decide +kernel
theorem dX12_stand_2 : decode cX12_stand 2 = .ok (.putfield 47, 3) := by decide +kernel
theorem dX12_stand_5 : decode cX12_stand 5 = .ok (.aload_n 0, 1) := by decide +kernel
theorem dX12_stand_6 : decode cX12_stand 6 = .ok (.invokevirtual 203, 3) := by decide +kernel
theorem dX12_stand_9 : decode cX12_stand 9 = .ok (.ifCond .ne 6, 3) := by decide +kernel
theorem dX12_stand_12 : decode cX12_stand 12 = .ok (.ldc 206, 2) := by decide +kernel
theorem dX12_stand_14 : decode cX12_stand 14 = .ok (.ireturn, 1) := by decide +kernel
theorem dX12_stand_15 : decode cX12_stand 15 = .ok (.iload_n 1, 1) := by decide +kernel
theorem dX12_stand_16 : decode cX12_stand 16 = .ok (.tableswitch 63 0 3 #[32, 40, 48, 56], 32) := by decide +kernel
theorem dX12_stand_48 : decode cX12_stand 48 = .ok (.aload_n 0, 1) := by decide +kernel
theorem dX12_stand_49 : decode cX12_stand 49 = .ok (.getfield 19, 3) := by decide +kernel
theorem dX12_stand_52 : decode cX12_stand 52 = .ok (.invokestatic 221, 3) := by decide +kernel
theorem dX12_stand_55 : decode cX12_stand 55 = .ok (.ireturn, 1) := by decide +kernel
theorem dX12_stand_56 : decode cX12_stand 56 = .ok (.aload_n 0, 1) := by decide +kernel
theorem dX12_stand_57 : decode cX12_stand 57 = .ok (.getfield 19, 3) := by decide +kernel
theorem dX12_stand_60 : decode cX12_stand 60 = .ok (.bipush 6, 2) := by decide +kernel
theorem dX12_stand_62 : decode cX12_stand 62 = .ok (.iaload, 1) := by decide +kernel
theorem dX12_stand_63 : decode cX12_stand 63 = .ok (.ireturn, 1) := by decide +kernel
theorem dX12_stand_64 : decode cX12_stand 64 = .ok (.aload_n 0, 1) := by decide +kernel
theorem dX12_stand_65 : decode cX12_stand 65 = .ok (.getfield 19, 3) := by decide +kernel
theorem dX12_stand_68 : decode cX12_stand 68 = .ok (.invokestatic 230, 3) := by decide +kernel
theorem dX12_stand_71 : decode cX12_stand 71 = .ok (.ireturn, 1) := by decide +kernel
theorem dX12_stand_72 : decode cX12_stand 72 = .ok (.aload_n 0, 1) := by decide +kernel
theorem dX12_stand_73 : decode cX12_stand 73 = .ok (.getfield 19, 3) := by decide +kernel
theorem dX12_stand_76 : decode cX12_stand 76 = .ok (.iconst 1, 1) := by decide +kernel
theorem dX12_stand_77 : decode cX12_stand 77 = .ok (.iaload, 1) := by decide +kernel
theorem dX12_stand_78 : decode cX12_stand 78 = .ok (.ireturn, 1) := by decide +kernel
theorem dX12_stand_79 : decode cX12_stand 79 = .ok (.ldc 67, 2) := by decide +kernel
theorem dX12_stand_81 : decode cX12_stand 81 = .ok (.ireturn, 1) := by decide +kernel
theorem dX12_ahead_0 : decode cX12_ahead 0 = .ok (.aload_n 0, 1) := by decide +kernel
theorem dX12_ahead_1 : decode cX12_ahead 1 = .ok (.iconst 0, 1) := by decide +kernel
theorem dX12_ahead_2 : decode cX12_ahead 2 = .ok (.putfield 47, 3) := by decide +kernel
theorem dX12_ahead_5 : decode cX12_ahead 5 = .ok (.aload_n 0, 1) := by decide +kernel
theorem dX12_ahead_6 : decode cX12_ahead 6 = .ok (.invokevirtual 203, 3) := by decide +kernel
theorem dX12_ahead_9 : decode cX12_ahead 9 = .ok (.ifCond .ne 6, 3) := by decide +kernel
theorem dX12_ahead_12 : decode cX12_ahead 12 = .ok (.ldc 206, 2) := by decide +kernel
theorem dX12_ahead_14 : decode cX12_ahead 14 = .ok (.ireturn, 1) := by decide +kernel
theorem dX12_ahead_15 : decode cX12_ahead 15 = .ok (.iload_n 1, 1) := by decide +kernel
theorem dX12_ahead_16 : decode cX12_ahead 16 = .ok (.i2l, 1) := by decide +kernel
theorem dX12_ahead_17 : decode cX12_ahead 17 = .ok (.lconst 0, 1) := by decide +kernel
theorem dX12_ahead_18 : decode cX12_ahead 18 = .ok (.ldc2_w 241, 3) := by decide +kernel
theorem dX12_ahead_21 : decode cX12_ahead 21 = .ok (.invokestatic 57, 3) := by decide +kernel
theorem dX12_ahead_24 : decode cX12_ahead 24 = .ok (.ifCond .ne 6, 3) := by decide +kernel
theorem dX12_ahead_27 : decode cX12_ahead 27 = .ok (.ldc 67, 2) := by decide +kernel
theorem dX12_ahead_29 : decode cX12_ahead 29 = .ok (.ireturn, 1) := by decide +kernel
theorem dX12_ahead_30 : decode cX12_ahead 30 = .ok (.aload_n 0, 1) := by decide +kernel
theorem dX12_ahead_31 : decode cX12_ahead 31 = .ok (.invokevirtual 243, 3) := by decide +kernel
theorem dX12_ahead_34 : decode cX12_ahead 34 = .ok (.iconst 0, 1) := by decide +kernel
theorem dX12_ahead_35 : decode cX12_ahead 35 = .ok (.istore_n 2, 1) := by decide +kernel
theorem dX12_ahead_36 : decode cX12_ahead 36 = .ok (.iload_n 2, 1) := by decide +kernel
theorem dX12_ahead_37 : decode cX12_ahead 37 = .ok (.iload_n 1, 1) := by decide +kernel
theorem dX12_ahead_38 : decode cX12_ahead 38 = .ok (.if_icmp .ge 16, 3) := by decide +kernel
theorem dX12_ahead_41 : decode cX12_ahead 41 = .ok (.aload_n 0, 1) := by decide +kernel
theorem dX12_ahead_42 : decode cX12_ahead 42 = .ok (.getfield 25, 3) := by decide +kernel
theorem dX12_ahead_45 : decode cX12_ahead 45 = .ok (.invokestatic 227, 3) := by decide +kernel
theorem dX12_ahead_48 : decode cX12_ahead 48 = .ok (.iinc 2 1, 3) := by decide +kernel
theorem dX12_ahead_51 : decode cX12_ahead 51 = .ok (.goto (-15), 3) := by decide +kernel
theorem dX12_ahead_54 : decode cX12_ahead 54 = .ok (.aload_n 0, 1) := by decide +kernel
theorem dX12_ahead_55 : decode cX12_ahead 55 = .ok (.getfield 25, 3) := by decide +kernel
theorem dX12_ahead_58 : decode cX12_ahead 58 = .ok (.invokestatic 221, 3) := by decide +kernel
theorem dX12_ahead_61 : decode cX12_ahead 61 = .ok (.ireturn, 1) := by decide +kernel
theorem dX12_lost_0 : decode cX12_lost 0 = .ok (.aload_n 0, 1) := by decide +kernel
theorem dX12_lost_1 : decode cX12_lost 1 = .ok (.iconst 0, 1) := by decide +kernel
theorem dX12_lost_2 : decode cX12_lost 2 = .ok (.putfield 47, 3) := by decide +kernel
theorem dX12_lost_5 : decode cX12_lost 5 = .ok (.aload_n 0, 1) := by decide +kernel
theorem dX12_lost_6 : decode cX12_lost 6 = .ok (.iload_n 1, 1) := by decide +kernel
theorem dX12_lost_7 : decode cX12_lost 7 = .ok (.invokevirtual 233, 3) := by decide +kernel
theorem dX12_lost_10 : decode cX12_lost 10 = .ok (.ifCond .ne 6, 3) := by decide +kernel
theorem dX12_lost_13 : decode cX12_lost 13 = .ok (.ldc 67, 2) := by decide +kernel
theorem dX12_lost_15 : decode cX12_lost 15 = .ok (.ireturn, 1) := by decide +kernel
theorem dX12_lost_16 : decode cX12_lost 16 = .ok (.aload_n 0, 1) := by decide +kernel
theorem dX12_lost_17 : decode cX12_lost 17 = .ok (.invokevirtual 243, 3) := by decide +kernel
theorem dX12_lost_20 : decode cX12_lost 20 = .ok (.iconst 0, 1) := by decide +kernel
theorem dX12_lost_21 : decode cX12_lost 21 = .ok (.istore_n 2, 1) := by decide +kernel
theorem dX12_lost_22 : decode cX12_lost 22 = .ok (.iload_n 2, 1) := by decide +kernel
theorem dX12_lost_23 : decode cX12_lost 23 = .ok (.bipush 61, 2) := by decide +kernel
theorem dX12_lost_25 : decode cX12_lost 25 = .ok (.if_icmp .ge 32, 3) := by decide +kernel
theorem dX12_lost_28 : decode cX12_lost 28 = .ok (.aload_n 0, 1) := by decide +kernel
theorem dX12_lost_29 : decode cX12_lost 29 = .ok (.getfield 25, 3) := by decide +kernel
theorem dX12_lost_32 : decode cX12_lost 32 = .ok (.invokestatic 221, 3) := by decide +kernel
theorem dX12_lost_35 : decode cX12_lost 35 = .ok (.iload_n 1, 1) := by decide +kernel
theorem dX12_lost_36 : decode cX12_lost 36 = .ok (.invokestatic 153, 3) := by decide +kernel
theorem dX12_lost_39 : decode cX12_lost 39 = .ok (.ifCond .ne 5, 3) := by decide +kernel
theorem dX12_lost_42 : decode cX12_lost 42 = .ok (.iload_n 2, 1) := by decide +kernel
theorem dX12_lost_43 : decode cX12_lost 43 = .ok (.ireturn, 1) := by decide +kernel
theorem dX12_lost_44 : decode cX12_lost 44 = .ok (.aload_n 0, 1) := by decide +kernel
theorem dX12_lost_45 : decode cX12_lost 45 = .ok (.getfield 25, 3) := by decide +kernel
theorem dX12_lost_48 : decode cX12_lost 48 = .ok (.invokestatic 227, 3) := by decide +kernel
theorem dX12_lost_51 : decode cX12_lost 51 = .ok (.iinc 2 1, 3) := by decide +kernel
theorem dX12_lost_54 : decode cX12_lost 54 = .ok (.goto (-32), 3) := by decide +kernel
theorem dX12_lost_57 : decode cX12_lost 57 = .ok (.ldc 90, 2) := by decide +kernel
theorem dX12_lost_59 : decode cX12_lost 59 = .ok (.ireturn, 1) := by decide +kernel
theorem dX12_goes_0 : decode cX12_goes 0 = .ok (.aload_n 0, 1) := by decide +kernel
theorem dX12_goes_1 : decode cX12_goes 1 = .ok (.iconst 0, 1) := by decide +kernel
theorem dX12_goes_2 : decode cX12_goes 2 = .ok (.putfield 47, 3) := by decide +kernel
theorem dX12_goes_5 : decode cX12_goes 5 = .ok (.aload_n 0, 1) := by decide +kernel
theorem dX12_goes_6 : decode cX12_goes 6 = .ok (.invokevirtual 203, 3) := by decide +kernel
theorem dX12_goes_9 : decode cX12_goes 9 = .ok (.ifCond .ne 6, 3) := by decide +kernel
theorem dX12_goes_12 : decode cX12_goes 12 = .ok (.ldc 206, 2) := by decide +kernel
theorem dX12_goes_14 : decode cX12_goes 14 = .ok (.ireturn, 1) := by decide +kernel
theorem dX12_goes_15 : decode cX12_goes 15 = .ok (.iload_n 1, 1) := by decide +kernel
theorem dX12_goes_16 : decode cX12_goes 16 = .ok (.i2l, 1) := by decide +kernel
theorem dX12_goes_17 : decode cX12_goes 17 = .ok (.invokestatic 207, 3) := by decide +kernel
theorem dX12_goes_20 : decode cX12_goes 20 = .ok (.ifCond .eq 13, 3) := by decide +kernel
theorem dX12_goes_23 : decode cX12_goes 23 = .ok (.iload_n 2, 1) := by decide +kernel
theorem dX12_goes_24 : decode cX12_goes 24 = .ok (.i2l, 1) := by decide +kernel
theorem dX12_goes_25 : decode cX12_goes 25 = .ok (.lconst 0, 1) := by decide +kernel
theorem dX12_goes_26 : decode cX12_goes 26 = .ok (.lconst 1, 1) := by decide +kernel
theorem dX12_goes_27 : decode cX12_goes 27 = .ok (.invokestatic 57, 3) := by decide +kernel
theorem dX12_goes_30 : decode cX12_goes 30 = .ok (.ifCond .ne 6, 3) := by decide +kernel
theorem dX12_goes_33 : decode cX12_goes 33 = .ok (.ldc 67, 2) := by decide +kernel
theorem dX12_goes_35 : decode cX12_goes 35 = .ok (.ireturn, 1) := by decide +kernel
theorem dX12_goes_36 : decode cX12_goes 36 = .ok (.aload_n 0, 1) := by decide +kernel
theorem dX12_goes_37 : decode cX12_goes 37 = .ok (.aload_n 0, 1) := by decide +kernel
theorem dX12_goes_38 : decode cX12_goes 38 = .ok (.getfield 19, 3) := by decide +kernel
theorem dX12_goes_41 : decode cX12_goes 41 = .ok (.bipush 6, 2) := by decide +kernel
theorem dX12_goes_43 : decode cX12_goes 43 = .ok (.iaload, 1) := by decide +kernel
theorem dX12_goes_44 : decode cX12_goes 44 = .ok (.iload_n 1, 1) := by decide +kernel
theorem dX12_goes_45 : decode cX12_goes 45 = .ok (.invokevirtual 176, 3) := by decide +kernel
theorem dX12_goes_48 : decode cX12_goes 48 = .ok (.aload_n 0, 1) := by decide +kernel
theorem dX12_goes_49 : decode cX12_goes 49 = .ok (.getfield 170, 3) := by decide +kernel
theorem dX12_goes_52 : decode cX12_goes 52 = .ok (.ldc 90, 2) := by decide +kernel
theorem dX12_goes_54 : decode cX12_goes 54 = .ok (.if_icmp .eq 7, 3) := by decide +kernel
theorem dX12_goes_57 : decode cX12_goes 57 = .ok (.iload_n 2, 1) := by decide +kernel
theorem dX12_goes_58 : decode cX12_goes 58 = .ok (.ifCond .ne 10, 3) := by decide +kernel
theorem dX12_goes_61 : decode cX12_goes 61 = .ok (.aload_n 0, 1) := by decide +kernel
theorem dX12_goes_62 : decode cX12_goes 62 = .ok (.getfield 170, 3) := by decide +kernel
theorem dX12_goes_65 : decode cX12_goes 65 = .ok (.goto 7, 3) := by decide +kernel
theorem dX12_goes_68 : decode cX12_goes 68 = .ok (.aload_n 0, 1) := by decide +kernel
theorem dX12_goes_69 : decode cX12_goes 69 = .ok (.getfield 164, 3) := by decide +kernel
theorem dX12_goes_72 : decode cX12_goes 72 = .ok (.ireturn, 1) := by decide +kernel
theorem dX12_comesThrough_0 : decode cX12_comesThrough 0 = .ok (.aload_n 0, 1) := by decide +kernel
theorem dX12_comesThrough_1 : decode cX12_comesThrough 1 = .ok (.aload_n 0, 1) := by decide +kernel
theorem dX12_comesThrough_2 : decode cX12_comesThrough 2 = .ok (.invokevirtual 157, 3) := by decide +kernel
theorem dX12_comesThrough_5 : decode cX12_comesThrough 5 = .ok (.iload_n 1, 1) := by decide +kernel
theorem dX12_comesThrough_6 : decode cX12_comesThrough 6 = .ok (.iconst (-1), 1) := by decide +kernel
theorem dX12_comesThrough_7 : decode cX12_comesThrough 7 = .ok (.ixor, 1) := by decide +kernel
theorem dX12_comesThrough_8 : decode cX12_comesThrough 8 = .ok (.iand, 1) := by decide +kernel
theorem dX12_comesThrough_9 : decode cX12_comesThrough 9 = .ok (.invokevirtual 161, 3) := by decide +kernel
theorem dX12_comesThrough_12 : decode cX12_comesThrough 12 = .ok (.aload_n 0, 1) := by decide +kernel
theorem dX12_comesThrough_13 : decode cX12_comesThrough 13 = .ok (.getfield 34, 3) := by decide +kernel
theorem dX12_comesThrough_16 : decode cX12_comesThrough 16 = .ok (.iload_n 2, 1) := by decide +kernel
theorem dX12_comesThrough_17 : decode cX12_comesThrough 17 = .ok (.iaload, 1) := by decide +kernel
theorem dX12_comesThrough_18 : decode cX12_comesThrough 18 = .ok (.ldc 90, 2) := by decide +kernel
theorem dX12_comesThrough_20 : decode cX12_comesThrough 20 = .ok (.if_icmp .eq 7, 3) := by decide +kernel
theorem dX12_comesThrough_23 : decode cX12_comesThrough 23 = .ok (.iconst 1, 1) := by decide +kernel
theorem dX12_comesThrough_24 : decode cX12_comesThrough 24 = .ok (.goto 4, 3) := by decide +kernel
theorem dX12_comesThrough_27 : decode cX12_comesThrough 27 = .ok (.iconst 0, 1) := by decide +kernel
theorem dX12_comesThrough_28 : decode cX12_comesThrough 28 = .ok (.ireturn, 1) := by decide +kernel
theorem dX12_stop_0 : decode cX12_stop 0 = .ok (.aload_n 0, 1) := by decide +kernel
theorem dX12_stop_1 : decode cX12_stop 1 = .ok (.iconst 0, 1) := by decide +kernel
theorem dX12_stop_2 : decode cX12_stop 2 = .ok (.putfield 47, 3) := by decide +kernel
theorem dX12_stop_5 : decode cX12_stop 5 = .ok (.aload_n 0, 1) := by decide +kernel
theorem dX12_stop_6 : decode cX12_stop 6 = .ok (.invokevirtual 203, 3) := by decide +kernel
theorem dX12_stop_9 : decode cX12_stop 9 = .ok (.ifCond .ne 6, 3) := by decide +kernel
theorem dX12_stop_12 : decode cX12_stop 12 = .ok (.ldc 206, 2) := by decide +kernel
theorem dX12_stop_14 : decode cX12_stop 14 = .ok (.ireturn, 1) := by decide +kernel
theorem dX12_stop_15 : decode cX12_stop 15 = .ok (.iload_n 1, 1) := by decide +kernel
theorem dX12_stop_16 : decode cX12_stop 16 = .ok (.i2l, 1) := by decide +kernel
theorem dX12_stop_17 : decode cX12_stop 17 = .ok (.invokestatic 207, 3) := by decide +kernel
theorem dX12_stop_20 : decode cX12_stop 20 = .ok (.ifCond .eq 13, 3) := by decide +kernel
theorem dX12_stop_23 : decode cX12_stop 23 = .ok (.iload_n 2, 1) := by decide +kernel
theorem dX12_stop_24 : decode cX12_stop 24 = .ok (.i2l, 1) := by decide +kernel
theorem dX12_stop_25 : decode cX12_stop 25 = .ok (.lconst 0, 1) := by decide +kernel
theorem dX12_stop_26 : decode cX12_stop 26 = .ok (.lconst 1, 1) := by decide +kernel
theorem dX12_stop_27 : decode cX12_stop 27 = .ok (.invokestatic 57, 3) := by decide +kernel
theorem dX12_stop_30 : decode cX12_stop 30 = .ok (.ifCond .ne 6, 3) := by decide +kernel
theorem dX12_stop_33 : decode cX12_stop 33 = .ok (.ldc 67, 2) := by decide +kernel
theorem dX12_stop_35 : decode cX12_stop 35 = .ok (.ireturn, 1) := by decide +kernel
theorem dX12_stop_36 : decode cX12_stop 36 = .ok (.iload_n 1, 1) := by decide +kernel
theorem dX12_stop_37 : decode cX12_stop 37 = .ok (.aload_n 0, 1) := by decide +kernel
theorem dX12_stop_38 : decode cX12_stop 38 = .ok (.getfield 19, 3) := by decide +kernel
theorem dX12_stop_41 : decode cX12_stop 41 = .ok (.iconst 1, 1) := by decide +kernel
theorem dX12_stop_42 : decode cX12_stop 42 = .ok (.iaload, 1) := by decide +kernel
theorem dX12_stop_43 : decode cX12_stop 43 = .ok (.if_icmp .ne 6, 3) := by decide +kernel
theorem dX12_stop_46 : decode cX12_stop 46 = .ok (.ldc 90, 2) := by decide +kernel
theorem dX12_stop_48 : decode cX12_stop 48 = .ok (.ireturn, 1) := by decide +kernel
theorem dX12_stop_49 : decode cX12_stop 49 = .ok (.ldc 90, 2) := by decide +kernel
theorem dX12_stop_51 : decode cX12_stop 51 = .ok (.istore_n 3, 1) := by decide +kernel
theorem dX12_stop_52 : decode cX12_stop 52 = .ok (.iconst 0, 1) := by decide +kernel
theorem dX12_stop_53 : decode cX12_stop 53 = .ok (.istore 4, 2) := by decide +kernel
theorem dX12_stop_55 : decode cX12_stop 55 = .ok (.iload 4, 2) := by decide +kernel
theorem dX12_stop_57 : decode cX12_stop 57 = .ok (.aload_n 0, 1) := by decide +kernel
theorem dX12_stop_58 : decode cX12_stop 58 = .ok (.invokevirtual 157, 3) := by decide +kernel
theorem dX12_stop_61 : decode cX12_stop 61 = .ok (.if_icmp .gt 77, 3) := by decide +kernel
theorem dX12_stop_64 : decode cX12_stop 64 = .ok (.iload 4, 2) := by decide +kernel
theorem dX12_stop_66 : decode cX12_stop 66 = .ok (.aload_n 0, 1) := by decide +kernel
theorem dX12_stop_67 : decode cX12_stop 67 = .ok (.getfield 19, 3) := by decide +kernel
theorem dX12_stop_70 : decode cX12_stop 70 = .ok (.bipush 6, 2) := by decide +kernel
theorem dX12_stop_72 : decode cX12_stop 72 = .ok (.iaload, 1) := by decide +kernel
theorem dX12_stop_73 : decode cX12_stop 73 = .ok (.iand, 1) := by decide +kernel
theorem dX12_stop_74 : decode cX12_stop 74 = .ok (.ifCond .ne 25, 3) := by decide +kernel
theorem dX12_stop_77 : decode cX12_stop 77 = .ok (.iload_n 3, 1) := by decide +kernel
theorem dX12_stop_78 : decode cX12_stop 78 = .ok (.ldc 90, 2) := by decide +kernel
theorem dX12_stop_80 : decode cX12_stop 80 = .ok (.if_icmp .eq 15, 3) := by decide +kernel
theorem dX12_stop_83 : decode cX12_stop 83 = .ok (.iload 4, 2) := by decide +kernel
theorem dX12_stop_85 : decode cX12_stop 85 = .ok (.invokestatic 246, 3) := by decide +kernel
theorem dX12_stop_88 : decode cX12_stop 88 = .ok (.iload_n 3, 1) := by decide +kernel
theorem dX12_stop_89 : decode cX12_stop 89 = .ok (.invokestatic 246, 3) := by decide +kernel
theorem dX12_stop_92 : decode cX12_stop 92 = .ok (.if_icmp .ge 7, 3) := by decide +kernel
theorem dX12_stop_95 : decode cX12_stop 95 = .ok (.iconst 1, 1) := by decide +kernel
theorem dX12_stop_96 : decode cX12_stop 96 = .ok (.goto 4, 3) := by decide +kernel
theorem dX12_stop_99 : decode cX12_stop 99 = .ok (.iconst 0, 1) := by decide +kernel
theorem dX12_stop_100 : decode cX12_stop 100 = .ok (.istore 5, 2) := by decide +kernel
theorem dX12_stop_102 : decode cX12_stop 102 = .ok (.iload 5, 2) := by decide +kernel
theorem dX12_stop_104 : decode cX12_stop 104 = .ok (.ifCond .eq 26, 3) := by decide +kernel
theorem dX12_stop_107 : decode cX12_stop 107 = .ok (.aload_n 0, 1) := by decide +kernel
theorem dX12_stop_108 : decode cX12_stop 108 = .ok (.aload_n 0, 1) := by decide +kernel
theorem dX12_stop_109 : decode cX12_stop 109 = .ok (.getfield 19, 3) := by decide +kernel
theorem dX12_stop_112 : decode cX12_stop 112 = .ok (.bipush 6, 2) := by decide +kernel
theorem dX12_stop_114 : decode cX12_stop 114 = .ok (.iaload, 1) := by decide +kernel
theorem dX12_stop_115 : decode cX12_stop 115 = .ok (.iload 4, 2) := by decide +kernel
theorem dX12_stop_117 : decode cX12_stop 117 = .ok (.ior, 1) := by decide +kernel
theorem dX12_stop_118 : decode cX12_stop 118 = .ok (.iload_n 1, 1) := by decide +kernel
theorem dX12_stop_119 : decode cX12_stop 119 = .ok (.invokevirtual 249, 3) := by decide +kernel
theorem dX12_stop_122 : decode cX12_stop 122 = .ok (.ifCond .ne 8, 3) := by decide +kernel
theorem dX12_stop_125 : decode cX12_stop 125 = .ok (.iload 4, 2) := by decide +kernel
theorem dX12_stop_127 : decode cX12_stop 127 = .ok (.goto 4, 3) := by decide +kernel
theorem dX12_stop_130 : decode cX12_stop 130 = .ok (.iload_n 3, 1) := by decide +kernel
theorem dX12_stop_131 : decode cX12_stop 131 = .ok (.istore_n 3, 1) := by decide +kernel
theorem dX12_stop_132 : decode cX12_stop 132 = .ok (.iinc 4 1, 3) := by decide +kernel
theorem dX12_stop_135 : decode cX12_stop 135 = .ok (.goto (-80), 3) := by decide +kernel
theorem dX12_stop_138 : decode cX12_stop 138 = .ok (.iload_n 2, 1) := by decide +kernel
theorem dX12_stop_139 : decode cX12_stop 139 = .ok (.ifCond .ne 10, 3) := by decide +kernel
theorem dX12_stop_142 : decode cX12_stop 142 = .ok (.iload_n 3, 1) := by decide +kernel
theorem dX12_stop_143 : decode cX12_stop 143 = .ok (.invokestatic 246, 3) := by decide +kernel
theorem dX12_stop_146 : decode cX12_stop 146 = .ok (.goto 4, 3) := by decide +kernel
theorem dX12_stop_149 : decode cX12_stop 149 = .ok (.iload_n 3, 1) := by decide +kernel
theorem dX12_stop_150 : decode cX12_stop 150 = .ok (.ireturn, 1) := by decide +kernel
theorem dX12_must__0 : decode cX12_must_ 0 = .ok (.aload_n 0, 1) := by decide +kernel
theorem dX12_must__1 : decode cX12_must_ 1 = .ok (.iconst 0, 1) := by decide +kernel
theorem dX12_must__2 : decode cX12_must_ 2 = .ok (.putfield 47, 3) := by decide +kernel
theorem dX12_must__5 : decode cX12_must_ 5 = .ok (.aload_n 0, 1) := by decide +kernel
theorem dX12_must__6 : decode cX12_must_ 6 = .ok (.invokevirtual 203, 3) := by decide +kernel
theorem dX12_must__9 : decode cX12_must_ 9 = .ok (.ifCond .ne 6, 3) := by decide +kernel
theorem dX12_must__12 : decode cX12_must_ 12 = .ok (.ldc 206, 2) := by decide +kernel
theorem dX12_must__14 : decode cX12_must_ 14 = .ok (.ireturn, 1) := by decide +kernel
theorem dX12_must__15 : decode cX12_must_ 15 = .ok (.iload_n 1, 1) := by decide +kernel
theorem dX12_must__16 : decode cX12_must_ 16 = .ok (.i2l, 1) := by decide +kernel
theorem dX12_must__17 : decode cX12_must_ 17 = .ok (.invokestatic 207, 3) := by decide +kernel
theorem dX12_must__20 : decode cX12_must_ 20 = .ok (.ifCond .ne 6, 3) := by decide +kernel
theorem dX12_must__23 : decode cX12_must_ 23 = .ok (.ldc 67, 2) := by decide +kernel
theorem dX12_must__25 : decode cX12_must_ 25 = .ok (.ireturn, 1) := by decide +kernel
theorem dX12_must__26 : decode cX12_must_ 26 = .ok (.iconst 0, 1) := by decide +kernel
theorem dX12_must__27 : decode cX12_must_ 27 = .ok (.istore_n 2, 1) := by decide +kernel
theorem dX12_must__28 : decode cX12_must_ 28 = .ok (.aload_n 0, 1) := by decide +kernel
theorem dX12_must__29 : decode cX12_must_ 29 = .ok (.aload_n 0, 1) := by decide +kernel
theorem dX12_must__30 : decode cX12_must_ 30 = .ok (.getfield 19, 3) := by decide +kernel
theorem dX12_must__33 : decode cX12_must_ 33 = .ok (.bipush 6, 2) := by decide +kernel
theorem dX12_must__35 : decode cX12_must_ 35 = .ok (.iaload, 1) := by decide +kernel
theorem dX12_must__36 : decode cX12_must_ 36 = .ok (.iload_n 1, 1) := by decide +kernel
theorem dX12_must__37 : decode cX12_must_ 37 = .ok (.invokevirtual 211, 3) := by decide +kernel
theorem dX12_must__40 : decode cX12_must_ 40 = .ok (.istore_n 3, 1) := by decide +kernel
theorem dX12_must__41 : decode cX12_must_ 41 = .ok (.iconst 0, 1) := by decide +kernel
theorem dX12_must__42 : decode cX12_must_ 42 = .ok (.istore 4, 2) := by decide +kernel
theorem dX12_must__44 : decode cX12_must_ 44 = .ok (.iload 4, 2) := by decide +kernel
theorem dX12_must__46 : decode cX12_must_ 46 = .ok (.aload_n 0, 1) := by decide +kernel
theorem dX12_must__47 : decode cX12_must_ 47 = .ok (.getfield 19, 3) := by decide +kernel
theorem dX12_must__50 : decode cX12_must_ 50 = .ok (.iconst 3, 1) := by decide +kernel
theorem dX12_must__51 : decode cX12_must_ 51 = .ok (.iaload, 1) := by decide +kernel
theorem dX12_must__52 : decode cX12_must_ 52 = .ok (.if_icmp .ge 59, 3) := by decide +kernel
theorem dX12_must__55 : decode cX12_must_ 55 = .ok (.iload_n 3, 1) := by decide +kernel
theorem dX12_must__56 : decode cX12_must_ 56 = .ok (.ifCond .eq 55, 3) := by decide +kernel
theorem dX12_must__59 : decode cX12_must_ 59 = .ok (.iload_n 2, 1) := by decide +kernel
theorem dX12_must__60 : decode cX12_must_ 60 = .ok (.aload_n 0, 1) := by decide +kernel
theorem dX12_must__61 : decode cX12_must_ 61 = .ok (.getfield 19, 3) := by decide +kernel
theorem dX12_must__64 : decode cX12_must_ 64 = .ok (.bipush 6, 2) := by decide +kernel
theorem dX12_must__66 : decode cX12_must_ 66 = .ok (.iaload, 1) := by decide +kernel
theorem dX12_must__67 : decode cX12_must_ 67 = .ok (.iload 4, 2) := by decide +kernel
theorem dX12_must__69 : decode cX12_must_ 69 = .ok (.invokestatic 153, 3) := by decide +kernel
theorem dX12_must__72 : decode cX12_must_ 72 = .ok (.ifCond .ne 30, 3) := by decide +kernel
theorem dX12_must__75 : decode cX12_must_ 75 = .ok (.aload_n 0, 1) := by decide +kernel
theorem dX12_must__76 : decode cX12_must_ 76 = .ok (.aload_n 0, 1) := by decide +kernel
theorem dX12_must__77 : decode cX12_must_ 77 = .ok (.getfield 19, 3) := by decide +kernel
theorem dX12_must__80 : decode cX12_must_ 80 = .ok (.bipush 6, 2) := by decide +kernel
theorem dX12_must__82 : decode cX12_must_ 82 = .ok (.iaload, 1) := by decide +kernel
theorem dX12_must__83 : decode cX12_must_ 83 = .ok (.iconst 1, 1) := by decide +kernel
theorem dX12_must__84 : decode cX12_must_ 84 = .ok (.iload 4, 2) := by decide +kernel
theorem dX12_must__86 : decode cX12_must_ 86 = .ok (.ishl, 1) := by decide +kernel
theorem dX12_must__87 : decode cX12_must_ 87 = .ok (.ior, 1) := by decide +kernel
theorem dX12_must__88 : decode cX12_must_ 88 = .ok (.iload_n 1, 1) := by decide +kernel
theorem dX12_must__89 : decode cX12_must_ 89 = .ok (.invokevirtual 249, 3) := by decide +kernel
theorem dX12_must__92 : decode cX12_must_ 92 = .ok (.ifCond .ne 10, 3) := by decide +kernel
theorem dX12_must__95 : decode cX12_must_ 95 = .ok (.iconst 1, 1) := by decide +kernel
theorem dX12_must__96 : decode cX12_must_ 96 = .ok (.iload 4, 2) := by decide +kernel
theorem dX12_must__98 : decode cX12_must_ 98 = .ok (.ishl, 1) := by decide +kernel
theorem dX12_must__99 : decode cX12_must_ 99 = .ok (.goto 4, 3) := by decide +kernel
theorem dX12_must__102 : decode cX12_must_ 102 = .ok (.iconst 0, 1) := by decide +kernel
theorem dX12_must__103 : decode cX12_must_ 103 = .ok (.ior, 1) := by decide +kernel
theorem dX12_must__104 : decode cX12_must_ 104 = .ok (.istore_n 2, 1) := by decide +kernel
theorem dX12_must__105 : decode cX12_must_ 105 = .ok (.iinc 4 1, 3) := by decide +kernel
theorem dX12_must__108 : decode cX12_must_ 108 = .ok (.goto (-64), 3) := by decide +kernel
theorem dX12_must__111 : decode cX12_must_ 111 = .ok (.iload_n 2, 1) := by decide +kernel
theorem dX12_must__112 : decode cX12_must_ 112 = .ok (.ireturn, 1) := by decide +kernel
theorem dX12_live_0 : decode cX12_live 0 = .ok (.aload_n 0, 1) := by decide +kernel
theorem dX12_live_1 : decode cX12_live 1 = .ok (.iconst 0, 1) := by decide +kernel
theorem dX12_live_2 : decode cX12_live 2 = .ok (.putfield 47, 3) := by decide +kernel
theorem dX12_live_5 : decode cX12_live 5 = .ok (.aload_n 0, 1) := by decide +kernel
theorem dX12_live_6 : decode cX12_live 6 = .ok (.invokevirtual 203, 3) := by decide +kernel
theorem dX12_live_9 : decode cX12_live 9 = .ok (.ifCond .ne 6, 3) := by decide +kernel
theorem dX12_live_12 : decode cX12_live 12 = .ok (.ldc 206, 2) := by decide +kernel
theorem dX12_live_14 : decode cX12_live 14 = .ok (.ireturn, 1) := by decide +kernel
theorem dX12_live_15 : decode cX12_live 15 = .ok (.iload_n 1, 1) := by decide +kernel
theorem dX12_live_16 : decode cX12_live 16 = .ok (.i2l, 1) := by decide +kernel
theorem dX12_live_17 : decode cX12_live 17 = .ok (.lconst 0, 1) := by decide +kernel
theorem dX12_live_18 : decode cX12_live 18 = .ok (.aload_n 0, 1) := by decide +kernel
theorem dX12_live_19 : decode cX12_live 19 = .ok (.invokevirtual 157, 3) := by decide +kernel
theorem dX12_live_22 : decode cX12_live 22 = .ok (.i2l, 1) := by decide +kernel
theorem dX12_live_23 : decode cX12_live 23 = .ok (.invokestatic 57, 3) := by decide +kernel
theorem dX12_live_26 : decode cX12_live 26 = .ok (.ifCond .eq 13, 3) := by decide +kernel
theorem dX12_live_29 : decode cX12_live 29 = .ok (.iload_n 2, 1) := by decide +kernel
theorem dX12_live_30 : decode cX12_live 30 = .ok (.i2l, 1) := by decide +kernel
theorem dX12_live_31 : decode cX12_live 31 = .ok (.lconst 0, 1) := by decide +kernel
theorem dX12_live_32 : decode cX12_live 32 = .ok (.lconst 1, 1) := by decide +kernel
theorem dX12_live_33 : decode cX12_live 33 = .ok (.invokestatic 57, 3) := by decide +kernel
theorem dX12_live_36 : decode cX12_live 36 = .ok (.ifCond .ne 6, 3) := by decide +kernel
theorem dX12_live_39 : decode cX12_live 39 = .ok (.ldc 67, 2) := by decide +kernel
theorem dX12_live_41 : decode cX12_live 41 = .ok (.ireturn, 1) := by decide +kernel
theorem dX12_live_42 : decode cX12_live 42 = .ok (.ldc 90, 2) := by decide +kernel
theorem dX12_live_44 : decode cX12_live 44 = .ok (.istore_n 3, 1) := by decide +kernel
theorem dX12_live_45 : decode cX12_live 45 = .ok (.iconst 0, 1) := by decide +kernel
theorem dX12_live_46 : decode cX12_live 46 = .ok (.istore 4, 2) := by decide +kernel
theorem dX12_live_48 : decode cX12_live 48 = .ok (.iload 4, 2) := by decide +kernel
theorem dX12_live_50 : decode cX12_live 50 = .ok (.iconst 1, 1) := by decide +kernel
theorem dX12_live_51 : decode cX12_live 51 = .ok (.aload_n 0, 1) := by decide +kernel
theorem dX12_live_52 : decode cX12_live 52 = .ok (.getfield 19, 3) := by decide +kernel
theorem dX12_live_55 : decode cX12_live 55 = .ok (.iconst 4, 1) := by decide +kernel
theorem dX12_live_56 : decode cX12_live 56 = .ok (.iaload, 1) := by decide +kernel
theorem dX12_live_57 : decode cX12_live 57 = .ok (.ishl, 1) := by decide +kernel
theorem dX12_live_58 : decode cX12_live 58 = .ok (.if_icmp .ge 148, 3) := by decide +kernel
theorem dX12_live_61 : decode cX12_live 61 = .ok (.iconst 0, 1) := by decide +kernel
theorem dX12_live_62 : decode cX12_live 62 = .ok (.istore 5, 2) := by decide +kernel
theorem dX12_live_64 : decode cX12_live 64 = .ok (.iconst 1, 1) := by decide +kernel
theorem dX12_live_65 : decode cX12_live 65 = .ok (.istore 6, 2) := by decide +kernel
theorem dX12_live_67 : decode cX12_live 67 = .ok (.iconst 0, 1) := by decide +kernel
theorem dX12_live_68 : decode cX12_live 68 = .ok (.istore 7, 2) := by decide +kernel
theorem dX12_live_70 : decode cX12_live 70 = .ok (.iload 7, 2) := by decide +kernel
theorem dX12_live_72 : decode cX12_live 72 = .ok (.aload_n 0, 1) := by decide +kernel
theorem dX12_live_73 : decode cX12_live 73 = .ok (.getfield 19, 3) := by decide +kernel
theorem dX12_live_76 : decode cX12_live 76 = .ok (.iconst 4, 1) := by decide +kernel
theorem dX12_live_77 : decode cX12_live 77 = .ok (.iaload, 1) := by decide +kernel
theorem dX12_live_78 : decode cX12_live 78 = .ok (.if_icmp .ge 71, 3) := by decide +kernel
theorem dX12_live_81 : decode cX12_live 81 = .ok (.iload 5, 2) := by decide +kernel
theorem dX12_live_83 : decode cX12_live 83 = .ok (.iload 4, 2) := by decide +kernel
theorem dX12_live_85 : decode cX12_live 85 = .ok (.iload 7, 2) := by decide +kernel
theorem dX12_live_87 : decode cX12_live 87 = .ok (.invokestatic 153, 3) := by decide +kernel
theorem dX12_live_90 : decode cX12_live 90 = .ok (.ifCond .eq 15, 3) := by decide +kernel
theorem dX12_live_93 : decode cX12_live 93 = .ok (.aload_n 0, 1) := by decide +kernel
theorem dX12_live_94 : decode cX12_live 94 = .ok (.getfield 19, 3) := by decide +kernel
theorem dX12_live_97 : decode cX12_live 97 = .ok (.iload 7, 2) := by decide +kernel
theorem dX12_live_99 : decode cX12_live 99 = .ok (.invokestatic 195, 3) := by decide +kernel
theorem dX12_live_102 : decode cX12_live 102 = .ok (.goto 4, 3) := by decide +kernel
theorem dX12_live_105 : decode cX12_live 105 = .ok (.iconst 0, 1) := by decide +kernel
theorem dX12_live_106 : decode cX12_live 106 = .ok (.ior, 1) := by decide +kernel
theorem dX12_live_107 : decode cX12_live 107 = .ok (.istore 5, 2) := by decide +kernel
theorem dX12_live_109 : decode cX12_live 109 = .ok (.iload 6, 2) := by decide +kernel
theorem dX12_live_111 : decode cX12_live 111 = .ok (.ifCond .eq 29, 3) := by decide +kernel
theorem dX12_live_114 : decode cX12_live 114 = .ok (.iload 4, 2) := by decide +kernel
theorem dX12_live_116 : decode cX12_live 116 = .ok (.iload 7, 2) := by decide +kernel
theorem dX12_live_118 : decode cX12_live 118 = .ok (.invokestatic 153, 3) := by decide +kernel
theorem dX12_live_121 : decode cX12_live 121 = .ok (.ifCond .eq 15, 3) := by decide +kernel
theorem dX12_live_124 : decode cX12_live 124 = .ok (.aload_n 0, 1) := by decide +kernel
theorem dX12_live_125 : decode cX12_live 125 = .ok (.getfield 19, 3) := by decide +kernel
theorem dX12_live_128 : decode cX12_live 128 = .ok (.iload 7, 2) := by decide +kernel
theorem dX12_live_130 : decode cX12_live 130 = .ok (.invokestatic 191, 3) := by decide +kernel
theorem dX12_live_133 : decode cX12_live 133 = .ok (.ifCond .eq 7, 3) := by decide +kernel
theorem dX12_live_136 : decode cX12_live 136 = .ok (.iconst 1, 1) := by decide +kernel
theorem dX12_live_137 : decode cX12_live 137 = .ok (.goto 4, 3) := by decide +kernel
theorem dX12_live_140 : decode cX12_live 140 = .ok (.iconst 0, 1) := by decide +kernel
theorem dX12_live_141 : decode cX12_live 141 = .ok (.istore 6, 2) := by decide +kernel
theorem dX12_live_143 : decode cX12_live 143 = .ok (.iinc 7 1, 3) := by decide +kernel
theorem dX12_live_146 : decode cX12_live 146 = .ok (.goto (-76), 3) := by decide +kernel
theorem dX12_live_149 : decode cX12_live 149 = .ok (.iload_n 3, 1) := by decide +kernel
theorem dX12_live_150 : decode cX12_live 150 = .ok (.ldc 90, 2) := by decide +kernel
theorem dX12_live_152 : decode cX12_live 152 = .ok (.if_icmp .eq 15, 3) := by decide +kernel
theorem dX12_live_155 : decode cX12_live 155 = .ok (.iload 4, 2) := by decide +kernel
theorem dX12_live_157 : decode cX12_live 157 = .ok (.invokestatic 246, 3) := by decide +kernel
theorem dX12_live_160 : decode cX12_live 160 = .ok (.iload_n 3, 1) := by decide +kernel
theorem dX12_live_161 : decode cX12_live 161 = .ok (.invokestatic 246, 3) := by decide +kernel
theorem dX12_live_164 : decode cX12_live 164 = .ok (.if_icmp .ge 7, 3) := by decide +kernel
theorem dX12_live_167 : decode cX12_live 167 = .ok (.iconst 1, 1) := by decide +kernel
theorem dX12_live_168 : decode cX12_live 168 = .ok (.goto 4, 3) := by decide +kernel
theorem dX12_live_171 : decode cX12_live 171 = .ok (.iconst 0, 1) := by decide +kernel
theorem dX12_live_172 : decode cX12_live 172 = .ok (.istore 7, 2) := by decide +kernel
theorem dX12_live_174 : decode cX12_live 174 = .ok (.iload 7, 2) := by decide +kernel
theorem dX12_live_176 : decode cX12_live 176 = .ok (.ifCond .eq 22, 3) := by decide +kernel
theorem dX12_live_179 : decode cX12_live 179 = .ok (.iload 6, 2) := by decide +kernel
theorem dX12_live_181 : decode cX12_live 181 = .ok (.ifCond .eq 17, 3) := by decide +kernel
theorem dX12_live_184 : decode cX12_live 184 = .ok (.iload_n 1, 1) := by decide +kernel
theorem dX12_live_185 : decode cX12_live 185 = .ok (.iload 5, 2) := by decide +kernel
theorem dX12_live_187 : decode cX12_live 187 = .ok (.iconst (-1), 1) := by decide +kernel
theorem dX12_live_188 : decode cX12_live 188 = .ok (.ixor, 1) := by decide +kernel
theorem dX12_live_189 : decode cX12_live 189 = .ok (.iand, 1) := by decide +kernel
theorem dX12_live_190 : decode cX12_live 190 = .ok (.ifCond .ne 8, 3) := by decide +kernel
theorem dX12_live_193 : decode cX12_live 193 = .ok (.iload 4, 2) := by decide +kernel
theorem dX12_live_195 : decode cX12_live 195 = .ok (.goto 4, 3) := by decide +kernel
theorem dX12_live_198 : decode cX12_live 198 = .ok (.iload_n 3, 1) := by decide +kernel
theorem dX12_live_199 : decode cX12_live 199 = .ok (.istore_n 3, 1) := by decide +kernel
theorem dX12_live_200 : decode cX12_live 200 = .ok (.iinc 4 1, 3) := by decide +kernel
theorem dX12_live_203 : decode cX12_live 203 = .ok (.goto (-155), 3) := by decide +kernel
theorem dX12_live_206 : decode cX12_live 206 = .ok (.iload_n 3, 1) := by decide +kernel
theorem dX12_live_207 : decode cX12_live 207 = .ok (.ldc 90, 2) := by decide +kernel
theorem dX12_live_209 : decode cX12_live 209 = .ok (.if_icmp .eq 8, 3) := by decide +kernel
theorem dX12_live_212 : decode cX12_live 212 = .ok (.iload_n 2, 1) := by decide +kernel
theorem dX12_live_213 : decode cX12_live 213 = .ok (.iconst 1, 1) := by decide +kernel
theorem dX12_live_214 : decode cX12_live 214 = .ok (.if_icmp .ne 7, 3) := by decide +kernel
theorem dX12_live_217 : decode cX12_live 217 = .ok (.iload_n 3, 1) := by decide +kernel
theorem dX12_live_218 : decode cX12_live 218 = .ok (.goto 7, 3) := by decide +kernel
theorem dX12_live_221 : decode cX12_live 221 = .ok (.iload_n 3, 1) := by decide +kernel
theorem dX12_live_222 : decode cX12_live 222 = .ok (.invokestatic 246, 3) := by decide +kernel
theorem dX12_live_225 : decode cX12_live 225 = .ok (.ireturn, 1) := by decide +kernel
theorem dX12_waysBehind_0 : decode cX12_waysBehind 0 = .ok (.aload_n 0, 1) := by decide +kernel
theorem dX12_waysBehind_1 : decode cX12_waysBehind 1 = .ok (.aload_n 0, 1) := by decide +kernel
theorem dX12_waysBehind_2 : decode cX12_waysBehind 2 = .ok (.getfield 19, 3) := by decide +kernel
theorem dX12_waysBehind_5 : decode cX12_waysBehind 5 = .ok (.bipush 6, 2) := by decide +kernel
theorem dX12_waysBehind_7 : decode cX12_waysBehind 7 = .ok (.iaload, 1) := by decide +kernel
theorem dX12_waysBehind_8 : decode cX12_waysBehind 8 = .ok (.iload_n 1, 1) := by decide +kernel
theorem dX12_waysBehind_9 : decode cX12_waysBehind 9 = .ok (.invokevirtual 211, 3) := by decide +kernel
theorem dX12_waysBehind_12 : decode cX12_waysBehind 12 = .ok (.ifCond .ne 6, 3) := by decide +kernel
theorem dX12_waysBehind_15 : decode cX12_waysBehind 15 = .ok (.ldc 90, 2) := by decide +kernel
theorem dX12_waysBehind_17 : decode cX12_waysBehind 17 = .ok (.ireturn, 1) := by decide +kernel
theorem dX12_waysBehind_18 : decode cX12_waysBehind 18 = .ok (.aload_n 0, 1) := by decide +kernel
theorem dX12_waysBehind_19 : decode cX12_waysBehind 19 = .ok (.invokevirtual 243, 3) := by decide +kernel
theorem dX12_waysBehind_22 : decode cX12_waysBehind 22 = .ok (.aload_n 0, 1) := by decide +kernel
theorem dX12_waysBehind_23 : decode cX12_waysBehind 23 = .ok (.aload_n 0, 1) := by decide +kernel
theorem dX12_waysBehind_24 : decode cX12_waysBehind 24 = .ok (.getfield 25, 3) := by decide +kernel
theorem dX12_waysBehind_27 : decode cX12_waysBehind 27 = .ok (.invokevirtual 217, 3) := by decide +kernel
theorem dX12_waysBehind_30 : decode cX12_waysBehind 30 = .ok (.aload_n 0, 1) := by decide +kernel
theorem dX12_waysBehind_31 : decode cX12_waysBehind 31 = .ok (.getfield 25, 3) := by decide +kernel
theorem dX12_waysBehind_34 : decode cX12_waysBehind 34 = .ok (.invokestatic 221, 3) := by decide +kernel
theorem dX12_waysBehind_37 : decode cX12_waysBehind 37 = .ok (.ireturn, 1) := by decide +kernel
theorem dX12_makesBy_0 : decode cX12_makesBy 0 = .ok (.aload_n 0, 1) := by decide +kernel
theorem dX12_makesBy_1 : decode cX12_makesBy 1 = .ok (.iload_n 1, 1) := by decide +kernel
theorem dX12_makesBy_2 : decode cX12_makesBy 2 = .ok (.invokevirtual 252, 3) := by decide +kernel
theorem dX12_makesBy_5 : decode cX12_makesBy 5 = .ok (.istore_n 2, 1) := by decide +kernel
theorem dX12_makesBy_6 : decode cX12_makesBy 6 = .ok (.iload_n 2, 1) := by decide +kernel
theorem dX12_makesBy_7 : decode cX12_makesBy 7 = .ok (.ldc 90, 2) := by decide +kernel
theorem dX12_makesBy_9 : decode cX12_makesBy 9 = .ok (.if_icmp .ne 8, 3) := by decide +kernel
theorem dX12_makesBy_12 : decode cX12_makesBy 12 = .ok (.ldc 90, 2) := by decide +kernel
theorem dX12_makesBy_14 : decode cX12_makesBy 14 = .ok (.goto 17, 3) := by decide +kernel
theorem dX12_makesBy_17 : decode cX12_makesBy 17 = .ok (.iload_n 2, 1) := by decide +kernel
theorem dX12_makesBy_18 : decode cX12_makesBy 18 = .ok (.aload_n 0, 1) := by decide +kernel
theorem dX12_makesBy_19 : decode cX12_makesBy 19 = .ok (.getfield 19, 3) := by decide +kernel
theorem dX12_makesBy_22 : decode cX12_makesBy 22 = .ok (.invokestatic 221, 3) := by decide +kernel
theorem dX12_makesBy_25 : decode cX12_makesBy 25 = .ok (.iconst (-1), 1) := by decide +kernel
theorem dX12_makesBy_26 : decode cX12_makesBy 26 = .ok (.ixor, 1) := by decide +kernel
theorem dX12_makesBy_27 : decode cX12_makesBy 27 = .ok (.iand, 1) := by decide +kernel
theorem dX12_makesBy_28 : decode cX12_makesBy 28 = .ok (.invokestatic 246, 3) := by decide +kernel
theorem dX12_makesBy_31 : decode cX12_makesBy 31 = .ok (.ireturn, 1) := by decide +kernel
theorem dX12_makes_0 : decode cX12_makes 0 = .ok (.aload_n 0, 1) := by decide +kernel
theorem dX12_makes_1 : decode cX12_makes 1 = .ok (.iconst 0, 1) := by decide +kernel
theorem dX12_makes_2 : decode cX12_makes 2 = .ok (.putfield 47, 3) := by decide +kernel
theorem dX12_makes_5 : decode cX12_makes 5 = .ok (.aload_n 0, 1) := by decide +kernel
theorem dX12_makes_6 : decode cX12_makes 6 = .ok (.invokevirtual 203, 3) := by decide +kernel
theorem dX12_makes_9 : decode cX12_makes 9 = .ok (.ifCond .ne 6, 3) := by decide +kernel
theorem dX12_makes_12 : decode cX12_makes 12 = .ok (.ldc 206, 2) := by decide +kernel
theorem dX12_makes_14 : decode cX12_makes 14 = .ok (.ireturn, 1) := by decide +kernel
theorem dX12_makes_15 : decode cX12_makes 15 = .ok (.iload_n 1, 1) := by decide +kernel
theorem dX12_makes_16 : decode cX12_makes 16 = .ok (.i2l, 1) := by decide +kernel
theorem dX12_makes_17 : decode cX12_makes 17 = .ok (.invokestatic 207, 3) := by decide +kernel
theorem dX12_makes_20 : decode cX12_makes 20 = .ok (.ifCond .eq 11, 3) := by decide +kernel
theorem dX12_makes_23 : decode cX12_makes 23 = .ok (.aload_n 0, 1) := by decide +kernel
theorem dX12_makes_24 : decode cX12_makes 24 = .ok (.iload_n 1, 1) := by decide +kernel
theorem dX12_makes_25 : decode cX12_makes 25 = .ok (.invokevirtual 255, 3) := by decide +kernel
theorem dX12_makes_28 : decode cX12_makes 28 = .ok (.goto 5, 3) := by decide +kernel
theorem dX12_makes_31 : decode cX12_makes 31 = .ok (.ldc 67, 2) := by decide +kernel
theorem dX12_makes_33 : decode cX12_makes 33 = .ok (.ireturn, 1) := by decide +kernel
theorem dX12_best_0 : decode cX12_best 0 = .ok (.aload_n 0, 1) := by decide +kernel
theorem dX12_best_1 : decode cX12_best 1 = .ok (.iconst 0, 1) := by decide +kernel
theorem dX12_best_2 : decode cX12_best 2 = .ok (.putfield 47, 3) := by decide +kernel
theorem dX12_best_5 : decode cX12_best 5 = .ok (.aload_n 0, 1) := by decide +kernel
theorem dX12_best_6 : decode cX12_best 6 = .ok (.invokevirtual 203, 3) := by decide +kernel
theorem dX12_best_9 : decode cX12_best 9 = .ok (.ifCond .ne 6, 3) := by decide +kernel
theorem dX12_best_12 : decode cX12_best 12 = .ok (.ldc 206, 2) := by decide +kernel
theorem dX12_best_14 : decode cX12_best 14 = .ok (.ireturn, 1) := by decide +kernel
theorem dX12_best_15 : decode cX12_best 15 = .ok (.iload_n 1, 1) := by decide +kernel
theorem dX12_best_16 : decode cX12_best 16 = .ok (.i2l, 1) := by decide +kernel
theorem dX12_best_17 : decode cX12_best 17 = .ok (.lconst 0, 1) := by decide +kernel
theorem dX12_best_18 : decode cX12_best 18 = .ok (.lconst 1, 1) := by decide +kernel
theorem dX12_best_19 : decode cX12_best 19 = .ok (.invokestatic 57, 3) := by decide +kernel
theorem dX12_best_22 : decode cX12_best 22 = .ok (.ifCond .ne 6, 3) := by decide +kernel
theorem dX12_best_25 : decode cX12_best 25 = .ok (.ldc 67, 2) := by decide +kernel
theorem dX12_best_27 : decode cX12_best 27 = .ok (.ireturn, 1) := by decide +kernel
theorem dX12_best_28 : decode cX12_best 28 = .ok (.ldc 90, 2) := by decide +kernel
theorem dX12_best_30 : decode cX12_best 30 = .ok (.istore_n 2, 1) := by decide +kernel
theorem dX12_best_31 : decode cX12_best 31 = .ok (.ldc 90, 2) := by decide +kernel
theorem dX12_best_33 : decode cX12_best 33 = .ok (.istore_n 3, 1) := by decide +kernel
theorem dX12_best_34 : decode cX12_best 34 = .ok (.iconst 0, 1) := by decide +kernel
theorem dX12_best_35 : decode cX12_best 35 = .ok (.istore 4, 2) := by decide +kernel
theorem dX12_best_37 : decode cX12_best 37 = .ok (.iload 4, 2) := by decide +kernel
theorem dX12_best_39 : decode cX12_best 39 = .ok (.bipush 8, 2) := by decide +kernel
theorem dX12_best_41 : decode cX12_best 41 = .ok (.if_icmp .ge 43, 3) := by decide +kernel
theorem dX12_best_44 : decode cX12_best 44 = .ok (.aload_n 0, 1) := by decide +kernel
theorem dX12_best_45 : decode cX12_best 45 = .ok (.iload 4, 2) := by decide +kernel
theorem dX12_best_47 : decode cX12_best 47 = .ok (.invokevirtual 255, 3) := by decide +kernel
theorem dX12_best_50 : decode cX12_best 50 = .ok (.istore 5, 2) := by decide +kernel
theorem dX12_best_52 : decode cX12_best 52 = .ok (.iload 5, 2) := by decide +kernel
theorem dX12_best_54 : decode cX12_best 54 = .ok (.iload_n 3, 1) := by decide +kernel
theorem dX12_best_55 : decode cX12_best 55 = .ok (.if_icmp .le 8, 3) := by decide +kernel
theorem dX12_best_58 : decode cX12_best 58 = .ok (.iload 4, 2) := by decide +kernel
theorem dX12_best_60 : decode cX12_best 60 = .ok (.goto 4, 3) := by decide +kernel
theorem dX12_best_63 : decode cX12_best 63 = .ok (.iload_n 2, 1) := by decide +kernel
theorem dX12_best_64 : decode cX12_best 64 = .ok (.istore_n 2, 1) := by decide +kernel
theorem dX12_best_65 : decode cX12_best 65 = .ok (.iload 5, 2) := by decide +kernel
theorem dX12_best_67 : decode cX12_best 67 = .ok (.iload_n 3, 1) := by decide +kernel
theorem dX12_best_68 : decode cX12_best 68 = .ok (.if_icmp .le 8, 3) := by decide +kernel
theorem dX12_best_71 : decode cX12_best 71 = .ok (.iload 5, 2) := by decide +kernel
theorem dX12_best_73 : decode cX12_best 73 = .ok (.goto 4, 3) := by decide +kernel
theorem dX12_best_76 : decode cX12_best 76 = .ok (.iload_n 3, 1) := by decide +kernel
theorem dX12_best_77 : decode cX12_best 77 = .ok (.istore_n 3, 1) := by decide +kernel
theorem dX12_best_78 : decode cX12_best 78 = .ok (.iinc 4 1, 3) := by decide +kernel
theorem dX12_best_81 : decode cX12_best 81 = .ok (.goto (-44), 3) := by decide +kernel
theorem dX12_best_84 : decode cX12_best 84 = .ok (.iload_n 1, 1) := by decide +kernel
theorem dX12_best_85 : decode cX12_best 85 = .ok (.ifCond .ne 7, 3) := by decide +kernel
theorem dX12_best_88 : decode cX12_best 88 = .ok (.iload_n 2, 1) := by decide +kernel
theorem dX12_best_89 : decode cX12_best 89 = .ok (.goto 4, 3) := by decide +kernel
theorem dX12_best_92 : decode cX12_best 92 = .ok (.iload_n 3, 1) := by decide +kernel
theorem dX12_best_93 : decode cX12_best 93 = .ok (.ireturn, 1) := by decide +kernel
theorem dX12_from_0 : decode cX12_from 0 = .ok (.aload_n 0, 1) := by decide +kernel
theorem dX12_from_1 : decode cX12_from 1 = .ok (.iconst 0, 1) := by decide +kernel
theorem dX12_from_2 : decode cX12_from 2 = .ok (.putfield 47, 3) := by decide +kernel
theorem dX12_from_5 : decode cX12_from 5 = .ok (.aload_n 0, 1) := by decide +kernel
theorem dX12_from_6 : decode cX12_from 6 = .ok (.invokevirtual 203, 3) := by decide +kernel
theorem dX12_from_9 : decode cX12_from 9 = .ok (.ifCond .ne 6, 3) := by decide +kernel
theorem dX12_from_12 : decode cX12_from 12 = .ok (.ldc 206, 2) := by decide +kernel
theorem dX12_from_14 : decode cX12_from 14 = .ok (.ireturn, 1) := by decide +kernel
theorem dX12_from_15 : decode cX12_from 15 = .ok (.iload_n 1, 1) := by decide +kernel
theorem dX12_from_16 : decode cX12_from 16 = .ok (.invokestatic 61, 3) := by decide +kernel
theorem dX12_from_19 : decode cX12_from 19 = .ok (.ifCond .ne 6, 3) := by decide +kernel
theorem dX12_from_22 : decode cX12_from 22 = .ok (.ldc 67, 2) := by decide +kernel
theorem dX12_from_24 : decode cX12_from 24 = .ok (.ireturn, 1) := by decide +kernel
theorem dX12_from_25 : decode cX12_from 25 = .ok (.aload_n 0, 1) := by decide +kernel
theorem dX12_from_26 : decode cX12_from 26 = .ok (.getfield 7, 3) := by decide +kernel
theorem dX12_from_29 : decode cX12_from 29 = .ok (.iload_n 1, 1) := by decide +kernel
theorem dX12_from_30 : decode cX12_from 30 = .ok (.iaload, 1) := by decide +kernel
theorem dX12_from_31 : decode cX12_from 31 = .ok (.ifCond .ge 9, 3) := by decide +kernel
theorem dX12_from_34 : decode cX12_from 34 = .ok (.aload_n 0, 1) := by decide +kernel
theorem dX12_from_35 : decode cX12_from 35 = .ok (.iconst 1, 1) := by decide +kernel
theorem dX12_from_36 : decode cX12_from 36 = .ok (.invokevirtual 68, 3) := by decide +kernel
theorem dX12_from_39 : decode cX12_from 39 = .ok (.ireturn, 1) := by decide +kernel
theorem dX12_from_40 : decode cX12_from 40 = .ok (.iload_n 2, 1) := by decide +kernel
theorem dX12_from_41 : decode cX12_from 41 = .ok (.i2l, 1) := by decide +kernel
theorem dX12_from_42 : decode cX12_from 42 = .ok (.lconst 0, 1) := by decide +kernel
theorem dX12_from_43 : decode cX12_from 43 = .ok (.aload_n 0, 1) := by decide +kernel
theorem dX12_from_44 : decode cX12_from 44 = .ok (.getfield 13, 3) := by decide +kernel
theorem dX12_from_47 : decode cX12_from 47 = .ok (.iload_n 1, 1) := by decide +kernel
theorem dX12_from_48 : decode cX12_from 48 = .ok (.iaload, 1) := by decide +kernel
theorem dX12_from_49 : decode cX12_from 49 = .ok (.iconst 1, 1) := by decide +kernel
theorem dX12_from_50 : decode cX12_from 50 = .ok (.isub, 1) := by decide +kernel
theorem dX12_from_51 : decode cX12_from 51 = .ok (.i2l, 1) := by decide +kernel
theorem dX12_from_52 : decode cX12_from 52 = .ok (.invokestatic 57, 3) := by decide +kernel
theorem dX12_from_55 : decode cX12_from 55 = .ok (.ifCond .ne 9, 3) := by decide +kernel
theorem dX12_from_58 : decode cX12_from 58 = .ok (.aload_n 0, 1) := by decide +kernel
theorem dX12_from_59 : decode cX12_from 59 = .ok (.iconst 2, 1) := by decide +kernel
theorem dX12_from_60 : decode cX12_from 60 = .ok (.invokevirtual 68, 3) := by decide +kernel
theorem dX12_from_63 : decode cX12_from 63 = .ok (.ireturn, 1) := by decide +kernel
theorem dX12_from_64 : decode cX12_from 64 = .ok (.aload_n 0, 1) := by decide +kernel
theorem dX12_from_65 : decode cX12_from 65 = .ok (.iconst 0, 1) := by decide +kernel
theorem dX12_from_66 : decode cX12_from 66 = .ok (.putfield 51, 3) := by decide +kernel
theorem dX12_from_69 : decode cX12_from 69 = .ok (.iconst 0, 1) := by decide +kernel
theorem dX12_from_70 : decode cX12_from 70 = .ok (.istore_n 3, 1) := by decide +kernel
theorem dX12_from_71 : decode cX12_from 71 = .ok (.iconst 0, 1) := by decide +kernel
theorem dX12_from_72 : decode cX12_from 72 = .ok (.istore 4, 2) := by decide +kernel
theorem dX12_from_74 : decode cX12_from 74 = .ok (.iload 4, 2) := by decide +kernel
theorem dX12_from_76 : decode cX12_from 76 = .ok (.bipush 8, 2) := by decide +kernel
theorem dX12_from_78 : decode cX12_from 78 = .ok (.if_icmp .ge 51, 3) := by decide +kernel
theorem dX12_from_81 : decode cX12_from 81 = .ok (.aload_n 0, 1) := by decide +kernel
theorem dX12_from_82 : decode cX12_from 82 = .ok (.iload 4, 2) := by decide +kernel
theorem dX12_from_84 : decode cX12_from 84 = .ok (.invokevirtual 252, 3) := by decide +kernel
theorem dX12_from_87 : decode cX12_from 87 = .ok (.istore 5, 2) := by decide +kernel
theorem dX12_from_89 : decode cX12_from 89 = .ok (.iload_n 3, 1) := by decide +kernel
theorem dX12_from_90 : decode cX12_from 90 = .ok (.iload 5, 2) := by decide +kernel
theorem dX12_from_92 : decode cX12_from 92 = .ok (.ldc 90, 2) := by decide +kernel
end
section
theorem dX12_from_94 : decode cX12_from 94 = .ok (.if_icmp .eq 26, 3) := by decide +kernel
theorem dX12_from_97 : decode cX12_from 97 = .ok (.iload 5, 2) := by decide +kernel
theorem dX12_from_99 : decode cX12_from 99 = .ok (.aload_n 0, 1) := by decide +kernel
theorem dX12_from_100 : decode cX12_from 100 = .ok (.getfield 16, 3) := by decide +kernel
theorem dX12_from_103 : decode cX12_from 103 = .ok (.bipush 40, 2) := by decide +kernel
theorem dX12_from_105 : decode cX12_from 105 = .ok (.iload_n 1, 1) := by decide +kernel
theorem dX12_from_106 : decode cX12_from 106 = .ok (.imul, 1) := by decide +kernel
theorem dX12_from_107 : decode cX12_from 107 = .ok (.iload_n 2, 1) := by decide +kernel
theorem dX12_from_108 : decode cX12_from 108 = .ok (.iadd, 1) := by decide +kernel
theorem dX12_from_109 : decode cX12_from 109 = .ok (.iaload, 1) := by decide +kernel
theorem dX12_from_110 : decode cX12_from 110 = .ok (.if_icmp .ne 10, 3) := by decide +kernel
theorem dX12_from_113 : decode cX12_from 113 = .ok (.iconst 1, 1) := by decide +kernel
theorem dX12_from_114 : decode cX12_from 114 = .ok (.iload 4, 2) := by decide +kernel
theorem dX12_from_116 : decode cX12_from 116 = .ok (.ishl, 1) := by decide +kernel
theorem dX12_from_117 : decode cX12_from 117 = .ok (.goto 4, 3) := by decide +kernel
theorem dX12_from_120 : decode cX12_from 120 = .ok (.iconst 0, 1) := by decide +kernel
theorem dX12_from_121 : decode cX12_from 121 = .ok (.ior, 1) := by decide +kernel
theorem dX12_from_122 : decode cX12_from 122 = .ok (.istore_n 3, 1) := by decide +kernel
theorem dX12_from_123 : decode cX12_from 123 = .ok (.iinc 4 1, 3) := by decide +kernel
theorem dX12_from_126 : decode cX12_from 126 = .ok (.goto (-52), 3) := by decide +kernel
theorem dX12_from_129 : decode cX12_from 129 = .ok (.iload_n 3, 1) := by decide +kernel
theorem dX12_from_130 : decode cX12_from 130 = .ok (.ireturn, 1) := by decide +kernel
theorem dX12_who_0 : decode cX12_who 0 = .ok (.aload_n 0, 1) := by decide +kernel
theorem dX12_who_1 : decode cX12_who 1 = .ok (.iconst 0, 1) := by decide +kernel
theorem dX12_who_2 : decode cX12_who 2 = .ok (.putfield 47, 3) := by decide +kernel
theorem dX12_who_5 : decode cX12_who 5 = .ok (.aload_n 0, 1) := by decide +kernel
theorem dX12_who_6 : decode cX12_who 6 = .ok (.iload_n 1, 1) := by decide +kernel
theorem dX12_who_7 : decode cX12_who 7 = .ok (.invokevirtual 236, 3) := by decide +kernel
theorem dX12_who_10 : decode cX12_who 10 = .ok (.ifCond .eq 23, 3) := by decide +kernel
theorem dX12_who_13 : decode cX12_who 13 = .ok (.iload_n 2, 1) := by decide +kernel
theorem dX12_who_14 : decode cX12_who 14 = .ok (.invokestatic 61, 3) := by decide +kernel
theorem dX12_who_17 : decode cX12_who 17 = .ok (.ifCond .eq 16, 3) := by decide +kernel
theorem dX12_who_20 : decode cX12_who 20 = .ok (.iload 4, 2) := by decide +kernel
theorem dX12_who_22 : decode cX12_who 22 = .ok (.i2l, 1) := by decide +kernel
theorem dX12_who_23 : decode cX12_who 23 = .ok (.lconst 1, 1) := by decide +kernel
theorem dX12_who_24 : decode cX12_who 24 = .ok (.ldc2_w 239, 3) := by decide +kernel
theorem dX12_who_27 : decode cX12_who 27 = .ok (.invokestatic 57, 3) := by decide +kernel
theorem dX12_who_30 : decode cX12_who 30 = .ok (.ifCond .ne 6, 3) := by decide +kernel
theorem dX12_who_33 : decode cX12_who 33 = .ok (.ldc 67, 2) := by decide +kernel
theorem dX12_who_35 : decode cX12_who 35 = .ok (.ireturn, 1) := by decide +kernel
theorem dX12_who_36 : decode cX12_who 36 = .ok (.aload_n 0, 1) := by decide +kernel
theorem dX12_who_37 : decode cX12_who 37 = .ok (.getfield 7, 3) := by decide +kernel
theorem dX12_who_40 : decode cX12_who 40 = .ok (.iload_n 2, 1) := by decide +kernel
theorem dX12_who_41 : decode cX12_who 41 = .ok (.iaload, 1) := by decide +kernel
theorem dX12_who_42 : decode cX12_who 42 = .ok (.ifCond .ge 9, 3) := by decide +kernel
theorem dX12_who_45 : decode cX12_who 45 = .ok (.aload_n 0, 1) := by decide +kernel
theorem dX12_who_46 : decode cX12_who 46 = .ok (.iconst 1, 1) := by decide +kernel
theorem dX12_who_47 : decode cX12_who 47 = .ok (.invokevirtual 68, 3) := by decide +kernel
theorem dX12_who_50 : decode cX12_who 50 = .ok (.ireturn, 1) := by decide +kernel
theorem dX12_who_51 : decode cX12_who 51 = .ok (.iload_n 3, 1) := by decide +kernel
theorem dX12_who_52 : decode cX12_who 52 = .ok (.ifCond .lt 22, 3) := by decide +kernel
theorem dX12_who_55 : decode cX12_who 55 = .ok (.iload_n 3, 1) := by decide +kernel
theorem dX12_who_56 : decode cX12_who 56 = .ok (.i2l, 1) := by decide +kernel
theorem dX12_who_57 : decode cX12_who 57 = .ok (.iconst 2, 1) := by decide +kernel
theorem dX12_who_58 : decode cX12_who 58 = .ok (.iload 4, 2) := by decide +kernel
theorem dX12_who_60 : decode cX12_who 60 = .ok (.imul, 1) := by decide +kernel
theorem dX12_who_61 : decode cX12_who 61 = .ok (.i2l, 1) := by decide +kernel
theorem dX12_who_62 : decode cX12_who 62 = .ok (.ladd, 1) := by decide +kernel
theorem dX12_who_63 : decode cX12_who 63 = .ok (.aload_n 0, 1) := by decide +kernel
theorem dX12_who_64 : decode cX12_who 64 = .ok (.getfield 13, 3) := by decide +kernel
theorem dX12_who_67 : decode cX12_who 67 = .ok (.iload_n 2, 1) := by decide +kernel
theorem dX12_who_68 : decode cX12_who 68 = .ok (.iaload, 1) := by decide +kernel
theorem dX12_who_69 : decode cX12_who 69 = .ok (.i2l, 1) := by decide +kernel
theorem dX12_who_70 : decode cX12_who 70 = .ok (.lcmp, 1) := by decide +kernel
theorem dX12_who_71 : decode cX12_who 71 = .ok (.ifCond .le 9, 3) := by decide +kernel
theorem dX12_who_74 : decode cX12_who 74 = .ok (.aload_n 0, 1) := by decide +kernel
theorem dX12_who_75 : decode cX12_who 75 = .ok (.iconst 2, 1) := by decide +kernel
theorem dX12_who_76 : decode cX12_who 76 = .ok (.invokevirtual 68, 3) := by decide +kernel
theorem dX12_who_79 : decode cX12_who 79 = .ok (.ireturn, 1) := by decide +kernel
theorem dX12_who_80 : decode cX12_who 80 = .ok (.iconst 0, 1) := by decide +kernel
theorem dX12_who_81 : decode cX12_who 81 = .ok (.istore 5, 2) := by decide +kernel
theorem dX12_who_83 : decode cX12_who 83 = .ok (.iload 5, 2) := by decide +kernel
theorem dX12_who_85 : decode cX12_who 85 = .ok (.iload 4, 2) := by decide +kernel
theorem dX12_who_87 : decode cX12_who 87 = .ok (.if_icmp .ge 35, 3) := by decide +kernel
theorem dX12_who_90 : decode cX12_who 90 = .ok (.aload_n 0, 1) := by decide +kernel
theorem dX12_who_91 : decode cX12_who 91 = .ok (.getfield 16, 3) := by decide +kernel
theorem dX12_who_94 : decode cX12_who 94 = .ok (.bipush 40, 2) := by decide +kernel
theorem dX12_who_96 : decode cX12_who 96 = .ok (.iload_n 2, 1) := by decide +kernel
theorem dX12_who_97 : decode cX12_who 97 = .ok (.imul, 1) := by decide +kernel
theorem dX12_who_98 : decode cX12_who 98 = .ok (.iload_n 3, 1) := by decide +kernel
theorem dX12_who_99 : decode cX12_who 99 = .ok (.iadd, 1) := by decide +kernel
theorem dX12_who_100 : decode cX12_who 100 = .ok (.iconst 2, 1) := by decide +kernel
theorem dX12_who_101 : decode cX12_who 101 = .ok (.iload 5, 2) := by decide +kernel
theorem dX12_who_103 : decode cX12_who 103 = .ok (.imul, 1) := by decide +kernel
theorem dX12_who_104 : decode cX12_who 104 = .ok (.iadd, 1) := by decide +kernel
theorem dX12_who_105 : decode cX12_who 105 = .ok (.iaload, 1) := by decide +kernel
theorem dX12_who_106 : decode cX12_who 106 = .ok (.i2l, 1) := by decide +kernel
theorem dX12_who_107 : decode cX12_who 107 = .ok (.invokestatic 207, 3) := by decide +kernel
theorem dX12_who_110 : decode cX12_who 110 = .ok (.ifCond .ne 6, 3) := by decide +kernel
theorem dX12_who_113 : decode cX12_who 113 = .ok (.ldc 67, 2) := by decide +kernel
theorem dX12_who_115 : decode cX12_who 115 = .ok (.ireturn, 1) := by decide +kernel
theorem dX12_who_116 : decode cX12_who 116 = .ok (.iinc 5 1, 3) := by decide +kernel
theorem dX12_who_119 : decode cX12_who 119 = .ok (.goto (-36), 3) := by decide +kernel
theorem dX12_who_122 : decode cX12_who 122 = .ok (.aload_n 0, 1) := by decide +kernel
theorem dX12_who_123 : decode cX12_who 123 = .ok (.iconst 0, 1) := by decide +kernel
theorem dX12_who_124 : decode cX12_who 124 = .ok (.putfield 51, 3) := by decide +kernel
theorem dX12_who_127 : decode cX12_who 127 = .ok (.iconst 0, 1) := by decide +kernel
theorem dX12_who_128 : decode cX12_who 128 = .ok (.istore 5, 2) := by decide +kernel
theorem dX12_who_130 : decode cX12_who 130 = .ok (.iconst 1, 1) := by decide +kernel
theorem dX12_who_131 : decode cX12_who 131 = .ok (.istore 6, 2) := by decide +kernel
theorem dX12_who_133 : decode cX12_who 133 = .ok (.iload 6, 2) := by decide +kernel
theorem dX12_who_135 : decode cX12_who 135 = .ok (.iconst 5, 1) := by decide +kernel
theorem dX12_who_136 : decode cX12_who 136 = .ok (.if_icmp .gt 186, 3) := by decide +kernel
theorem dX12_who_139 : decode cX12_who 139 = .ok (.aload_n 0, 1) := by decide +kernel
theorem dX12_who_140 : decode cX12_who 140 = .ok (.getfield 19, 3) := by decide +kernel
theorem dX12_who_143 : decode cX12_who 143 = .ok (.iload_n 1, 1) := by decide +kernel
theorem dX12_who_144 : decode cX12_who 144 = .ok (.iconst 3, 1) := by decide +kernel
theorem dX12_who_145 : decode cX12_who 145 = .ok (.invokestatic 183, 3) := by decide +kernel
theorem dX12_who_148 : decode cX12_who 148 = .ok (.istore 7, 2) := by decide +kernel
theorem dX12_who_150 : decode cX12_who 150 = .ok (.aload_n 0, 1) := by decide +kernel
theorem dX12_who_151 : decode cX12_who 151 = .ok (.getfield 19, 3) := by decide +kernel
theorem dX12_who_154 : decode cX12_who 154 = .ok (.iload 6, 2) := by decide +kernel
theorem dX12_who_156 : decode cX12_who 156 = .ok (.aload_n 0, 1) := by decide +kernel
theorem dX12_who_157 : decode cX12_who 157 = .ok (.getfield 19, 3) := by decide +kernel
theorem dX12_who_160 : decode cX12_who 160 = .ok (.iload_n 1, 1) := by decide +kernel
theorem dX12_who_161 : decode cX12_who 161 = .ok (.iconst 1, 1) := by decide +kernel
theorem dX12_who_162 : decode cX12_who 162 = .ok (.invokestatic 183, 3) := by decide +kernel
theorem dX12_who_165 : decode cX12_who 165 = .ok (.invokestatic 187, 3) := by decide +kernel
theorem dX12_who_168 : decode cX12_who 168 = .ok (.istore 8, 2) := by decide +kernel
theorem dX12_who_170 : decode cX12_who 170 = .ok (.iconst 1, 1) := by decide +kernel
theorem dX12_who_171 : decode cX12_who 171 = .ok (.istore 9, 2) := by decide +kernel
theorem dX12_who_173 : decode cX12_who 173 = .ok (.iconst 0, 1) := by decide +kernel
theorem dX12_who_174 : decode cX12_who 174 = .ok (.istore 10, 2) := by decide +kernel
theorem dX12_who_176 : decode cX12_who 176 = .ok (.iload 10, 2) := by decide +kernel
theorem dX12_who_178 : decode cX12_who 178 = .ok (.iload 4, 2) := by decide +kernel
theorem dX12_who_180 : decode cX12_who 180 = .ok (.if_icmp .ge 118, 3) := by decide +kernel
theorem dX12_who_183 : decode cX12_who 183 = .ok (.bipush 40, 2) := by decide +kernel
theorem dX12_who_185 : decode cX12_who 185 = .ok (.iload_n 2, 1) := by decide +kernel
theorem dX12_who_186 : decode cX12_who 186 = .ok (.imul, 1) := by decide +kernel
theorem dX12_who_187 : decode cX12_who 187 = .ok (.iload_n 3, 1) := by decide +kernel
theorem dX12_who_188 : decode cX12_who 188 = .ok (.iadd, 1) := by decide +kernel
theorem dX12_who_189 : decode cX12_who 189 = .ok (.iconst 2, 1) := by decide +kernel
theorem dX12_who_190 : decode cX12_who 190 = .ok (.iload 10, 2) := by decide +kernel
theorem dX12_who_192 : decode cX12_who 192 = .ok (.imul, 1) := by decide +kernel
theorem dX12_who_193 : decode cX12_who 193 = .ok (.iadd, 1) := by decide +kernel
theorem dX12_who_194 : decode cX12_who 194 = .ok (.istore 11, 2) := by decide +kernel
theorem dX12_who_196 : decode cX12_who 196 = .ok (.aload_n 0, 1) := by decide +kernel
theorem dX12_who_197 : decode cX12_who 197 = .ok (.aload_n 0, 1) := by decide +kernel
theorem dX12_who_198 : decode cX12_who 198 = .ok (.getfield 19, 3) := by decide +kernel
theorem dX12_who_201 : decode cX12_who 201 = .ok (.bipush 6, 2) := by decide +kernel
theorem dX12_who_203 : decode cX12_who 203 = .ok (.iaload, 1) := by decide +kernel
theorem dX12_who_204 : decode cX12_who 204 = .ok (.aload_n 0, 1) := by decide +kernel
theorem dX12_who_205 : decode cX12_who 205 = .ok (.getfield 16, 3) := by decide +kernel
theorem dX12_who_208 : decode cX12_who 208 = .ok (.iload 11, 2) := by decide +kernel
theorem dX12_who_210 : decode cX12_who 210 = .ok (.iaload, 1) := by decide +kernel
theorem dX12_who_211 : decode cX12_who 211 = .ok (.invokevirtual 211, 3) := by decide +kernel
theorem dX12_who_214 : decode cX12_who 214 = .ok (.istore 12, 2) := by decide +kernel
theorem dX12_who_216 : decode cX12_who 216 = .ok (.iload 7, 2) := by decide +kernel
theorem dX12_who_218 : decode cX12_who 218 = .ok (.iload 12, 2) := by decide +kernel
theorem dX12_who_220 : decode cX12_who 220 = .ok (.ifCond .eq 33, 3) := by decide +kernel
theorem dX12_who_223 : decode cX12_who 223 = .ok (.iload 8, 2) := by decide +kernel
theorem dX12_who_225 : decode cX12_who 225 = .ok (.ifCond .eq 28, 3) := by decide +kernel
theorem dX12_who_228 : decode cX12_who 228 = .ok (.aload_n 0, 1) := by decide +kernel
theorem dX12_who_229 : decode cX12_who 229 = .ok (.iload 6, 2) := by decide +kernel
theorem dX12_who_231 : decode cX12_who 231 = .ok (.aload_n 0, 1) := by decide +kernel
theorem dX12_who_232 : decode cX12_who 232 = .ok (.getfield 19, 3) := by decide +kernel
theorem dX12_who_235 : decode cX12_who 235 = .ok (.iload_n 1, 1) := by decide +kernel
theorem dX12_who_236 : decode cX12_who 236 = .ok (.iconst 2, 1) := by decide +kernel
theorem dX12_who_237 : decode cX12_who 237 = .ok (.invokestatic 183, 3) := by decide +kernel
theorem dX12_who_240 : decode cX12_who 240 = .ok (.aload_n 0, 1) := by decide +kernel
theorem dX12_who_241 : decode cX12_who 241 = .ok (.getfield 19, 3) := by decide +kernel
theorem dX12_who_244 : decode cX12_who 244 = .ok (.bipush 6, 2) := by decide +kernel
theorem dX12_who_246 : decode cX12_who 246 = .ok (.iaload, 1) := by decide +kernel
theorem dX12_who_247 : decode cX12_who 247 = .ok (.invokevirtual 199, 3) := by decide +kernel
theorem dX12_who_250 : decode cX12_who 250 = .ok (.goto 4, 3) := by decide +kernel
theorem dX12_who_253 : decode cX12_who 253 = .ok (.iconst 0, 1) := by decide +kernel
theorem dX12_who_254 : decode cX12_who 254 = .ok (.ior, 1) := by decide +kernel
theorem dX12_who_255 : decode cX12_who 255 = .ok (.istore 7, 2) := by decide +kernel
theorem dX12_who_257 : decode cX12_who 257 = .ok (.iload 9, 2) := by decide +kernel
theorem dX12_who_259 : decode cX12_who 259 = .ok (.ifCond .eq 30, 3) := by decide +kernel
theorem dX12_who_262 : decode cX12_who 262 = .ok (.iload 8, 2) := by decide +kernel
theorem dX12_who_264 : decode cX12_who 264 = .ok (.ifCond .eq 8, 3) := by decide +kernel
theorem dX12_who_267 : decode cX12_who 267 = .ok (.iload 7, 2) := by decide +kernel
theorem dX12_who_269 : decode cX12_who 269 = .ok (.goto 4, 3) := by decide +kernel
theorem dX12_who_272 : decode cX12_who 272 = .ok (.iconst 0, 1) := by decide +kernel
theorem dX12_who_273 : decode cX12_who 273 = .ok (.aload_n 0, 1) := by decide +kernel
theorem dX12_who_274 : decode cX12_who 274 = .ok (.getfield 16, 3) := by decide +kernel
theorem dX12_who_277 : decode cX12_who 277 = .ok (.iload 11, 2) := by decide +kernel
theorem dX12_who_279 : decode cX12_who 279 = .ok (.iconst 1, 1) := by decide +kernel
theorem dX12_who_280 : decode cX12_who 280 = .ok (.iadd, 1) := by decide +kernel
theorem dX12_who_281 : decode cX12_who 281 = .ok (.iaload, 1) := by decide +kernel
theorem dX12_who_282 : decode cX12_who 282 = .ok (.if_icmp .ne 7, 3) := by decide +kernel
theorem dX12_who_285 : decode cX12_who 285 = .ok (.iconst 1, 1) := by decide +kernel
theorem dX12_who_286 : decode cX12_who 286 = .ok (.goto 4, 3) := by decide +kernel
theorem dX12_who_289 : decode cX12_who 289 = .ok (.iconst 0, 1) := by decide +kernel
theorem dX12_who_290 : decode cX12_who 290 = .ok (.istore 9, 2) := by decide +kernel
theorem dX12_who_292 : decode cX12_who 292 = .ok (.iinc 10 1, 3) := by decide +kernel
theorem dX12_who_295 : decode cX12_who 295 = .ok (.goto (-119), 3) := by decide +kernel
theorem dX12_who_298 : decode cX12_who 298 = .ok (.iload 5, 2) := by decide +kernel
theorem dX12_who_300 : decode cX12_who 300 = .ok (.iload 9, 2) := by decide +kernel
theorem dX12_who_302 : decode cX12_who 302 = .ok (.ifCond .eq 10, 3) := by decide +kernel
theorem dX12_who_305 : decode cX12_who 305 = .ok (.iconst 1, 1) := by decide +kernel
theorem dX12_who_306 : decode cX12_who 306 = .ok (.iload 6, 2) := by decide +kernel
theorem dX12_who_308 : decode cX12_who 308 = .ok (.ishl, 1) := by decide +kernel
theorem dX12_who_309 : decode cX12_who 309 = .ok (.goto 4, 3) := by decide +kernel
theorem dX12_who_312 : decode cX12_who 312 = .ok (.iconst 0, 1) := by decide +kernel
theorem dX12_who_313 : decode cX12_who 313 = .ok (.ior, 1) := by decide +kernel
theorem dX12_who_314 : decode cX12_who 314 = .ok (.istore 5, 2) := by decide +kernel
theorem dX12_who_316 : decode cX12_who 316 = .ok (.iinc 6 1, 3) := by decide +kernel
theorem dX12_who_319 : decode cX12_who 319 = .ok (.goto (-186), 3) := by decide +kernel
theorem dX12_who_322 : decode cX12_who 322 = .ok (.iload 5, 2) := by decide +kernel
theorem dX12_who_324 : decode cX12_who 324 = .ok (.ireturn, 1) := by decide +kernel
theorem dX12_far_0 : decode cX12_far 0 = .ok (.aload_n 0, 1) := by decide +kernel
theorem dX12_far_1 : decode cX12_far 1 = .ok (.iconst 0, 1) := by decide +kernel
theorem dX12_far_2 : decode cX12_far 2 = .ok (.putfield 47, 3) := by decide +kernel
theorem dX12_far_5 : decode cX12_far 5 = .ok (.aload_n 0, 1) := by decide +kernel
theorem dX12_far_6 : decode cX12_far 6 = .ok (.invokevirtual 203, 3) := by decide +kernel
theorem dX12_far_9 : decode cX12_far 9 = .ok (.ifCond .ne 6, 3) := by decide +kernel
theorem dX12_far_12 : decode cX12_far 12 = .ok (.ldc 206, 2) := by decide +kernel
theorem dX12_far_14 : decode cX12_far 14 = .ok (.ireturn, 1) := by decide +kernel
theorem dX12_far_15 : decode cX12_far 15 = .ok (.iload_n 1, 1) := by decide +kernel
theorem dX12_far_16 : decode cX12_far 16 = .ok (.i2l, 1) := by decide +kernel
theorem dX12_far_17 : decode cX12_far 17 = .ok (.invokestatic 207, 3) := by decide +kernel
theorem dX12_far_20 : decode cX12_far 20 = .ok (.ifCond .ne 6, 3) := by decide +kernel
theorem dX12_far_23 : decode cX12_far 23 = .ok (.ldc 67, 2) := by decide +kernel
theorem dX12_far_25 : decode cX12_far 25 = .ok (.ireturn, 1) := by decide +kernel
theorem dX12_far_26 : decode cX12_far 26 = .ok (.aload_n 0, 1) := by decide +kernel
theorem dX12_far_27 : decode cX12_far 27 = .ok (.aload_n 0, 1) := by decide +kernel
theorem dX12_far_28 : decode cX12_far 28 = .ok (.invokevirtual 157, 3) := by decide +kernel
theorem dX12_far_31 : decode cX12_far 31 = .ok (.invokevirtual 161, 3) := by decide +kernel
theorem dX12_far_34 : decode cX12_far 34 = .ok (.aload_n 0, 1) := by decide +kernel
theorem dX12_far_35 : decode cX12_far 35 = .ok (.getfield 34, 3) := by decide +kernel
theorem dX12_far_38 : decode cX12_far 38 = .ok (.iload_n 1, 1) := by decide +kernel
theorem dX12_far_39 : decode cX12_far 39 = .ok (.iaload, 1) := by decide +kernel
theorem dX12_far_40 : decode cX12_far 40 = .ok (.ireturn, 1) := by decide +kernel
theorem dX12_pairs_0 : decode cX12_pairs 0 = .ok (.aload_n 0, 1) := by decide +kernel
theorem dX12_pairs_1 : decode cX12_pairs 1 = .ok (.iconst 0, 1) := by decide +kernel
theorem dX12_pairs_2 : decode cX12_pairs 2 = .ok (.putfield 47, 3) := by decide +kernel
theorem dX12_pairs_5 : decode cX12_pairs 5 = .ok (.aload_n 0, 1) := by decide +kernel
theorem dX12_pairs_6 : decode cX12_pairs 6 = .ok (.invokevirtual 203, 3) := by decide +kernel
theorem dX12_pairs_9 : decode cX12_pairs 9 = .ok (.ifCond .ne 6, 3) := by decide +kernel
theorem dX12_pairs_12 : decode cX12_pairs 12 = .ok (.ldc 206, 2) := by decide +kernel
theorem dX12_pairs_14 : decode cX12_pairs 14 = .ok (.ireturn, 1) := by decide +kernel
theorem dX12_pairs_15 : decode cX12_pairs 15 = .ok (.iconst 0, 1) := by decide +kernel
theorem dX12_pairs_16 : decode cX12_pairs 16 = .ok (.istore_n 1, 1) := by decide +kernel
theorem dX12_pairs_17 : decode cX12_pairs 17 = .ok (.iconst 0, 1) := by decide +kernel
theorem dX12_pairs_18 : decode cX12_pairs 18 = .ok (.istore_n 2, 1) := by decide +kernel
theorem dX12_pairs_19 : decode cX12_pairs 19 = .ok (.iload_n 2, 1) := by decide +kernel
theorem dX12_pairs_20 : decode cX12_pairs 20 = .ok (.aload_n 0, 1) := by decide +kernel
theorem dX12_pairs_21 : decode cX12_pairs 21 = .ok (.getfield 19, 3) := by decide +kernel
theorem dX12_pairs_24 : decode cX12_pairs 24 = .ok (.iconst 4, 1) := by decide +kernel
theorem dX12_pairs_25 : decode cX12_pairs 25 = .ok (.iaload, 1) := by decide +kernel
theorem dX12_pairs_26 : decode cX12_pairs 26 = .ok (.if_icmp .ge 67, 3) := by decide +kernel
theorem dX12_pairs_29 : decode cX12_pairs 29 = .ok (.iload_n 2, 1) := by decide +kernel
theorem dX12_pairs_30 : decode cX12_pairs 30 = .ok (.iconst 1, 1) := by decide +kernel
theorem dX12_pairs_31 : decode cX12_pairs 31 = .ok (.iadd, 1) := by decide +kernel
theorem dX12_pairs_32 : decode cX12_pairs 32 = .ok (.istore_n 3, 1) := by decide +kernel
theorem dX12_pairs_33 : decode cX12_pairs 33 = .ok (.iload_n 3, 1) := by decide +kernel
theorem dX12_pairs_34 : decode cX12_pairs 34 = .ok (.aload_n 0, 1) := by decide +kernel
theorem dX12_pairs_35 : decode cX12_pairs 35 = .ok (.getfield 19, 3) := by decide +kernel
theorem dX12_pairs_38 : decode cX12_pairs 38 = .ok (.iconst 4, 1) := by decide +kernel
theorem dX12_pairs_39 : decode cX12_pairs 39 = .ok (.iaload, 1) := by decide +kernel
theorem dX12_pairs_40 : decode cX12_pairs 40 = .ok (.if_icmp .ge 47, 3) := by decide +kernel
theorem dX12_pairs_43 : decode cX12_pairs 43 = .ok (.iload_n 1, 1) := by decide +kernel
theorem dX12_pairs_44 : decode cX12_pairs 44 = .ok (.aload_n 0, 1) := by decide +kernel
theorem dX12_pairs_45 : decode cX12_pairs 45 = .ok (.getfield 19, 3) := by decide +kernel
theorem dX12_pairs_48 : decode cX12_pairs 48 = .ok (.iload_n 2, 1) := by decide +kernel
theorem dX12_pairs_49 : decode cX12_pairs 49 = .ok (.invokestatic 195, 3) := by decide +kernel
theorem dX12_pairs_52 : decode cX12_pairs 52 = .ok (.ifCond .eq 26, 3) := by decide +kernel
theorem dX12_pairs_55 : decode cX12_pairs 55 = .ok (.aload_n 0, 1) := by decide +kernel
theorem dX12_pairs_56 : decode cX12_pairs 56 = .ok (.getfield 19, 3) := by decide +kernel
theorem dX12_pairs_59 : decode cX12_pairs 59 = .ok (.iload_n 2, 1) := by decide +kernel
theorem dX12_pairs_60 : decode cX12_pairs 60 = .ok (.invokestatic 195, 3) := by decide +kernel
theorem dX12_pairs_63 : decode cX12_pairs 63 = .ok (.aload_n 0, 1) := by decide +kernel
theorem dX12_pairs_64 : decode cX12_pairs 64 = .ok (.getfield 19, 3) := by decide +kernel
theorem dX12_pairs_67 : decode cX12_pairs 67 = .ok (.iload_n 3, 1) := by decide +kernel
theorem dX12_pairs_68 : decode cX12_pairs 68 = .ok (.invokestatic 195, 3) := by decide +kernel
theorem dX12_pairs_71 : decode cX12_pairs 71 = .ok (.if_icmp .ne 7, 3) := by decide +kernel
theorem dX12_pairs_74 : decode cX12_pairs 74 = .ok (.iconst 1, 1) := by decide +kernel
theorem dX12_pairs_75 : decode cX12_pairs 75 = .ok (.goto 4, 3) := by decide +kernel
theorem dX12_pairs_78 : decode cX12_pairs 78 = .ok (.iconst 0, 1) := by decide +kernel
theorem dX12_pairs_79 : decode cX12_pairs 79 = .ok (.iadd, 1) := by decide +kernel
theorem dX12_pairs_80 : decode cX12_pairs 80 = .ok (.istore_n 1, 1) := by decide +kernel
theorem dX12_pairs_81 : decode cX12_pairs 81 = .ok (.iinc 3 1, 3) := by decide +kernel
theorem dX12_pairs_84 : decode cX12_pairs 84 = .ok (.goto (-51), 3) := by decide +kernel
theorem dX12_pairs_87 : decode cX12_pairs 87 = .ok (.iinc 2 1, 3) := by decide +kernel
theorem dX12_pairs_90 : decode cX12_pairs 90 = .ok (.goto (-71), 3) := by decide +kernel
theorem dX12_pairs_93 : decode cX12_pairs 93 = .ok (.iload_n 1, 1) := by decide +kernel
theorem dX12_pairs_94 : decode cX12_pairs 94 = .ok (.ireturn, 1) := by decide +kernel
theorem dX12_locked_0 : decode cX12_locked 0 = .ok (.aload_n 0, 1) := by decide +kernel
theorem dX12_locked_1 : decode cX12_locked 1 = .ok (.iconst 0, 1) := by decide +kernel
theorem dX12_locked_2 : decode cX12_locked 2 = .ok (.putfield 47, 3) := by decide +kernel
theorem dX12_locked_5 : decode cX12_locked 5 = .ok (.aload_n 0, 1) := by decide +kernel
theorem dX12_locked_6 : decode cX12_locked 6 = .ok (.invokevirtual 203, 3) := by decide +kernel
theorem dX12_locked_9 : decode cX12_locked 9 = .ok (.ifCond .ne 7, 3) := by decide +kernel
theorem dX12_locked_12 : decode cX12_locked 12 = .ok (.ldc2_w 258, 3) := by decide +kernel
theorem dX12_locked_15 : decode cX12_locked 15 = .ok (.lreturn, 1) := by decide +kernel
theorem dX12_locked_16 : decode cX12_locked 16 = .ok (.iload_n 1, 1) := by decide +kernel
theorem dX12_locked_17 : decode cX12_locked 17 = .ok (.i2l, 1) := by decide +kernel
theorem dX12_locked_18 : decode cX12_locked 18 = .ok (.invokestatic 207, 3) := by decide +kernel
theorem dX12_locked_21 : decode cX12_locked 21 = .ok (.ifCond .eq 25, 3) := by decide +kernel
theorem dX12_locked_24 : decode cX12_locked 24 = .ok (.iload_n 2, 1) := by decide +kernel
theorem dX12_locked_25 : decode cX12_locked 25 = .ok (.i2l, 1) := by decide +kernel
theorem dX12_locked_26 : decode cX12_locked 26 = .ok (.lconst 0, 1) := by decide +kernel
theorem dX12_locked_27 : decode cX12_locked 27 = .ok (.ldc2_w 260, 3) := by decide +kernel
theorem dX12_locked_30 : decode cX12_locked 30 = .ok (.invokestatic 57, 3) := by decide +kernel
theorem dX12_locked_33 : decode cX12_locked 33 = .ok (.ifCond .eq 13, 3) := by decide +kernel
theorem dX12_locked_36 : decode cX12_locked 36 = .ok (.iload_n 3, 1) := by decide +kernel
theorem dX12_locked_37 : decode cX12_locked 37 = .ok (.i2l, 1) := by decide +kernel
theorem dX12_locked_38 : decode cX12_locked 38 = .ok (.lconst 0, 1) := by decide +kernel
theorem dX12_locked_39 : decode cX12_locked 39 = .ok (.lconst 1, 1) := by decide +kernel
theorem dX12_locked_40 : decode cX12_locked 40 = .ok (.invokestatic 57, 3) := by decide +kernel
theorem dX12_locked_43 : decode cX12_locked 43 = .ok (.ifCond .ne 7, 3) := by decide +kernel
theorem dX12_locked_46 : decode cX12_locked 46 = .ok (.ldc2_w 262, 3) := by decide +kernel
theorem dX12_locked_49 : decode cX12_locked 49 = .ok (.lreturn, 1) := by decide +kernel
theorem dX12_locked_50 : decode cX12_locked 50 = .ok (.aload_n 0, 1) := by decide +kernel
theorem dX12_locked_51 : decode cX12_locked 51 = .ok (.invokevirtual 157, 3) := by decide +kernel
theorem dX12_locked_54 : decode cX12_locked 54 = .ok (.aload_n 0, 1) := by decide +kernel
theorem dX12_locked_55 : decode cX12_locked 55 = .ok (.getfield 19, 3) := by decide +kernel
theorem dX12_locked_58 : decode cX12_locked 58 = .ok (.bipush 6, 2) := by decide +kernel
theorem dX12_locked_60 : decode cX12_locked 60 = .ok (.iaload, 1) := by decide +kernel
theorem dX12_locked_61 : decode cX12_locked 61 = .ok (.iconst (-1), 1) := by decide +kernel
theorem dX12_locked_62 : decode cX12_locked 62 = .ok (.ixor, 1) := by decide +kernel
theorem dX12_locked_63 : decode cX12_locked 63 = .ok (.iand, 1) := by decide +kernel
theorem dX12_locked_64 : decode cX12_locked 64 = .ok (.istore 4, 2) := by decide +kernel
theorem dX12_locked_66 : decode cX12_locked 66 = .ok (.lconst 0, 1) := by decide +kernel
theorem dX12_locked_67 : decode cX12_locked 67 = .ok (.lstore 5, 2) := by decide +kernel
theorem dX12_locked_69 : decode cX12_locked 69 = .ok (.lconst 0, 1) := by decide +kernel
theorem dX12_locked_70 : decode cX12_locked 70 = .ok (.lstore 7, 2) := by decide +kernel
theorem dX12_locked_72 : decode cX12_locked 72 = .ok (.iconst 0, 1) := by decide +kernel
theorem dX12_locked_73 : decode cX12_locked 73 = .ok (.istore 9, 2) := by decide +kernel
theorem dX12_locked_75 : decode cX12_locked 75 = .ok (.iload 9, 2) := by decide +kernel
theorem dX12_locked_77 : decode cX12_locked 77 = .ok (.aload_n 0, 1) := by decide +kernel
theorem dX12_locked_78 : decode cX12_locked 78 = .ok (.invokevirtual 157, 3) := by decide +kernel
theorem dX12_locked_81 : decode cX12_locked 81 = .ok (.if_icmp .gt 125, 3) := by decide +kernel
theorem dX12_locked_84 : decode cX12_locked 84 = .ok (.iload 9, 2) := by decide +kernel
theorem dX12_locked_86 : decode cX12_locked 86 = .ok (.iload 4, 2) := by decide +kernel
theorem dX12_locked_88 : decode cX12_locked 88 = .ok (.iconst (-1), 1) := by decide +kernel
theorem dX12_locked_89 : decode cX12_locked 89 = .ok (.ixor, 1) := by decide +kernel
theorem dX12_locked_90 : decode cX12_locked 90 = .ok (.iand, 1) := by decide +kernel
theorem dX12_locked_91 : decode cX12_locked 91 = .ok (.ifCond .ne 109, 3) := by decide +kernel
theorem dX12_locked_94 : decode cX12_locked 94 = .ok (.lconst 1, 1) := by decide +kernel
theorem dX12_locked_95 : decode cX12_locked 95 = .ok (.lstore 10, 2) := by decide +kernel
theorem dX12_locked_97 : decode cX12_locked 97 = .ok (.iconst 0, 1) := by decide +kernel
theorem dX12_locked_98 : decode cX12_locked 98 = .ok (.istore 12, 2) := by decide +kernel
theorem dX12_locked_100 : decode cX12_locked 100 = .ok (.iload 12, 2) := by decide +kernel
theorem dX12_locked_102 : decode cX12_locked 102 = .ok (.aload_n 0, 1) := by decide +kernel
theorem dX12_locked_103 : decode cX12_locked 103 = .ok (.getfield 19, 3) := by decide +kernel
theorem dX12_locked_106 : decode cX12_locked 106 = .ok (.iconst 3, 1) := by decide +kernel
theorem dX12_locked_107 : decode cX12_locked 107 = .ok (.iaload, 1) := by decide +kernel
theorem dX12_locked_108 : decode cX12_locked 108 = .ok (.if_icmp .ge 49, 3) := by decide +kernel
theorem dX12_locked_111 : decode cX12_locked 111 = .ok (.lload 10, 2) := by decide +kernel
theorem dX12_locked_113 : decode cX12_locked 113 = .ok (.iload 4, 2) := by decide +kernel
theorem dX12_locked_115 : decode cX12_locked 115 = .ok (.iload 12, 2) := by decide +kernel
theorem dX12_locked_117 : decode cX12_locked 117 = .ok (.invokestatic 153, 3) := by decide +kernel
theorem dX12_locked_120 : decode cX12_locked 120 = .ok (.ifCond .ne 7, 3) := by decide +kernel
theorem dX12_locked_123 : decode cX12_locked 123 = .ok (.lconst 1, 1) := by decide +kernel
theorem dX12_locked_124 : decode cX12_locked 124 = .ok (.goto 24, 3) := by decide +kernel
theorem dX12_locked_127 : decode cX12_locked 127 = .ok (.iload 9, 2) := by decide +kernel
theorem dX12_locked_129 : decode cX12_locked 129 = .ok (.iload 12, 2) := by decide +kernel
theorem dX12_locked_131 : decode cX12_locked 131 = .ok (.invokestatic 153, 3) := by decide +kernel
theorem dX12_locked_134 : decode cX12_locked 134 = .ok (.ifCond .eq 8, 3) := by decide +kernel
theorem dX12_locked_137 : decode cX12_locked 137 = .ok (.iload_n 2, 1) := by decide +kernel
theorem dX12_locked_138 : decode cX12_locked 138 = .ok (.i2l, 1) := by decide +kernel
theorem dX12_locked_139 : decode cX12_locked 139 = .ok (.goto 9, 3) := by decide +kernel
theorem dX12_locked_142 : decode cX12_locked 142 = .ok (.ldc2_w 260, 3) := by decide +kernel
theorem dX12_locked_145 : decode cX12_locked 145 = .ok (.iload_n 2, 1) := by decide +kernel
theorem dX12_locked_146 : decode cX12_locked 146 = .ok (.i2l, 1) := by decide +kernel
theorem dX12_locked_147 : decode cX12_locked 147 = .ok (.lsub, 1) := by decide +kernel
theorem dX12_locked_148 : decode cX12_locked 148 = .ok (.lmul, 1) := by decide +kernel
theorem dX12_locked_149 : decode cX12_locked 149 = .ok (.lstore 10, 2) := by decide +kernel
theorem dX12_locked_151 : decode cX12_locked 151 = .ok (.iinc 12 1, 3) := by decide +kernel
theorem dX12_locked_154 : decode cX12_locked 154 = .ok (.goto (-54), 3) := by decide +kernel
theorem dX12_locked_157 : decode cX12_locked 157 = .ok (.lload 7, 2) := by decide +kernel
theorem dX12_locked_159 : decode cX12_locked 159 = .ok (.lload 10, 2) := by decide +kernel
theorem dX12_locked_161 : decode cX12_locked 161 = .ok (.ladd, 1) := by decide +kernel
theorem dX12_locked_162 : decode cX12_locked 162 = .ok (.lstore 7, 2) := by decide +kernel
theorem dX12_locked_164 : decode cX12_locked 164 = .ok (.lload 5, 2) := by decide +kernel
theorem dX12_locked_166 : decode cX12_locked 166 = .ok (.lload 10, 2) := by decide +kernel
theorem dX12_locked_168 : decode cX12_locked 168 = .ok (.lconst 0, 1) := by decide +kernel
theorem dX12_locked_169 : decode cX12_locked 169 = .ok (.lcmp, 1) := by decide +kernel
theorem dX12_locked_170 : decode cX12_locked 170 = .ok (.ifCond .le 26, 3) := by decide +kernel
theorem dX12_locked_173 : decode cX12_locked 173 = .ok (.aload_n 0, 1) := by decide +kernel
theorem dX12_locked_174 : decode cX12_locked 174 = .ok (.aload_n 0, 1) := by decide +kernel
theorem dX12_locked_175 : decode cX12_locked 175 = .ok (.getfield 19, 3) := by decide +kernel
theorem dX12_locked_178 : decode cX12_locked 178 = .ok (.bipush 6, 2) := by decide +kernel
theorem dX12_locked_180 : decode cX12_locked 180 = .ok (.iaload, 1) := by decide +kernel
theorem dX12_locked_181 : decode cX12_locked 181 = .ok (.iload 9, 2) := by decide +kernel
theorem dX12_locked_183 : decode cX12_locked 183 = .ok (.ior, 1) := by decide +kernel
theorem dX12_locked_184 : decode cX12_locked 184 = .ok (.iload_n 1, 1) := by decide +kernel
theorem dX12_locked_185 : decode cX12_locked 185 = .ok (.invokevirtual 249, 3) := by decide +kernel
theorem dX12_locked_188 : decode cX12_locked 188 = .ok (.ifCond .eq 8, 3) := by decide +kernel
theorem dX12_locked_191 : decode cX12_locked 191 = .ok (.lload 10, 2) := by decide +kernel
theorem dX12_locked_193 : decode cX12_locked 193 = .ok (.goto 4, 3) := by decide +kernel
theorem dX12_locked_196 : decode cX12_locked 196 = .ok (.lconst 0, 1) := by decide +kernel
theorem dX12_locked_197 : decode cX12_locked 197 = .ok (.ladd, 1) := by decide +kernel
theorem dX12_locked_198 : decode cX12_locked 198 = .ok (.lstore 5, 2) := by decide +kernel
theorem dX12_locked_200 : decode cX12_locked 200 = .ok (.iinc 9 1, 3) := by decide +kernel
theorem dX12_locked_203 : decode cX12_locked 203 = .ok (.goto (-128), 3) := by decide +kernel
theorem dX12_locked_206 : decode cX12_locked 206 = .ok (.lload 5, 2) := by decide +kernel
theorem dX12_locked_208 : decode cX12_locked 208 = .ok (.lstore 9, 2) := by decide +kernel
theorem dX12_locked_210 : decode cX12_locked 210 = .ok (.lload 7, 2) := by decide +kernel
theorem dX12_locked_212 : decode cX12_locked 212 = .ok (.lstore 11, 2) := by decide +kernel
theorem dX12_locked_214 : decode cX12_locked 214 = .ok (.lload 11, 2) := by decide +kernel
theorem dX12_locked_216 : decode cX12_locked 216 = .ok (.lconst 0, 1) := by decide +kernel
theorem dX12_locked_217 : decode cX12_locked 217 = .ok (.lcmp, 1) := by decide +kernel
theorem dX12_locked_218 : decode cX12_locked 218 = .ok (.ifCond .eq 21, 3) := by decide +kernel
theorem dX12_locked_221 : decode cX12_locked 221 = .ok (.lload 9, 2) := by decide +kernel
theorem dX12_locked_223 : decode cX12_locked 223 = .ok (.lload 11, 2) := by decide +kernel
theorem dX12_locked_225 : decode cX12_locked 225 = .ok (.lrem, 1) := by decide +kernel
theorem dX12_locked_226 : decode cX12_locked 226 = .ok (.lstore 13, 2) := by decide +kernel
theorem dX12_locked_228 : decode cX12_locked 228 = .ok (.lload 11, 2) := by decide +kernel
theorem dX12_locked_230 : decode cX12_locked 230 = .ok (.lstore 9, 2) := by decide +kernel
theorem dX12_locked_232 : decode cX12_locked 232 = .ok (.lload 13, 2) := by decide +kernel
theorem dX12_locked_234 : decode cX12_locked 234 = .ok (.lstore 11, 2) := by decide +kernel
theorem dX12_locked_236 : decode cX12_locked 236 = .ok (.goto (-22), 3) := by decide +kernel
theorem dX12_locked_239 : decode cX12_locked 239 = .ok (.iload_n 3, 1) := by decide +kernel
theorem dX12_locked_240 : decode cX12_locked 240 = .ok (.ifCond .ne 8, 3) := by decide +kernel
theorem dX12_locked_243 : decode cX12_locked 243 = .ok (.lload 5, 2) := by decide +kernel
theorem dX12_locked_245 : decode cX12_locked 245 = .ok (.goto 5, 3) := by decide +kernel
theorem dX12_locked_248 : decode cX12_locked 248 = .ok (.lload 7, 2) := by decide +kernel
theorem dX12_locked_250 : decode cX12_locked 250 = .ok (.lload 9, 2) := by decide +kernel
theorem dX12_locked_252 : decode cX12_locked 252 = .ok (.ldiv, 1) := by decide +kernel
theorem dX12_locked_253 : decode cX12_locked 253 = .ok (.lreturn, 1) := by decide +kernel
theorem dX12_drawn_0 : decode cX12_drawn 0 = .ok (.aload_n 0, 1) := by decide +kernel
theorem dX12_drawn_1 : decode cX12_drawn 1 = .ok (.iconst 0, 1) := by decide +kernel
theorem dX12_drawn_2 : decode cX12_drawn 2 = .ok (.putfield 47, 3) := by decide +kernel
theorem dX12_drawn_5 : decode cX12_drawn 5 = .ok (.aload_n 0, 1) := by decide +kernel
theorem dX12_drawn_6 : decode cX12_drawn 6 = .ok (.invokevirtual 203, 3) := by decide +kernel
theorem dX12_drawn_9 : decode cX12_drawn 9 = .ok (.ifCond .ne 6, 3) := by decide +kernel
theorem dX12_drawn_12 : decode cX12_drawn 12 = .ok (.ldc 206, 2) := by decide +kernel
theorem dX12_drawn_14 : decode cX12_drawn 14 = .ok (.ireturn, 1) := by decide +kernel
theorem dX12_drawn_15 : decode cX12_drawn 15 = .ok (.iload_n 1, 1) := by decide +kernel
theorem dX12_drawn_16 : decode cX12_drawn 16 = .ok (.i2l, 1) := by decide +kernel
theorem dX12_drawn_17 : decode cX12_drawn 17 = .ok (.lconst 0, 1) := by decide +kernel
theorem dX12_drawn_18 : decode cX12_drawn 18 = .ok (.ldc2_w 241, 3) := by decide +kernel
theorem dX12_drawn_21 : decode cX12_drawn 21 = .ok (.invokestatic 57, 3) := by decide +kernel
theorem dX12_drawn_24 : decode cX12_drawn 24 = .ok (.ifCond .eq 25, 3) := by decide +kernel
theorem dX12_drawn_27 : decode cX12_drawn 27 = .ok (.iload_n 2, 1) := by decide +kernel
theorem dX12_drawn_28 : decode cX12_drawn 28 = .ok (.i2l, 1) := by decide +kernel
theorem dX12_drawn_29 : decode cX12_drawn 29 = .ok (.lconst 1, 1) := by decide +kernel
theorem dX12_drawn_30 : decode cX12_drawn 30 = .ok (.ldc2_w 264, 3) := by decide +kernel
theorem dX12_drawn_33 : decode cX12_drawn 33 = .ok (.invokestatic 57, 3) := by decide +kernel
theorem dX12_drawn_36 : decode cX12_drawn 36 = .ok (.ifCond .eq 13, 3) := by decide +kernel
theorem dX12_drawn_39 : decode cX12_drawn 39 = .ok (.iload_n 3, 1) := by decide +kernel
theorem dX12_drawn_40 : decode cX12_drawn 40 = .ok (.i2l, 1) := by decide +kernel
theorem dX12_drawn_41 : decode cX12_drawn 41 = .ok (.lconst 0, 1) := by decide +kernel
theorem dX12_drawn_42 : decode cX12_drawn 42 = .ok (.lconst 1, 1) := by decide +kernel
theorem dX12_drawn_43 : decode cX12_drawn 43 = .ok (.invokestatic 57, 3) := by decide +kernel
theorem dX12_drawn_46 : decode cX12_drawn 46 = .ok (.ifCond .ne 6, 3) := by decide +kernel
theorem dX12_drawn_49 : decode cX12_drawn 49 = .ok (.ldc 67, 2) := by decide +kernel
theorem dX12_drawn_51 : decode cX12_drawn 51 = .ok (.ireturn, 1) := by decide +kernel
theorem dX12_drawn_52 : decode cX12_drawn 52 = .ok (.aload_n 0, 1) := by decide +kernel
theorem dX12_drawn_53 : decode cX12_drawn 53 = .ok (.invokevirtual 243, 3) := by decide +kernel
theorem dX12_drawn_56 : decode cX12_drawn 56 = .ok (.iload_n 2, 1) := by decide +kernel
theorem dX12_drawn_57 : decode cX12_drawn 57 = .ok (.i2l, 1) := by decide +kernel
theorem dX12_drawn_58 : decode cX12_drawn 58 = .ok (.lstore 4, 2) := by decide +kernel
theorem dX12_drawn_60 : decode cX12_drawn 60 = .ok (.iconst 0, 1) := by decide +kernel
theorem dX12_drawn_61 : decode cX12_drawn 61 = .ok (.istore 6, 2) := by decide +kernel
theorem dX12_drawn_63 : decode cX12_drawn 63 = .ok (.iconst 0, 1) := by decide +kernel
theorem dX12_drawn_64 : decode cX12_drawn 64 = .ok (.istore 7, 2) := by decide +kernel
theorem dX12_drawn_66 : decode cX12_drawn 66 = .ok (.iload 7, 2) := by decide +kernel
theorem dX12_drawn_68 : decode cX12_drawn 68 = .ok (.iload_n 1, 1) := by decide +kernel
theorem dX12_drawn_69 : decode cX12_drawn 69 = .ok (.if_icmp .ge 60, 3) := by decide +kernel
theorem dX12_drawn_72 : decode cX12_drawn 72 = .ok (.lload 4, 2) := by decide +kernel
theorem dX12_drawn_74 : decode cX12_drawn 74 = .ok (.ldc2_w 266, 3) := by decide +kernel
theorem dX12_drawn_77 : decode cX12_drawn 77 = .ok (.lmul, 1) := by decide +kernel
theorem dX12_drawn_78 : decode cX12_drawn 78 = .ok (.ldc2_w 268, 3) := by decide +kernel
theorem dX12_drawn_81 : decode cX12_drawn 81 = .ok (.lrem, 1) := by decide +kernel
theorem dX12_drawn_82 : decode cX12_drawn 82 = .ok (.lstore 4, 2) := by decide +kernel
theorem dX12_drawn_84 : decode cX12_drawn 84 = .ok (.aload_n 0, 1) := by decide +kernel
theorem dX12_drawn_85 : decode cX12_drawn 85 = .ok (.aload_n 0, 1) := by decide +kernel
theorem dX12_drawn_86 : decode cX12_drawn 86 = .ok (.getfield 25, 3) := by decide +kernel
theorem dX12_drawn_89 : decode cX12_drawn 89 = .ok (.bipush 6, 2) := by decide +kernel
theorem dX12_drawn_91 : decode cX12_drawn 91 = .ok (.iaload, 1) := by decide +kernel
theorem dX12_drawn_92 : decode cX12_drawn 92 = .ok (.lload 4, 2) := by decide +kernel
theorem dX12_drawn_94 : decode cX12_drawn 94 = .ok (.ldc2_w 270, 3) := by decide +kernel
theorem dX12_drawn_97 : decode cX12_drawn 97 = .ok (.lrem, 1) := by decide +kernel
theorem dX12_drawn_98 : decode cX12_drawn 98 = .ok (.l2i, 1) := by decide +kernel
theorem dX12_drawn_99 : decode cX12_drawn 99 = .ok (.invokevirtual 211, 3) := by decide +kernel
theorem dX12_drawn_102 : decode cX12_drawn 102 = .ok (.ifCond .eq 14, 3) := by decide +kernel
theorem dX12_drawn_105 : decode cX12_drawn 105 = .ok (.aload_n 0, 1) := by decide +kernel
theorem dX12_drawn_106 : decode cX12_drawn 106 = .ok (.aload_n 0, 1) := by decide +kernel
theorem dX12_drawn_107 : decode cX12_drawn 107 = .ok (.getfield 25, 3) := by decide +kernel
theorem dX12_drawn_110 : decode cX12_drawn 110 = .ok (.invokevirtual 217, 3) := by decide +kernel
theorem dX12_drawn_113 : decode cX12_drawn 113 = .ok (.iinc 6 1, 3) := by decide +kernel
theorem dX12_drawn_116 : decode cX12_drawn 116 = .ok (.aload_n 0, 1) := by decide +kernel
theorem dX12_drawn_117 : decode cX12_drawn 117 = .ok (.getfield 25, 3) := by decide +kernel
theorem dX12_drawn_120 : decode cX12_drawn 120 = .ok (.invokestatic 227, 3) := by decide +kernel
theorem dX12_drawn_123 : decode cX12_drawn 123 = .ok (.iinc 7 1, 3) := by decide +kernel
theorem dX12_drawn_126 : decode cX12_drawn 126 = .ok (.goto (-60), 3) := by decide +kernel
theorem dX12_drawn_129 : decode cX12_drawn 129 = .ok (.iload_n 3, 1) := by decide +kernel
theorem dX12_drawn_130 : decode cX12_drawn 130 = .ok (.ifCond .ne 13, 3) := by decide +kernel
theorem dX12_drawn_133 : decode cX12_drawn 133 = .ok (.aload_n 0, 1) := by decide +kernel
theorem dX12_drawn_134 : decode cX12_drawn 134 = .ok (.getfield 25, 3) := by decide +kernel
theorem dX12_drawn_137 : decode cX12_drawn 137 = .ok (.invokestatic 221, 3) := by decide +kernel
theorem dX12_drawn_140 : decode cX12_drawn 140 = .ok (.goto 5, 3) := by decide +kernel
theorem dX12_drawn_143 : decode cX12_drawn 143 = .ok (.iload 6, 2) := by decide +kernel
theorem dX12_drawn_145 : decode cX12_drawn 145 = .ok (.ireturn, 1) := by decide +kernel
theorem dX12_image_0 : decode cX12_image 0 = .ok (.aload_n 0, 1) := by decide +kernel
theorem dX12_image_1 : decode cX12_image 1 = .ok (.iconst 0, 1) := by decide +kernel
theorem dX12_image_2 : decode cX12_image 2 = .ok (.putfield 47, 3) := by decide +kernel
theorem dX12_image_5 : decode cX12_image 5 = .ok (.iload_n 1, 1) := by decide +kernel
theorem dX12_image_6 : decode cX12_image 6 = .ok (.i2l, 1) := by decide +kernel
theorem dX12_image_7 : decode cX12_image 7 = .ok (.lconst 0, 1) := by decide +kernel
theorem dX12_image_8 : decode cX12_image 8 = .ok (.lconst 1, 1) := by decide +kernel
theorem dX12_image_9 : decode cX12_image 9 = .ok (.invokestatic 57, 3) := by decide +kernel
theorem dX12_image_12 : decode cX12_image 12 = .ok (.ifCond .ne 6, 3) := by decide +kernel
theorem dX12_image_15 : decode cX12_image 15 = .ok (.ldc 67, 2) := by decide +kernel
theorem dX12_image_17 : decode cX12_image 17 = .ok (.ireturn, 1) := by decide +kernel
theorem dX12_image_18 : decode cX12_image 18 = .ok (.aload_n 0, 1) := by decide +kernel
theorem dX12_image_19 : decode cX12_image 19 = .ok (.invokevirtual 203, 3) := by decide +kernel
theorem dX12_image_22 : decode cX12_image 22 = .ok (.ifCond .ne 6, 3) := by decide +kernel
theorem dX12_image_25 : decode cX12_image 25 = .ok (.ldc 206, 2) := by decide +kernel
theorem dX12_image_27 : decode cX12_image 27 = .ok (.ireturn, 1) := by decide +kernel
theorem dX12_image_28 : decode cX12_image 28 = .ok (.iconst 0, 1) := by decide +kernel
theorem dX12_image_29 : decode cX12_image 29 = .ok (.istore_n 2, 1) := by decide +kernel
theorem dX12_image_30 : decode cX12_image 30 = .ok (.iload_n 2, 1) := by decide +kernel
theorem dX12_image_31 : decode cX12_image 31 = .ok (.bipush 67, 2) := by decide +kernel
theorem dX12_image_33 : decode cX12_image 33 = .ok (.if_icmp .ge 26, 3) := by decide +kernel
theorem dX12_image_36 : decode cX12_image 36 = .ok (.aload_n 0, 1) := by decide +kernel
theorem dX12_image_37 : decode cX12_image 37 = .ok (.getfield 41, 3) := by decide +kernel
theorem dX12_image_40 : decode cX12_image 40 = .ok (.bipush 67, 2) := by decide +kernel
theorem dX12_image_42 : decode cX12_image 42 = .ok (.iload_n 1, 1) := by decide +kernel
theorem dX12_image_43 : decode cX12_image 43 = .ok (.imul, 1) := by decide +kernel
theorem dX12_image_44 : decode cX12_image 44 = .ok (.iload_n 2, 1) := by decide +kernel
theorem dX12_image_45 : decode cX12_image 45 = .ok (.iadd, 1) := by decide +kernel
theorem dX12_image_46 : decode cX12_image 46 = .ok (.aload_n 0, 1) := by decide +kernel
theorem dX12_image_47 : decode cX12_image 47 = .ok (.getfield 19, 3) := by decide +kernel
theorem dX12_image_50 : decode cX12_image 50 = .ok (.iload_n 2, 1) := by decide +kernel
theorem dX12_image_51 : decode cX12_image 51 = .ok (.iaload, 1) := by decide +kernel
theorem dX12_image_52 : decode cX12_image 52 = .ok (.iastore, 1) := by decide +kernel
theorem dX12_image_53 : decode cX12_image 53 = .ok (.iinc 2 1, 3) := by decide +kernel
theorem dX12_image_56 : decode cX12_image 56 = .ok (.goto (-26), 3) := by decide +kernel
theorem dX12_image_59 : decode cX12_image 59 = .ok (.aload_n 0, 1) := by decide +kernel
theorem dX12_image_60 : decode cX12_image 60 = .ok (.getfield 37, 3) := by decide +kernel
theorem dX12_image_63 : decode cX12_image 63 = .ok (.iload_n 1, 1) := by decide +kernel
theorem dX12_image_64 : decode cX12_image 64 = .ok (.iconst 1, 1) := by decide +kernel
theorem dX12_image_65 : decode cX12_image 65 = .ok (.bastore, 1) := by decide +kernel
theorem dX12_image_66 : decode cX12_image 66 = .ok (.iconst 1, 1) := by decide +kernel
theorem dX12_image_67 : decode cX12_image 67 = .ok (.ireturn, 1) := by decide +kernel
theorem dX12_restore_0 : decode cX12_restore 0 = .ok (.aload_n 0, 1) := by decide +kernel
theorem dX12_restore_1 : decode cX12_restore 1 = .ok (.iconst 0, 1) := by decide +kernel
theorem dX12_restore_2 : decode cX12_restore 2 = .ok (.putfield 47, 3) := by decide +kernel
theorem dX12_restore_5 : decode cX12_restore 5 = .ok (.iload_n 1, 1) := by decide +kernel
theorem dX12_restore_6 : decode cX12_restore 6 = .ok (.i2l, 1) := by decide +kernel
theorem dX12_restore_7 : decode cX12_restore 7 = .ok (.lconst 0, 1) := by decide +kernel
theorem dX12_restore_8 : decode cX12_restore 8 = .ok (.lconst 1, 1) := by decide +kernel
theorem dX12_restore_9 : decode cX12_restore 9 = .ok (.invokestatic 57, 3) := by decide +kernel
theorem dX12_restore_12 : decode cX12_restore 12 = .ok (.ifCond .ne 6, 3) := by decide +kernel
theorem dX12_restore_15 : decode cX12_restore 15 = .ok (.ldc 67, 2) := by decide +kernel
theorem dX12_restore_17 : decode cX12_restore 17 = .ok (.ireturn, 1) := by decide +kernel
theorem dX12_restore_18 : decode cX12_restore 18 = .ok (.aload_n 0, 1) := by decide +kernel
theorem dX12_restore_19 : decode cX12_restore 19 = .ok (.getfield 37, 3) := by decide +kernel
theorem dX12_restore_22 : decode cX12_restore 22 = .ok (.iload_n 1, 1) := by decide +kernel
theorem dX12_restore_23 : decode cX12_restore 23 = .ok (.baload, 1) := by decide +kernel
theorem dX12_restore_24 : decode cX12_restore 24 = .ok (.ifCond .ne 6, 3) := by decide +kernel
theorem dX12_restore_27 : decode cX12_restore 27 = .ok (.ldc 206, 2) := by decide +kernel
theorem dX12_restore_29 : decode cX12_restore 29 = .ok (.ireturn, 1) := by decide +kernel
theorem dX12_restore_30 : decode cX12_restore 30 = .ok (.iconst 0, 1) := by decide +kernel
theorem dX12_restore_31 : decode cX12_restore 31 = .ok (.istore_n 2, 1) := by decide +kernel
theorem dX12_restore_32 : decode cX12_restore 32 = .ok (.iload_n 2, 1) := by decide +kernel
theorem dX12_restore_33 : decode cX12_restore 33 = .ok (.bipush 67, 2) := by decide +kernel
theorem dX12_restore_35 : decode cX12_restore 35 = .ok (.if_icmp .ge 26, 3) := by decide +kernel
theorem dX12_restore_38 : decode cX12_restore 38 = .ok (.aload_n 0, 1) := by decide +kernel
theorem dX12_restore_39 : decode cX12_restore 39 = .ok (.getfield 19, 3) := by decide +kernel
theorem dX12_restore_42 : decode cX12_restore 42 = .ok (.iload_n 2, 1) := by decide +kernel
theorem dX12_restore_43 : decode cX12_restore 43 = .ok (.aload_n 0, 1) := by decide +kernel
theorem dX12_restore_44 : decode cX12_restore 44 = .ok (.getfield 41, 3) := by decide +kernel
theorem dX12_restore_47 : decode cX12_restore 47 = .ok (.bipush 67, 2) := by decide +kernel
theorem dX12_restore_49 : decode cX12_restore 49 = .ok (.iload_n 1, 1) := by decide +kernel
theorem dX12_restore_50 : decode cX12_restore 50 = .ok (.imul, 1) := by decide +kernel
theorem dX12_restore_51 : decode cX12_restore 51 = .ok (.iload_n 2, 1) := by decide +kernel
theorem dX12_restore_52 : decode cX12_restore 52 = .ok (.iadd, 1) := by decide +kernel
theorem dX12_restore_53 : decode cX12_restore 53 = .ok (.iaload, 1) := by decide +kernel
theorem dX12_restore_54 : decode cX12_restore 54 = .ok (.iastore, 1) := by decide +kernel
theorem dX12_restore_55 : decode cX12_restore 55 = .ok (.iinc 2 1, 3) := by decide +kernel
theorem dX12_restore_58 : decode cX12_restore 58 = .ok (.goto (-26), 3) := by decide +kernel
theorem dX12_restore_61 : decode cX12_restore 61 = .ok (.aload_n 0, 1) := by decide +kernel
theorem dX12_restore_62 : decode cX12_restore 62 = .ok (.iconst 0, 1) := by decide +kernel
theorem dX12_restore_63 : decode cX12_restore 63 = .ok (.putfield 150, 3) := by decide +kernel
theorem dX12_restore_66 : decode cX12_restore 66 = .ok (.iconst 1, 1) := by decide +kernel
theorem dX12_restore_67 : decode cX12_restore 67 = .ok (.ireturn, 1) := by decide +kernel
theorem dX12_isOf_0 : decode cX12_isOf 0 = .ok (.iload_n 1, 1) := by decide +kernel
theorem dX12_isOf_1 : decode cX12_isOf 1 = .ok (.ifCond .eq 28, 3) := by decide +kernel
theorem dX12_isOf_4 : decode cX12_isOf 4 = .ok (.iload_n 0, 1) := by decide +kernel
theorem dX12_isOf_5 : decode cX12_isOf 5 = .ok (.iload_n 1, 1) := by decide +kernel
theorem dX12_isOf_6 : decode cX12_isOf 6 = .ok (.if_icmp .eq 23, 3) := by decide +kernel
theorem dX12_isOf_9 : decode cX12_isOf 9 = .ok (.iload_n 1, 1) := by decide +kernel
theorem dX12_isOf_10 : decode cX12_isOf 10 = .ok (.iconst 1, 1) := by decide +kernel
theorem dX12_isOf_11 : decode cX12_isOf 11 = .ok (.if_icmp .ne 8, 3) := by decide +kernel
theorem dX12_isOf_14 : decode cX12_isOf 14 = .ok (.iload_n 0, 1) := by decide +kernel
theorem dX12_isOf_15 : decode cX12_isOf 15 = .ok (.iconst 4, 1) := by decide +kernel
theorem dX12_isOf_16 : decode cX12_isOf 16 = .ok (.if_icmp .lt 13, 3) := by decide +kernel
theorem dX12_isOf_19 : decode cX12_isOf 19 = .ok (.iload_n 1, 1) := by decide +kernel
theorem dX12_isOf_20 : decode cX12_isOf 20 = .ok (.iconst 4, 1) := by decide +kernel
theorem dX12_isOf_21 : decode cX12_isOf 21 = .ok (.if_icmp .ne 12, 3) := by decide +kernel
theorem dX12_isOf_24 : decode cX12_isOf 24 = .ok (.iload_n 0, 1) := by decide +kernel
theorem dX12_isOf_25 : decode cX12_isOf 25 = .ok (.iconst 5, 1) := by decide +kernel
theorem dX12_isOf_26 : decode cX12_isOf 26 = .ok (.if_icmp .ne 7, 3) := by decide +kernel
theorem dX12_isOf_29 : decode cX12_isOf 29 = .ok (.iconst 1, 1) := by decide +kernel
theorem dX12_isOf_30 : decode cX12_isOf 30 = .ok (.goto 4, 3) := by decide +kernel
theorem dX12_isOf_33 : decode cX12_isOf 33 = .ok (.iconst 0, 1) := by decide +kernel
theorem dX12_isOf_34 : decode cX12_isOf 34 = .ok (.ireturn, 1) := by decide +kernel
theorem dX12_kind_0 : decode cX12_kind 0 = .ok (.aload_n 0, 1) := by decide +kernel
theorem dX12_kind_1 : decode cX12_kind 1 = .ok (.iconst 0, 1) := by decide +kernel
theorem dX12_kind_2 : decode cX12_kind 2 = .ok (.putfield 47, 3) := by decide +kernel
theorem dX12_kind_5 : decode cX12_kind 5 = .ok (.aload_n 0, 1) := by decide +kernel
theorem dX12_kind_6 : decode cX12_kind 6 = .ok (.iload_n 1, 1) := by decide +kernel
theorem dX12_kind_7 : decode cX12_kind 7 = .ok (.invokevirtual 236, 3) := by decide +kernel
theorem dX12_kind_10 : decode cX12_kind 10 = .ok (.ifCond .eq 15, 3) := by decide +kernel
theorem dX12_kind_13 : decode cX12_kind 13 = .ok (.aload_n 0, 1) := by decide +kernel
theorem dX12_kind_14 : decode cX12_kind 14 = .ok (.getfield 19, 3) := by decide +kernel
theorem dX12_kind_17 : decode cX12_kind 17 = .ok (.iload_n 1, 1) := by decide +kernel
theorem dX12_kind_18 : decode cX12_kind 18 = .ok (.iconst 0, 1) := by decide +kernel
theorem dX12_kind_19 : decode cX12_kind 19 = .ok (.invokestatic 183, 3) := by decide +kernel
theorem dX12_kind_22 : decode cX12_kind 22 = .ok (.goto 5, 3) := by decide +kernel
theorem dX12_kind_25 : decode cX12_kind 25 = .ok (.ldc 67, 2) := by decide +kernel
theorem dX12_kind_27 : decode cX12_kind 27 = .ok (.ireturn, 1) := by decide +kernel
theorem dX12_as_0 : decode cX12_as 0 = .ok (.aload_n 0, 1) := by decide +kernel
theorem dX12_as_1 : decode cX12_as 1 = .ok (.iconst 0, 1) := by decide +kernel
theorem dX12_as_2 : decode cX12_as 2 = .ok (.putfield 47, 3) := by decide +kernel
theorem dX12_as_5 : decode cX12_as 5 = .ok (.aload_n 0, 1) := by decide +kernel
theorem dX12_as_6 : decode cX12_as 6 = .ok (.iload_n 1, 1) := by decide +kernel
theorem dX12_as_7 : decode cX12_as 7 = .ok (.invokevirtual 236, 3) := by decide +kernel
theorem dX12_as_10 : decode cX12_as 10 = .ok (.ifCond .eq 15, 3) := by decide +kernel
theorem dX12_as_13 : decode cX12_as 13 = .ok (.iload_n 2, 1) := by decide +kernel
theorem dX12_as_14 : decode cX12_as 14 = .ok (.i2l, 1) := by decide +kernel
theorem dX12_as_15 : decode cX12_as 15 = .ok (.lconst 0, 1) := by decide +kernel
theorem dX12_as_16 : decode cX12_as 16 = .ok (.ldc2_w 272, 3) := by decide +kernel
theorem dX12_as_19 : decode cX12_as 19 = .ok (.invokestatic 57, 3) := by decide +kernel
theorem dX12_as_22 : decode cX12_as 22 = .ok (.ifCond .ne 6, 3) := by decide +kernel
theorem dX12_as_25 : decode cX12_as 25 = .ok (.ldc 67, 2) := by decide +kernel
theorem dX12_as_27 : decode cX12_as 27 = .ok (.ireturn, 1) := by decide +kernel
theorem dX12_as_28 : decode cX12_as 28 = .ok (.aload_n 0, 1) := by decide +kernel
theorem dX12_as_29 : decode cX12_as 29 = .ok (.iconst 0, 1) := by decide +kernel
theorem dX12_as_30 : decode cX12_as 30 = .ok (.putfield 51, 3) := by decide +kernel
theorem dX12_as_33 : decode cX12_as 33 = .ok (.aload_n 0, 1) := by decide +kernel
theorem dX12_as_34 : decode cX12_as 34 = .ok (.getfield 19, 3) := by decide +kernel
theorem dX12_as_37 : decode cX12_as 37 = .ok (.iload_n 1, 1) := by decide +kernel
theorem dX12_as_38 : decode cX12_as 38 = .ok (.iconst 0, 1) := by decide +kernel
theorem dX12_as_39 : decode cX12_as 39 = .ok (.invokestatic 183, 3) := by decide +kernel
theorem dX12_as_42 : decode cX12_as 42 = .ok (.iload_n 2, 1) := by decide +kernel
theorem dX12_as_43 : decode cX12_as 43 = .ok (.invokestatic 274, 3) := by decide +kernel
theorem dX12_as_46 : decode cX12_as 46 = .ok (.ifCond .eq 7, 3) := by decide +kernel
theorem dX12_as_49 : decode cX12_as 49 = .ok (.iload_n 1, 1) := by decide +kernel
theorem dX12_as_50 : decode cX12_as 50 = .ok (.goto 8, 3) := by decide +kernel
theorem dX12_as_53 : decode cX12_as 53 = .ok (.aload_n 0, 1) := by decide +kernel
theorem dX12_as_54 : decode cX12_as 54 = .ok (.iconst 3, 1) := by decide +kernel
theorem dX12_as_55 : decode cX12_as 55 = .ok (.invokevirtual 68, 3) := by decide +kernel
theorem dX12_as_58 : decode cX12_as 58 = .ok (.ireturn, 1) := by decide +kernel
theorem dX12_began_0 : decode cX12_began 0 = .ok (.aload_n 0, 1) := by decide +kernel
theorem dX12_began_1 : decode cX12_began 1 = .ok (.getfield 277, 3) := by decide +kernel
theorem dX12_began_4 : decode cX12_began 4 = .ok (.bipush 16, 2) := by decide +kernel
theorem dX12_began_6 : decode cX12_began 6 = .ok (.if_icmp .ge 23, 3) := by decide +kernel
theorem dX12_began_9 : decode cX12_began 9 = .ok (.aload_n 0, 1) := by decide +kernel
theorem dX12_began_10 : decode cX12_began 10 = .ok (.getfield 44, 3) := by decide +kernel
theorem dX12_began_13 : decode cX12_began 13 = .ok (.aload_n 0, 1) := by decide +kernel
theorem dX12_began_14 : decode cX12_began 14 = .ok (.getfield 277, 3) := by decide +kernel
theorem dX12_began_17 : decode cX12_began 17 = .ok (.iload_n 1, 1) := by decide +kernel
theorem dX12_began_18 : decode cX12_began 18 = .ok (.iastore, 1) := by decide +kernel
theorem dX12_began_19 : decode cX12_began 19 = .ok (.aload_n 0, 1) := by decide +kernel
theorem dX12_began_20 : decode cX12_began 20 = .ok (.dup, 1) := by decide +kernel
theorem dX12_began_21 : decode cX12_began 21 = .ok (.getfield 277, 3) := by decide +kernel
theorem dX12_began_24 : decode cX12_began 24 = .ok (.iconst 1, 1) := by decide +kernel
theorem dX12_began_25 : decode cX12_began 25 = .ok (.iadd, 1) := by decide +kernel
theorem dX12_began_26 : decode cX12_began 26 = .ok (.putfield 277, 3) := by decide +kernel
theorem dX12_began_29 : decode cX12_began 29 = .ok (.return_, 1) := by decide +kernel
theorem dX12_plainSize_0 : decode cX12_plainSize 0 = .ok (.aload_n 0, 1) := by decide +kernel
theorem dX12_plainSize_1 : decode cX12_plainSize 1 = .ok (.bipush 10, 2) := by decide +kernel
theorem dX12_plainSize_3 : decode cX12_plainSize 3 = .ok (.invokevirtual 280, 3) := by decide +kernel
theorem dX12_plainSize_6 : decode cX12_plainSize 6 = .ok (.aload_n 0, 1) := by decide +kernel
theorem dX12_plainSize_7 : decode cX12_plainSize 7 = .ok (.getfield 19, 3) := by decide +kernel
theorem dX12_plainSize_10 : decode cX12_plainSize 10 = .ok (.iload_n 1, 1) := by decide +kernel
theorem dX12_plainSize_11 : decode cX12_plainSize 11 = .ok (.invokestatic 195, 3) := by decide +kernel
theorem dX12_plainSize_14 : decode cX12_plainSize 14 = .ok (.invokestatic 246, 3) := by decide +kernel
theorem dX12_plainSize_17 : decode cX12_plainSize 17 = .ok (.ireturn, 1) := by decide +kernel
theorem dX12_strangerSize_0 : decode cX12_strangerSize 0 = .ok (.aload_n 0, 1) := by decide +kernel
theorem dX12_strangerSize_1 : decode cX12_strangerSize 1 = .ok (.getfield 19, 3) := by decide +kernel
theorem dX12_strangerSize_4 : decode cX12_strangerSize 4 = .ok (.iload_n 1, 1) := by decide +kernel
theorem dX12_strangerSize_5 : decode cX12_strangerSize 5 = .ok (.iconst 0, 1) := by decide +kernel
theorem dX12_strangerSize_6 : decode cX12_strangerSize 6 = .ok (.invokestatic 183, 3) := by decide +kernel
theorem dX12_strangerSize_9 : decode cX12_strangerSize 9 = .ok (.iconst 5, 1) := by decide +kernel
theorem dX12_strangerSize_10 : decode cX12_strangerSize 10 = .ok (.if_icmp .ne 7, 3) := by decide +kernel
theorem dX12_strangerSize_13 : decode cX12_strangerSize 13 = .ok (.iconst 1, 1) := by decide +kernel
theorem dX12_strangerSize_14 : decode cX12_strangerSize 14 = .ok (.goto 4, 3) := by decide +kernel
theorem dX12_strangerSize_17 : decode cX12_strangerSize 17 = .ok (.iconst 0, 1) := by decide +kernel
theorem dX12_strangerSize_18 : decode cX12_strangerSize 18 = .ok (.istore_n 2, 1) := by decide +kernel
theorem dX12_strangerSize_19 : decode cX12_strangerSize 19 = .ok (.iload_n 2, 1) := by decide +kernel
theorem dX12_strangerSize_20 : decode cX12_strangerSize 20 = .ok (.ifCond .eq 9, 3) := by decide +kernel
theorem dX12_strangerSize_23 : decode cX12_strangerSize 23 = .ok (.aload_n 0, 1) := by decide +kernel
theorem dX12_strangerSize_24 : decode cX12_strangerSize 24 = .ok (.bipush 14, 2) := by decide +kernel
theorem dX12_strangerSize_26 : decode cX12_strangerSize 26 = .ok (.invokevirtual 280, 3) := by decide +kernel
theorem dX12_strangerSize_29 : decode cX12_strangerSize 29 = .ok (.aload_n 0, 1) := by decide +kernel
theorem dX12_strangerSize_30 : decode cX12_strangerSize 30 = .ok (.bipush 13, 2) := by decide +kernel
theorem dX12_strangerSize_32 : decode cX12_strangerSize 32 = .ok (.invokevirtual 280, 3) := by decide +kernel
theorem dX12_strangerSize_35 : decode cX12_strangerSize 35 = .ok (.aload_n 0, 1) := by decide +kernel
theorem dX12_strangerSize_36 : decode cX12_strangerSize 36 = .ok (.iload_n 1, 1) := by decide +kernel
theorem dX12_strangerSize_37 : decode cX12_strangerSize 37 = .ok (.invokevirtual 283, 3) := by decide +kernel
theorem dX12_strangerSize_40 : decode cX12_strangerSize 40 = .ok (.bipush 100, 2) := by decide +kernel
theorem dX12_strangerSize_42 : decode cX12_strangerSize 42 = .ok (.isub, 1) := by decide +kernel
theorem dX12_strangerSize_43 : decode cX12_strangerSize 43 = .ok (.istore_n 3, 1) := by decide +kernel
theorem dX12_strangerSize_44 : decode cX12_strangerSize 44 = .ok (.iload_n 2, 1) := by decide +kernel
theorem dX12_strangerSize_45 : decode cX12_strangerSize 45 = .ok (.ifCond .eq 9, 3) := by decide +kernel
theorem dX12_strangerSize_48 : decode cX12_strangerSize 48 = .ok (.iconst 2, 1) := by decide +kernel
theorem dX12_strangerSize_49 : decode cX12_strangerSize 49 = .ok (.iload_n 3, 1) := by decide +kernel
theorem dX12_strangerSize_50 : decode cX12_strangerSize 50 = .ok (.imul, 1) := by decide +kernel
theorem dX12_strangerSize_51 : decode cX12_strangerSize 51 = .ok (.goto 4, 3) := by decide +kernel
theorem dX12_strangerSize_54 : decode cX12_strangerSize 54 = .ok (.iload_n 3, 1) := by decide +kernel
theorem dX12_strangerSize_55 : decode cX12_strangerSize 55 = .ok (.ireturn, 1) := by decide +kernel
theorem dX12_markOf_0 : decode cX12_markOf 0 = .ok (.aload_n 0, 1) := by decide +kernel
theorem dX12_markOf_1 : decode cX12_markOf 1 = .ok (.getfield 19, 3) := by decide +kernel
theorem dX12_markOf_4 : decode cX12_markOf 4 = .ok (.iload_n 1, 1) := by decide +kernel
theorem dX12_markOf_5 : decode cX12_markOf 5 = .ok (.iconst 0, 1) := by decide +kernel
theorem dX12_markOf_6 : decode cX12_markOf 6 = .ok (.invokestatic 183, 3) := by decide +kernel
theorem dX12_markOf_9 : decode cX12_markOf 9 = .ok (.istore_n 2, 1) := by decide +kernel
theorem dX12_markOf_10 : decode cX12_markOf 10 = .ok (.iload_n 2, 1) := by decide +kernel
theorem dX12_markOf_11 : decode cX12_markOf 11 = .ok (.iconst 4, 1) := by decide +kernel
theorem dX12_markOf_12 : decode cX12_markOf 12 = .ok (.if_icmp .lt 23, 3) := by decide +kernel
theorem dX12_markOf_15 : decode cX12_markOf 15 = .ok (.aload_n 0, 1) := by decide +kernel
theorem dX12_markOf_16 : decode cX12_markOf 16 = .ok (.bipush 23, 2) := by decide +kernel
theorem dX12_markOf_18 : decode cX12_markOf 18 = .ok (.invokevirtual 280, 3) := by decide +kernel
theorem dX12_markOf_21 : decode cX12_markOf 21 = .ok (.aload_n 0, 1) := by decide +kernel
theorem dX12_markOf_22 : decode cX12_markOf 22 = .ok (.bipush 20, 2) := by decide +kernel
theorem dX12_markOf_24 : decode cX12_markOf 24 = .ok (.invokevirtual 280, 3) := by decide +kernel
theorem dX12_markOf_27 : decode cX12_markOf 27 = .ok (.iload_n 1, 1) := by decide +kernel
theorem dX12_markOf_28 : decode cX12_markOf 28 = .ok (.aload_n 0, 1) := by decide +kernel
theorem dX12_markOf_29 : decode cX12_markOf 29 = .ok (.iload_n 1, 1) := by decide +kernel
theorem dX12_markOf_30 : decode cX12_markOf 30 = .ok (.invokevirtual 286, 3) := by decide +kernel
theorem dX12_markOf_33 : decode cX12_markOf 33 = .ok (.isub, 1) := by decide +kernel
theorem dX12_markOf_34 : decode cX12_markOf 34 = .ok (.ireturn, 1) := by decide +kernel
theorem dX12_markOf_35 : decode cX12_markOf 35 = .ok (.iload_n 2, 1) := by decide +kernel
theorem dX12_markOf_36 : decode cX12_markOf 36 = .ok (.iconst 1, 1) := by decide +kernel
theorem dX12_markOf_37 : decode cX12_markOf 37 = .ok (.if_icmp .eq 19, 3) := by decide +kernel
theorem dX12_markOf_40 : decode cX12_markOf 40 = .ok (.aload_n 0, 1) := by decide +kernel
theorem dX12_markOf_41 : decode cX12_markOf 41 = .ok (.iload_n 2, 1) := by decide +kernel
theorem dX12_markOf_42 : decode cX12_markOf 42 = .ok (.iconst 3, 1) := by decide +kernel
theorem dX12_markOf_43 : decode cX12_markOf 43 = .ok (.if_icmp .ne 8, 3) := by decide +kernel
theorem dX12_markOf_46 : decode cX12_markOf 46 = .ok (.bipush 22, 2) := by decide +kernel
theorem dX12_markOf_48 : decode cX12_markOf 48 = .ok (.goto 5, 3) := by decide +kernel
theorem dX12_markOf_51 : decode cX12_markOf 51 = .ok (.bipush 24, 2) := by decide +kernel
theorem dX12_markOf_53 : decode cX12_markOf 53 = .ok (.invokevirtual 280, 3) := by decide +kernel
theorem dX12_markOf_56 : decode cX12_markOf 56 = .ok (.aload_n 0, 1) := by decide +kernel
theorem dX12_markOf_57 : decode cX12_markOf 57 = .ok (.bipush 21, 2) := by decide +kernel
theorem dX12_markOf_59 : decode cX12_markOf 59 = .ok (.invokevirtual 280, 3) := by decide +kernel
theorem dX12_markOf_62 : decode cX12_markOf 62 = .ok (.aload_n 0, 1) := by decide +kernel
theorem dX12_markOf_63 : decode cX12_markOf 63 = .ok (.bipush 20, 2) := by decide +kernel
theorem dX12_markOf_65 : decode cX12_markOf 65 = .ok (.invokevirtual 280, 3) := by decide +kernel
theorem dX12_markOf_68 : decode cX12_markOf 68 = .ok (.iload_n 1, 1) := by decide +kernel
theorem dX12_markOf_69 : decode cX12_markOf 69 = .ok (.aload_n 0, 1) := by decide +kernel
theorem dX12_markOf_70 : decode cX12_markOf 70 = .ok (.getfield 19, 3) := by decide +kernel
theorem dX12_markOf_73 : decode cX12_markOf 73 = .ok (.iload_n 1, 1) := by decide +kernel
theorem dX12_markOf_74 : decode cX12_markOf 74 = .ok (.iconst 1, 1) := by decide +kernel
theorem dX12_markOf_75 : decode cX12_markOf 75 = .ok (.invokestatic 183, 3) := by decide +kernel
theorem dX12_markOf_78 : decode cX12_markOf 78 = .ok (.iadd, 1) := by decide +kernel
theorem dX12_markOf_79 : decode cX12_markOf 79 = .ok (.istore_n 3, 1) := by decide +kernel
theorem dX12_markOf_80 : decode cX12_markOf 80 = .ok (.iload_n 2, 1) := by decide +kernel
theorem dX12_markOf_81 : decode cX12_markOf 81 = .ok (.iconst 1, 1) := by decide +kernel
theorem dX12_markOf_82 : decode cX12_markOf 82 = .ok (.if_icmp .ne 7, 3) := by decide +kernel
theorem dX12_markOf_85 : decode cX12_markOf 85 = .ok (.iload_n 3, 1) := by decide +kernel
theorem dX12_markOf_86 : decode cX12_markOf 86 = .ok (.goto 19, 3) := by decide +kernel
theorem dX12_markOf_89 : decode cX12_markOf 89 = .ok (.iload_n 2, 1) := by decide +kernel
theorem dX12_markOf_90 : decode cX12_markOf 90 = .ok (.iconst 3, 1) := by decide +kernel
theorem dX12_markOf_91 : decode cX12_markOf 91 = .ok (.if_icmp .ne 11, 3) := by decide +kernel
theorem dX12_markOf_94 : decode cX12_markOf 94 = .ok (.iload_n 3, 1) := by decide +kernel
theorem dX12_markOf_95 : decode cX12_markOf 95 = .ok (.sipush 1000, 3) := by decide +kernel
theorem dX12_markOf_98 : decode cX12_markOf 98 = .ok (.isub, 1) := by decide +kernel
theorem dX12_markOf_99 : decode cX12_markOf 99 = .ok (.goto 6, 3) := by decide +kernel
theorem dX12_markOf_102 : decode cX12_markOf 102 = .ok (.iconst 2, 1) := by decide +kernel
theorem dX12_markOf_103 : decode cX12_markOf 103 = .ok (.iload_n 3, 1) := by decide +kernel
theorem dX12_markOf_104 : decode cX12_markOf 104 = .ok (.imul, 1) := by decide +kernel
theorem dX12_markOf_105 : decode cX12_markOf 105 = .ok (.ireturn, 1) := by decide +kernel
theorem dX12_sizeOf_0 : decode cX12_sizeOf 0 = .ok (.aload_n 0, 1) := by decide +kernel
theorem dX12_sizeOf_1 : decode cX12_sizeOf 1 = .ok (.getfield 19, 3) := by decide +kernel
theorem dX12_sizeOf_4 : decode cX12_sizeOf 4 = .ok (.iload_n 1, 1) := by decide +kernel
theorem dX12_sizeOf_5 : decode cX12_sizeOf 5 = .ok (.iconst 0, 1) := by decide +kernel
theorem dX12_sizeOf_6 : decode cX12_sizeOf 6 = .ok (.invokestatic 183, 3) := by decide +kernel
theorem dX12_sizeOf_9 : decode cX12_sizeOf 9 = .ok (.istore_n 2, 1) := by decide +kernel
theorem dX12_sizeOf_10 : decode cX12_sizeOf 10 = .ok (.iload_n 2, 1) := by decide +kernel
theorem dX12_sizeOf_11 : decode cX12_sizeOf 11 = .ok (.iconst 4, 1) := by decide +kernel
theorem dX12_sizeOf_12 : decode cX12_sizeOf 12 = .ok (.if_icmp .lt 9, 3) := by decide +kernel
theorem dX12_sizeOf_15 : decode cX12_sizeOf 15 = .ok (.aload_n 0, 1) := by decide +kernel
theorem dX12_sizeOf_16 : decode cX12_sizeOf 16 = .ok (.iload_n 1, 1) := by decide +kernel
theorem dX12_sizeOf_17 : decode cX12_sizeOf 17 = .ok (.invokevirtual 286, 3) := by decide +kernel
theorem dX12_sizeOf_20 : decode cX12_sizeOf 20 = .ok (.ireturn, 1) := by decide +kernel
theorem dX12_sizeOf_21 : decode cX12_sizeOf 21 = .ok (.iload_n 2, 1) := by decide +kernel
theorem dX12_sizeOf_22 : decode cX12_sizeOf 22 = .ok (.iconst 2, 1) := by decide +kernel
theorem dX12_sizeOf_23 : decode cX12_sizeOf 23 = .ok (.if_icmp .ne 9, 3) := by decide +kernel
theorem dX12_sizeOf_26 : decode cX12_sizeOf 26 = .ok (.aload_n 0, 1) := by decide +kernel
theorem dX12_sizeOf_27 : decode cX12_sizeOf 27 = .ok (.bipush 12, 2) := by decide +kernel
theorem dX12_sizeOf_29 : decode cX12_sizeOf 29 = .ok (.invokevirtual 280, 3) := by decide +kernel
theorem dX12_sizeOf_32 : decode cX12_sizeOf 32 = .ok (.aload_n 0, 1) := by decide +kernel
theorem dX12_sizeOf_33 : decode cX12_sizeOf 33 = .ok (.bipush 11, 2) := by decide +kernel
theorem dX12_sizeOf_35 : decode cX12_sizeOf 35 = .ok (.invokevirtual 280, 3) := by decide +kernel
theorem dX12_sizeOf_38 : decode cX12_sizeOf 38 = .ok (.aload_n 0, 1) := by decide +kernel
theorem dX12_sizeOf_39 : decode cX12_sizeOf 39 = .ok (.iload_n 1, 1) := by decide +kernel
theorem dX12_sizeOf_40 : decode cX12_sizeOf 40 = .ok (.invokevirtual 283, 3) := by decide +kernel
theorem dX12_sizeOf_43 : decode cX12_sizeOf 43 = .ok (.istore_n 3, 1) := by decide +kernel
theorem dX12_sizeOf_44 : decode cX12_sizeOf 44 = .ok (.iload_n 3, 1) := by decide +kernel
theorem dX12_sizeOf_45 : decode cX12_sizeOf 45 = .ok (.aload_n 0, 1) := by decide +kernel
theorem dX12_sizeOf_46 : decode cX12_sizeOf 46 = .ok (.iload_n 1, 1) := by decide +kernel
theorem dX12_sizeOf_47 : decode cX12_sizeOf 47 = .ok (.invokevirtual 289, 3) := by decide +kernel
theorem dX12_sizeOf_50 : decode cX12_sizeOf 50 = .ok (.iadd, 1) := by decide +kernel
theorem dX12_sizeOf_51 : decode cX12_sizeOf 51 = .ok (.istore_n 3, 1) := by decide +kernel
theorem dX12_sizeOf_52 : decode cX12_sizeOf 52 = .ok (.iload_n 2, 1) := by decide +kernel
theorem dX12_sizeOf_53 : decode cX12_sizeOf 53 = .ok (.iconst 2, 1) := by decide +kernel
theorem dX12_sizeOf_54 : decode cX12_sizeOf 54 = .ok (.if_icmp .ne 8, 3) := by decide +kernel
theorem dX12_sizeOf_57 : decode cX12_sizeOf 57 = .ok (.iload_n 3, 1) := by decide +kernel
theorem dX12_sizeOf_58 : decode cX12_sizeOf 58 = .ok (.ineg, 1) := by decide +kernel
theorem dX12_sizeOf_59 : decode cX12_sizeOf 59 = .ok (.goto 4, 3) := by decide +kernel
theorem dX12_sizeOf_62 : decode cX12_sizeOf 62 = .ok (.iload_n 3, 1) := by decide +kernel
theorem dX12_sizeOf_63 : decode cX12_sizeOf 63 = .ok (.ireturn, 1) := by decide +kernel
theorem dX12_ask_0 : decode cX12_ask 0 = .ok (.aload_n 0, 1) := by decide +kernel
theorem dX12_ask_1 : decode cX12_ask 1 = .ok (.iconst 0, 1) := by decide +kernel
theorem dX12_ask_2 : decode cX12_ask 2 = .ok (.putfield 47, 3) := by decide +kernel
theorem dX12_ask_5 : decode cX12_ask 5 = .ok (.aload_n 0, 1) := by decide +kernel
theorem dX12_ask_6 : decode cX12_ask 6 = .ok (.iload_n 1, 1) := by decide +kernel
theorem dX12_ask_7 : decode cX12_ask 7 = .ok (.invokevirtual 236, 3) := by decide +kernel
theorem dX12_ask_10 : decode cX12_ask 10 = .ok (.ifCond .eq 13, 3) := by decide +kernel
theorem dX12_ask_13 : decode cX12_ask 13 = .ok (.iload_n 2, 1) := by decide +kernel
theorem dX12_ask_14 : decode cX12_ask 14 = .ok (.i2l, 1) := by decide +kernel
theorem dX12_ask_15 : decode cX12_ask 15 = .ok (.lconst 0, 1) := by decide +kernel
theorem dX12_ask_16 : decode cX12_ask 16 = .ok (.lconst 1, 1) := by decide +kernel
theorem dX12_ask_17 : decode cX12_ask 17 = .ok (.invokestatic 57, 3) := by decide +kernel
theorem dX12_ask_20 : decode cX12_ask 20 = .ok (.ifCond .ne 6, 3) := by decide +kernel
theorem dX12_ask_23 : decode cX12_ask 23 = .ok (.ldc 67, 2) := by decide +kernel
theorem dX12_ask_25 : decode cX12_ask 25 = .ok (.ireturn, 1) := by decide +kernel
theorem dX12_ask_26 : decode cX12_ask 26 = .ok (.aload_n 0, 1) := by decide +kernel
theorem dX12_ask_27 : decode cX12_ask 27 = .ok (.iconst 0, 1) := by decide +kernel
theorem dX12_ask_28 : decode cX12_ask 28 = .ok (.putfield 277, 3) := by decide +kernel
theorem dX12_ask_31 : decode cX12_ask 31 = .ok (.iload_n 2, 1) := by decide +kernel
theorem dX12_ask_32 : decode cX12_ask 32 = .ok (.ifCond .ne 11, 3) := by decide +kernel
theorem dX12_ask_35 : decode cX12_ask 35 = .ok (.aload_n 0, 1) := by decide +kernel
theorem dX12_ask_36 : decode cX12_ask 36 = .ok (.iload_n 1, 1) := by decide +kernel
theorem dX12_ask_37 : decode cX12_ask 37 = .ok (.invokevirtual 292, 3) := by decide +kernel
theorem dX12_ask_40 : decode cX12_ask 40 = .ok (.goto 8, 3) := by decide +kernel
theorem dX12_ask_43 : decode cX12_ask 43 = .ok (.aload_n 0, 1) := by decide +kernel
theorem dX12_ask_44 : decode cX12_ask 44 = .ok (.iload_n 1, 1) := by decide +kernel
theorem dX12_ask_45 : decode cX12_ask 45 = .ok (.invokevirtual 289, 3) := by decide +kernel
theorem dX12_ask_48 : decode cX12_ask 48 = .ok (.ireturn, 1) := by decide +kernel
theorem dX12_trace_0 : decode cX12_trace 0 = .ok (.aload_n 0, 1) := by decide +kernel
theorem dX12_trace_1 : decode cX12_trace 1 = .ok (.iconst 0, 1) := by decide +kernel
theorem dX12_trace_2 : decode cX12_trace 2 = .ok (.putfield 47, 3) := by decide +kernel
theorem dX12_trace_5 : decode cX12_trace 5 = .ok (.iload_n 1, 1) := by decide +kernel
theorem dX12_trace_6 : decode cX12_trace 6 = .ok (.i2l, 1) := by decide +kernel
theorem dX12_trace_7 : decode cX12_trace 7 = .ok (.lconst 0, 1) := by decide +kernel
theorem dX12_trace_8 : decode cX12_trace 8 = .ok (.aload_n 0, 1) := by decide +kernel
theorem dX12_trace_9 : decode cX12_trace 9 = .ok (.getfield 277, 3) := by decide +kernel
theorem dX12_trace_12 : decode cX12_trace 12 = .ok (.iconst 1, 1) := by decide +kernel
theorem dX12_trace_13 : decode cX12_trace 13 = .ok (.isub, 1) := by decide +kernel
theorem dX12_trace_14 : decode cX12_trace 14 = .ok (.i2l, 1) := by decide +kernel
theorem dX12_trace_15 : decode cX12_trace 15 = .ok (.invokestatic 57, 3) := by decide +kernel
theorem dX12_trace_18 : decode cX12_trace 18 = .ok (.ifCond .eq 12, 3) := by decide +kernel
theorem dX12_trace_21 : decode cX12_trace 21 = .ok (.aload_n 0, 1) := by decide +kernel
theorem dX12_trace_22 : decode cX12_trace 22 = .ok (.getfield 44, 3) := by decide +kernel
theorem dX12_trace_25 : decode cX12_trace 25 = .ok (.iload_n 1, 1) := by decide +kernel
theorem dX12_trace_26 : decode cX12_trace 26 = .ok (.iaload, 1) := by decide +kernel
theorem dX12_trace_27 : decode cX12_trace 27 = .ok (.goto 5, 3) := by decide +kernel
theorem dX12_trace_30 : decode cX12_trace 30 = .ok (.ldc 90, 2) := by decide +kernel
theorem dX12_trace_32 : decode cX12_trace 32 = .ok (.ireturn, 1) := by decide +kernel
theorem dX12_count_0 : decode cX12_count 0 = .ok (.aload_n 0, 1) := by decide +kernel
theorem dX12_count_1 : decode cX12_count 1 = .ok (.iconst 0, 1) := by decide +kernel
theorem dX12_count_2 : decode cX12_count 2 = .ok (.putfield 47, 3) := by decide +kernel
theorem dX12_count_5 : decode cX12_count 5 = .ok (.iconst 0, 1) := by decide +kernel
theorem dX12_count_6 : decode cX12_count 6 = .ok (.istore_n 2, 1) := by decide +kernel
theorem dX12_count_7 : decode cX12_count 7 = .ok (.iload_n 1, 1) := by decide +kernel
theorem dX12_count_8 : decode cX12_count 8 = .ok (.tableswitch 130 0 7 #[48, 81, 88, 95, 102, 113, 120, 125], 48) := by decide +kernel
theorem dX12_count_56 : decode cX12_count 56 = .ok (.iconst 0, 1) := by decide +kernel
theorem dX12_count_57 : decode cX12_count 57 = .ok (.istore_n 3, 1) := by decide +kernel
theorem dX12_count_58 : decode cX12_count 58 = .ok (.iload_n 3, 1) := by decide +kernel
theorem dX12_count_59 : decode cX12_count 59 = .ok (.bipush 8, 2) := by decide +kernel
theorem dX12_count_61 : decode cX12_count 61 = .ok (.if_icmp .ge 26, 3) := by decide +kernel
theorem dX12_count_64 : decode cX12_count 64 = .ok (.iload_n 2, 1) := by decide +kernel
theorem dX12_count_65 : decode cX12_count 65 = .ok (.aload_n 0, 1) := by decide +kernel
theorem dX12_count_66 : decode cX12_count 66 = .ok (.getfield 7, 3) := by decide +kernel
theorem dX12_count_69 : decode cX12_count 69 = .ok (.iload_n 3, 1) := by decide +kernel
theorem dX12_count_70 : decode cX12_count 70 = .ok (.iaload, 1) := by decide +kernel
theorem dX12_count_71 : decode cX12_count 71 = .ok (.ifCond .lt 7, 3) := by decide +kernel
theorem dX12_count_74 : decode cX12_count 74 = .ok (.iconst 1, 1) := by decide +kernel
theorem dX12_count_75 : decode cX12_count 75 = .ok (.goto 4, 3) := by decide +kernel
theorem dX12_count_78 : decode cX12_count 78 = .ok (.iconst 0, 1) := by decide +kernel
theorem dX12_count_79 : decode cX12_count 79 = .ok (.iadd, 1) := by decide +kernel
theorem dX12_count_80 : decode cX12_count 80 = .ok (.istore_n 2, 1) := by decide +kernel
theorem dX12_count_81 : decode cX12_count 81 = .ok (.iinc 3 1, 3) := by decide +kernel
theorem dX12_count_84 : decode cX12_count 84 = .ok (.goto (-26), 3) := by decide +kernel
theorem dX12_count_87 : decode cX12_count 87 = .ok (.iload_n 2, 1) := by decide +kernel
theorem dX12_count_88 : decode cX12_count 88 = .ok (.ireturn, 1) := by decide +kernel
theorem dX12_count_89 : decode cX12_count 89 = .ok (.aload_n 0, 1) := by decide +kernel
theorem dX12_count_90 : decode cX12_count 90 = .ok (.getfield 19, 3) := by decide +kernel
theorem dX12_count_93 : decode cX12_count 93 = .ok (.iconst 3, 1) := by decide +kernel
theorem dX12_count_94 : decode cX12_count 94 = .ok (.iaload, 1) := by decide +kernel
theorem dX12_count_95 : decode cX12_count 95 = .ok (.ireturn, 1) := by decide +kernel
theorem dX12_count_96 : decode cX12_count 96 = .ok (.aload_n 0, 1) := by decide +kernel
theorem dX12_count_97 : decode cX12_count 97 = .ok (.getfield 19, 3) := by decide +kernel
theorem dX12_count_100 : decode cX12_count 100 = .ok (.iconst 4, 1) := by decide +kernel
theorem dX12_count_101 : decode cX12_count 101 = .ok (.iaload, 1) := by decide +kernel
theorem dX12_count_102 : decode cX12_count 102 = .ok (.ireturn, 1) := by decide +kernel
theorem dX12_count_103 : decode cX12_count 103 = .ok (.aload_n 0, 1) := by decide +kernel
theorem dX12_count_104 : decode cX12_count 104 = .ok (.getfield 19, 3) := by decide +kernel
theorem dX12_count_107 : decode cX12_count 107 = .ok (.iconst 5, 1) := by decide +kernel
theorem dX12_count_108 : decode cX12_count 108 = .ok (.iaload, 1) := by decide +kernel
theorem dX12_count_109 : decode cX12_count 109 = .ok (.ireturn, 1) := by decide +kernel
theorem dX12_count_110 : decode cX12_count 110 = .ok (.aload_n 0, 1) := by decide +kernel
theorem dX12_count_111 : decode cX12_count 111 = .ok (.getfield 19, 3) := by decide +kernel
theorem dX12_count_114 : decode cX12_count 114 = .ok (.invokestatic 221, 3) := by decide +kernel
theorem dX12_count_117 : decode cX12_count 117 = .ok (.invokestatic 246, 3) := by decide +kernel
theorem dX12_count_120 : decode cX12_count 120 = .ok (.ireturn, 1) := by decide +kernel
theorem dX12_count_121 : decode cX12_count 121 = .ok (.aload_n 0, 1) := by decide +kernel
theorem dX12_count_122 : decode cX12_count 122 = .ok (.getfield 19, 3) := by decide +kernel
theorem dX12_count_125 : decode cX12_count 125 = .ok (.iconst 2, 1) := by decide +kernel
theorem dX12_count_126 : decode cX12_count 126 = .ok (.iaload, 1) := by decide +kernel
theorem dX12_count_127 : decode cX12_count 127 = .ok (.ireturn, 1) := by decide +kernel
theorem dX12_count_128 : decode cX12_count 128 = .ok (.aload_n 0, 1) := by decide +kernel
theorem dX12_count_129 : decode cX12_count 129 = .ok (.getfield 150, 3) := by decide +kernel
theorem dX12_count_132 : decode cX12_count 132 = .ok (.ireturn, 1) := by decide +kernel
theorem dX12_count_133 : decode cX12_count 133 = .ok (.aload_n 0, 1) := by decide +kernel
theorem dX12_count_134 : decode cX12_count 134 = .ok (.getfield 74, 3) := by decide +kernel
theorem dX12_count_137 : decode cX12_count 137 = .ok (.ireturn, 1) := by decide +kernel
theorem dX12_count_138 : decode cX12_count 138 = .ok (.ldc 67, 2) := by decide +kernel
theorem dX12_count_140 : decode cX12_count 140 = .ok (.ireturn, 1) := by decide +kernel
theorem dX12_status_0 : decode cX12_status 0 = .ok (.aload_n 0, 1) := by decide +kernel
theorem dX12_status_1 : decode cX12_status 1 = .ok (.iconst 0, 1) := by decide +kernel
theorem dX12_status_2 : decode cX12_status 2 = .ok (.putfield 47, 3) := by decide +kernel
theorem dX12_status_5 : decode cX12_status 5 = .ok (.aload_n 0, 1) := by decide +kernel
theorem dX12_status_6 : decode cX12_status 6 = .ok (.getfield 51, 3) := by decide +kernel
theorem dX12_status_9 : decode cX12_status 9 = .ok (.ireturn, 1) := by decide +kernel
theorem dJ6_bitCount_0f7a4_0 : decode cJ6_bitCount_0f7a4 0 = .ok (.iload_n 0, 1) := by decide +kernel
theorem dJ6_bitCount_0f7a4_1 : decode cJ6_bitCount_0f7a4 1 = .ok (.iload_n 0, 1) := by decide +kernel
theorem dJ6_bitCount_0f7a4_2 : decode cJ6_bitCount_0f7a4 2 = .ok (.iconst 1, 1) := by decide +kernel
theorem dJ6_bitCount_0f7a4_3 : decode cJ6_bitCount_0f7a4 3 = .ok (.iushr, 1) := by decide +kernel
theorem dJ6_bitCount_0f7a4_4 : decode cJ6_bitCount_0f7a4 4 = .ok (.ldc_w 265, 3) := by decide +kernel
theorem dJ6_bitCount_0f7a4_7 : decode cJ6_bitCount_0f7a4 7 = .ok (.iand, 1) := by decide +kernel
theorem dJ6_bitCount_0f7a4_8 : decode cJ6_bitCount_0f7a4 8 = .ok (.isub, 1) := by decide +kernel
theorem dJ6_bitCount_0f7a4_9 : decode cJ6_bitCount_0f7a4 9 = .ok (.istore_n 0, 1) := by decide +kernel
theorem dJ6_bitCount_0f7a4_10 : decode cJ6_bitCount_0f7a4 10 = .ok (.iload_n 0, 1) := by decide +kernel
theorem dJ6_bitCount_0f7a4_11 : decode cJ6_bitCount_0f7a4 11 = .ok (.ldc_w 266, 3) := by decide +kernel
theorem dJ6_bitCount_0f7a4_14 : decode cJ6_bitCount_0f7a4 14 = .ok (.iand, 1) := by decide +kernel
theorem dJ6_bitCount_0f7a4_15 : decode cJ6_bitCount_0f7a4 15 = .ok (.iload_n 0, 1) := by decide +kernel
theorem dJ6_bitCount_0f7a4_16 : decode cJ6_bitCount_0f7a4 16 = .ok (.iconst 2, 1) := by decide +kernel
theorem dJ6_bitCount_0f7a4_17 : decode cJ6_bitCount_0f7a4 17 = .ok (.iushr, 1) := by decide +kernel
theorem dJ6_bitCount_0f7a4_18 : decode cJ6_bitCount_0f7a4 18 = .ok (.ldc_w 266, 3) := by decide +kernel
theorem dJ6_bitCount_0f7a4_21 : decode cJ6_bitCount_0f7a4 21 = .ok (.iand, 1) := by decide +kernel
theorem dJ6_bitCount_0f7a4_22 : decode cJ6_bitCount_0f7a4 22 = .ok (.iadd, 1) := by decide +kernel
theorem dJ6_bitCount_0f7a4_23 : decode cJ6_bitCount_0f7a4 23 = .ok (.istore_n 0, 1) := by decide +kernel
theorem dJ6_bitCount_0f7a4_24 : decode cJ6_bitCount_0f7a4 24 = .ok (.iload_n 0, 1) := by decide +kernel
theorem dJ6_bitCount_0f7a4_25 : decode cJ6_bitCount_0f7a4 25 = .ok (.iload_n 0, 1) := by decide +kernel
theorem dJ6_bitCount_0f7a4_26 : decode cJ6_bitCount_0f7a4 26 = .ok (.iconst 4, 1) := by decide +kernel
theorem dJ6_bitCount_0f7a4_27 : decode cJ6_bitCount_0f7a4 27 = .ok (.iushr, 1) := by decide +kernel
theorem dJ6_bitCount_0f7a4_28 : decode cJ6_bitCount_0f7a4 28 = .ok (.iadd, 1) := by decide +kernel
theorem dJ6_bitCount_0f7a4_29 : decode cJ6_bitCount_0f7a4 29 = .ok (.ldc_w 267, 3) := by decide +kernel
theorem dJ6_bitCount_0f7a4_32 : decode cJ6_bitCount_0f7a4 32 = .ok (.iand, 1) := by decide +kernel
theorem dJ6_bitCount_0f7a4_33 : decode cJ6_bitCount_0f7a4 33 = .ok (.istore_n 0, 1) := by decide +kernel
theorem dJ6_bitCount_0f7a4_34 : decode cJ6_bitCount_0f7a4 34 = .ok (.iload_n 0, 1) := by decide +kernel
theorem dJ6_bitCount_0f7a4_35 : decode cJ6_bitCount_0f7a4 35 = .ok (.iload_n 0, 1) := by decide +kernel
theorem dJ6_bitCount_0f7a4_36 : decode cJ6_bitCount_0f7a4 36 = .ok (.bipush 8, 2) := by decide +kernel
theorem dJ6_bitCount_0f7a4_38 : decode cJ6_bitCount_0f7a4 38 = .ok (.iushr, 1) := by decide +kernel
theorem dJ6_bitCount_0f7a4_39 : decode cJ6_bitCount_0f7a4 39 = .ok (.iadd, 1) := by decide +kernel
theorem dJ6_bitCount_0f7a4_40 : decode cJ6_bitCount_0f7a4 40 = .ok (.istore_n 0, 1) := by decide +kernel
theorem dJ6_bitCount_0f7a4_41 : decode cJ6_bitCount_0f7a4 41 = .ok (.iload_n 0, 1) := by decide +kernel
theorem dJ6_bitCount_0f7a4_42 : decode cJ6_bitCount_0f7a4 42 = .ok (.iload_n 0, 1) := by decide +kernel
theorem dJ6_bitCount_0f7a4_43 : decode cJ6_bitCount_0f7a4 43 = .ok (.bipush 16, 2) := by decide +kernel
theorem dJ6_bitCount_0f7a4_45 : decode cJ6_bitCount_0f7a4 45 = .ok (.iushr, 1) := by decide +kernel
theorem dJ6_bitCount_0f7a4_46 : decode cJ6_bitCount_0f7a4 46 = .ok (.iadd, 1) := by decide +kernel
theorem dJ6_bitCount_0f7a4_47 : decode cJ6_bitCount_0f7a4 47 = .ok (.istore_n 0, 1) := by decide +kernel
theorem dJ6_bitCount_0f7a4_48 : decode cJ6_bitCount_0f7a4 48 = .ok (.iload_n 0, 1) := by decide +kernel
theorem dJ6_bitCount_0f7a4_49 : decode cJ6_bitCount_0f7a4 49 = .ok (.bipush 63, 2) := by decide +kernel
theorem dJ6_bitCount_0f7a4_51 : decode cJ6_bitCount_0f7a4 51 = .ok (.iand, 1) := by decide +kernel
theorem dJ6_bitCount_0f7a4_52 : decode cJ6_bitCount_0f7a4 52 = .ok (.ireturn, 1) := by decide +kernel
theorem dJ9_min_7cf53_0 : decode cJ9_min_7cf53 0 = .ok (.iload_n 0, 1) := by decide +kernel
theorem dJ9_min_7cf53_1 : decode cJ9_min_7cf53 1 = .ok (.iload_n 1, 1) := by decide +kernel
theorem dJ9_min_7cf53_2 : decode cJ9_min_7cf53 2 = .ok (.if_icmp .gt 7, 3) := by decide +kernel
theorem dJ9_min_7cf53_5 : decode cJ9_min_7cf53 5 = .ok (.iload_n 0, 1) := by decide +kernel
theorem dJ9_min_7cf53_6 : decode cJ9_min_7cf53 6 = .ok (.goto 4, 3) := by decide +kernel
theorem dJ9_min_7cf53_9 : decode cJ9_min_7cf53 9 = .ok (.iload_n 1, 1) := by decide +kernel
theorem dJ9_min_7cf53_10 : decode cJ9_min_7cf53 10 = .ok (.ireturn, 1) := by decide +kernel
theorem dL_law_0 : decode cL_law 0 = .ok (.new 7, 3) := by decide +kernel
theorem dL_law_3 : decode cL_law 3 = .ok (.dup, 1) := by decide +kernel
theorem dL_law_4 : decode cL_law 4 = .ok (.invokespecial 9, 3) := by decide +kernel
theorem dL_law_7 : decode cL_law 7 = .ok (.astore_n 1, 1) := by decide +kernel
theorem dL_law_8 : decode cL_law 8 = .ok (.new 10, 3) := by decide +kernel
theorem dL_law_11 : decode cL_law 11 = .ok (.dup, 1) := by decide +kernel
theorem dL_law_12 : decode cL_law 12 = .ok (.invokespecial 12, 3) := by decide +kernel
theorem dL_law_15 : decode cL_law 15 = .ok (.astore_n 2, 1) := by decide +kernel
theorem dL_law_16 : decode cL_law 16 = .ok (.iconst 0, 1) := by decide +kernel
theorem dL_law_17 : decode cL_law 17 = .ok (.istore_n 3, 1) := by decide +kernel
theorem dL_law_18 : decode cL_law 18 = .ok (.iload_n 3, 1) := by decide +kernel
theorem dL_law_19 : decode cL_law 19 = .ok (.aload_n 0, 1) := by decide +kernel
theorem dL_law_20 : decode cL_law 20 = .ok (.arraylength, 1) := by decide +kernel
theorem dL_law_21 : decode cL_law 21 = .ok (.bipush 6, 2) := by decide +kernel
theorem dL_law_23 : decode cL_law 23 = .ok (.isub, 1) := by decide +kernel
theorem dL_law_24 : decode cL_law 24 = .ok (.if_icmp .gt 1220, 3) := by decide +kernel
theorem dL_law_27 : decode cL_law 27 = .ok (.aload_n 0, 1) := by decide +kernel
theorem dL_law_28 : decode cL_law 28 = .ok (.iload_n 3, 1) := by decide +kernel
theorem dL_law_29 : decode cL_law 29 = .ok (.iaload, 1) := by decide +kernel
theorem dL_law_30 : decode cL_law 30 = .ok (.bipush 63, 2) := by decide +kernel
theorem dL_law_32 : decode cL_law 32 = .ok (.iand, 1) := by decide +kernel
theorem dL_law_33 : decode cL_law 33 = .ok (.tableswitch 1205 0 36 #[163, 206, 249, 312, 335, 358, 371, 384, 397, 420, 443, 476, 499, 532, 565, 588, 611, 634, 667, 700, 723, 756, 779, 802, 835, 888, 911, 924, 968, 1011, 1034, 1057, 1080, 1113, 1146, 1169, 1192], 163) := by decide +kernel
theorem dL_law_196 : decode cL_law 196 = .ok (.aload_n 1, 1) := by decide +kernel
theorem dL_law_197 : decode cL_law 197 = .ok (.aload_n 0, 1) := by decide +kernel
theorem dL_law_198 : decode cL_law 198 = .ok (.iload_n 3, 1) := by decide +kernel
theorem dL_law_199 : decode cL_law 199 = .ok (.iconst 1, 1) := by decide +kernel
theorem dL_law_200 : decode cL_law 200 = .ok (.iadd, 1) := by decide +kernel
theorem dL_law_201 : decode cL_law 201 = .ok (.iaload, 1) := by decide +kernel
theorem dL_law_202 : decode cL_law 202 = .ok (.aload_n 0, 1) := by decide +kernel
theorem dL_law_203 : decode cL_law 203 = .ok (.iload_n 3, 1) := by decide +kernel
theorem dL_law_204 : decode cL_law 204 = .ok (.iconst 2, 1) := by decide +kernel
theorem dL_law_205 : decode cL_law 205 = .ok (.iadd, 1) := by decide +kernel
theorem dL_law_206 : decode cL_law 206 = .ok (.iaload, 1) := by decide +kernel
theorem dL_law_207 : decode cL_law 207 = .ok (.aload_n 0, 1) := by decide +kernel
theorem dL_law_208 : decode cL_law 208 = .ok (.iload_n 3, 1) := by decide +kernel
theorem dL_law_209 : decode cL_law 209 = .ok (.iconst 3, 1) := by decide +kernel
theorem dL_law_210 : decode cL_law 210 = .ok (.iadd, 1) := by decide +kernel
theorem dL_law_211 : decode cL_law 211 = .ok (.iaload, 1) := by decide +kernel
theorem dL_law_212 : decode cL_law 212 = .ok (.invokevirtual 13, 3) := by decide +kernel
theorem dL_law_215 : decode cL_law 215 = .ok (.aload_n 2, 1) := by decide +kernel
theorem dL_law_216 : decode cL_law 216 = .ok (.aload_n 0, 1) := by decide +kernel
theorem dL_law_217 : decode cL_law 217 = .ok (.iload_n 3, 1) := by decide +kernel
theorem dL_law_218 : decode cL_law 218 = .ok (.iconst 1, 1) := by decide +kernel
theorem dL_law_219 : decode cL_law 219 = .ok (.iadd, 1) := by decide +kernel
theorem dL_law_220 : decode cL_law 220 = .ok (.iaload, 1) := by decide +kernel
theorem dL_law_221 : decode cL_law 221 = .ok (.aload_n 0, 1) := by decide +kernel
theorem dL_law_222 : decode cL_law 222 = .ok (.iload_n 3, 1) := by decide +kernel
theorem dL_law_223 : decode cL_law 223 = .ok (.iconst 2, 1) := by decide +kernel
theorem dL_law_224 : decode cL_law 224 = .ok (.iadd, 1) := by decide +kernel
theorem dL_law_225 : decode cL_law 225 = .ok (.iaload, 1) := by decide +kernel
theorem dL_law_226 : decode cL_law 226 = .ok (.aload_n 0, 1) := by decide +kernel
theorem dL_law_227 : decode cL_law 227 = .ok (.iload_n 3, 1) := by decide +kernel
theorem dL_law_228 : decode cL_law 228 = .ok (.iconst 3, 1) := by decide +kernel
theorem dL_law_229 : decode cL_law 229 = .ok (.iadd, 1) := by decide +kernel
theorem dL_law_230 : decode cL_law 230 = .ok (.iaload, 1) := by decide +kernel
theorem dL_law_231 : decode cL_law 231 = .ok (.invokevirtual 17, 3) := by decide +kernel
theorem dL_law_234 : decode cL_law 234 = .ok (.if_icmp .eq 1004, 3) := by decide +kernel
theorem dL_law_237 : decode cL_law 237 = .ok (.iconst 0, 1) := by decide +kernel
theorem dL_law_238 : decode cL_law 238 = .ok (.ireturn, 1) := by decide +kernel
theorem dL_law_239 : decode cL_law 239 = .ok (.aload_n 1, 1) := by decide +kernel
theorem dL_law_240 : decode cL_law 240 = .ok (.aload_n 0, 1) := by decide +kernel
theorem dL_law_241 : decode cL_law 241 = .ok (.iload_n 3, 1) := by decide +kernel
theorem dL_law_242 : decode cL_law 242 = .ok (.iconst 1, 1) := by decide +kernel
theorem dL_law_243 : decode cL_law 243 = .ok (.iadd, 1) := by decide +kernel
theorem dL_law_244 : decode cL_law 244 = .ok (.iaload, 1) := by decide +kernel
theorem dL_law_245 : decode cL_law 245 = .ok (.aload_n 0, 1) := by decide +kernel
theorem dL_law_246 : decode cL_law 246 = .ok (.iload_n 3, 1) := by decide +kernel
theorem dL_law_247 : decode cL_law 247 = .ok (.iconst 2, 1) := by decide +kernel
theorem dL_law_248 : decode cL_law 248 = .ok (.iadd, 1) := by decide +kernel
theorem dL_law_249 : decode cL_law 249 = .ok (.iaload, 1) := by decide +kernel
theorem dL_law_250 : decode cL_law 250 = .ok (.aload_n 0, 1) := by decide +kernel
theorem dL_law_251 : decode cL_law 251 = .ok (.iload_n 3, 1) := by decide +kernel
theorem dL_law_252 : decode cL_law 252 = .ok (.iconst 3, 1) := by decide +kernel
theorem dL_law_253 : decode cL_law 253 = .ok (.iadd, 1) := by decide +kernel
theorem dL_law_254 : decode cL_law 254 = .ok (.iaload, 1) := by decide +kernel
theorem dL_law_255 : decode cL_law 255 = .ok (.invokevirtual 18, 3) := by decide +kernel
theorem dL_law_258 : decode cL_law 258 = .ok (.aload_n 2, 1) := by decide +kernel
theorem dL_law_259 : decode cL_law 259 = .ok (.aload_n 0, 1) := by decide +kernel
theorem dL_law_260 : decode cL_law 260 = .ok (.iload_n 3, 1) := by decide +kernel
theorem dL_law_261 : decode cL_law 261 = .ok (.iconst 1, 1) := by decide +kernel
theorem dL_law_262 : decode cL_law 262 = .ok (.iadd, 1) := by decide +kernel
theorem dL_law_263 : decode cL_law 263 = .ok (.iaload, 1) := by decide +kernel
theorem dL_law_264 : decode cL_law 264 = .ok (.aload_n 0, 1) := by decide +kernel
theorem dL_law_265 : decode cL_law 265 = .ok (.iload_n 3, 1) := by decide +kernel
theorem dL_law_266 : decode cL_law 266 = .ok (.iconst 2, 1) := by decide +kernel
theorem dL_law_267 : decode cL_law 267 = .ok (.iadd, 1) := by decide +kernel
theorem dL_law_268 : decode cL_law 268 = .ok (.iaload, 1) := by decide +kernel
theorem dL_law_269 : decode cL_law 269 = .ok (.aload_n 0, 1) := by decide +kernel
theorem dL_law_270 : decode cL_law 270 = .ok (.iload_n 3, 1) := by decide +kernel
theorem dL_law_271 : decode cL_law 271 = .ok (.iconst 3, 1) := by decide +kernel
theorem dL_law_272 : decode cL_law 272 = .ok (.iadd, 1) := by decide +kernel
theorem dL_law_273 : decode cL_law 273 = .ok (.iaload, 1) := by decide +kernel
theorem dL_law_274 : decode cL_law 274 = .ok (.invokevirtual 21, 3) := by decide +kernel
theorem dL_law_277 : decode cL_law 277 = .ok (.if_icmp .eq 961, 3) := by decide +kernel
theorem dL_law_280 : decode cL_law 280 = .ok (.iconst 0, 1) := by decide +kernel
theorem dL_law_281 : decode cL_law 281 = .ok (.ireturn, 1) := by decide +kernel
theorem dL_law_282 : decode cL_law 282 = .ok (.aload_n 1, 1) := by decide +kernel
theorem dL_law_283 : decode cL_law 283 = .ok (.aload_n 0, 1) := by decide +kernel
theorem dL_law_284 : decode cL_law 284 = .ok (.iload_n 3, 1) := by decide +kernel
theorem dL_law_285 : decode cL_law 285 = .ok (.iconst 1, 1) := by decide +kernel
theorem dL_law_286 : decode cL_law 286 = .ok (.iadd, 1) := by decide +kernel
theorem dL_law_287 : decode cL_law 287 = .ok (.iaload, 1) := by decide +kernel
theorem dL_law_288 : decode cL_law 288 = .ok (.aload_n 0, 1) := by decide +kernel
theorem dL_law_289 : decode cL_law 289 = .ok (.iload_n 3, 1) := by decide +kernel
theorem dL_law_290 : decode cL_law 290 = .ok (.iconst 2, 1) := by decide +kernel
theorem dL_law_291 : decode cL_law 291 = .ok (.iadd, 1) := by decide +kernel
theorem dL_law_292 : decode cL_law 292 = .ok (.iaload, 1) := by decide +kernel
theorem dL_law_293 : decode cL_law 293 = .ok (.aload_n 0, 1) := by decide +kernel
theorem dL_law_294 : decode cL_law 294 = .ok (.iload_n 3, 1) := by decide +kernel
theorem dL_law_295 : decode cL_law 295 = .ok (.iconst 3, 1) := by decide +kernel
theorem dL_law_296 : decode cL_law 296 = .ok (.iadd, 1) := by decide +kernel
theorem dL_law_297 : decode cL_law 297 = .ok (.iaload, 1) := by decide +kernel
theorem dL_law_298 : decode cL_law 298 = .ok (.aload_n 0, 1) := by decide +kernel
theorem dL_law_299 : decode cL_law 299 = .ok (.iload_n 3, 1) := by decide +kernel
theorem dL_law_300 : decode cL_law 300 = .ok (.iconst 4, 1) := by decide +kernel
theorem dL_law_301 : decode cL_law 301 = .ok (.iadd, 1) := by decide +kernel
theorem dL_law_302 : decode cL_law 302 = .ok (.iaload, 1) := by decide +kernel
theorem dL_law_303 : decode cL_law 303 = .ok (.aload_n 0, 1) := by decide +kernel
theorem dL_law_304 : decode cL_law 304 = .ok (.iload_n 3, 1) := by decide +kernel
theorem dL_law_305 : decode cL_law 305 = .ok (.iconst 5, 1) := by decide +kernel
theorem dL_law_306 : decode cL_law 306 = .ok (.iadd, 1) := by decide +kernel
theorem dL_law_307 : decode cL_law 307 = .ok (.iaload, 1) := by decide +kernel
theorem dL_law_308 : decode cL_law 308 = .ok (.invokevirtual 22, 3) := by decide +kernel
theorem dL_law_311 : decode cL_law 311 = .ok (.aload_n 2, 1) := by decide +kernel
theorem dL_law_312 : decode cL_law 312 = .ok (.aload_n 0, 1) := by decide +kernel
theorem dL_law_313 : decode cL_law 313 = .ok (.iload_n 3, 1) := by decide +kernel
theorem dL_law_314 : decode cL_law 314 = .ok (.iconst 1, 1) := by decide +kernel
theorem dL_law_315 : decode cL_law 315 = .ok (.iadd, 1) := by decide +kernel
theorem dL_law_316 : decode cL_law 316 = .ok (.iaload, 1) := by decide +kernel
theorem dL_law_317 : decode cL_law 317 = .ok (.aload_n 0, 1) := by decide +kernel
theorem dL_law_318 : decode cL_law 318 = .ok (.iload_n 3, 1) := by decide +kernel
theorem dL_law_319 : decode cL_law 319 = .ok (.iconst 2, 1) := by decide +kernel
theorem dL_law_320 : decode cL_law 320 = .ok (.iadd, 1) := by decide +kernel
theorem dL_law_321 : decode cL_law 321 = .ok (.iaload, 1) := by decide +kernel
theorem dL_law_322 : decode cL_law 322 = .ok (.aload_n 0, 1) := by decide +kernel
theorem dL_law_323 : decode cL_law 323 = .ok (.iload_n 3, 1) := by decide +kernel
theorem dL_law_324 : decode cL_law 324 = .ok (.iconst 3, 1) := by decide +kernel
theorem dL_law_325 : decode cL_law 325 = .ok (.iadd, 1) := by decide +kernel
theorem dL_law_326 : decode cL_law 326 = .ok (.iaload, 1) := by decide +kernel
theorem dL_law_327 : decode cL_law 327 = .ok (.aload_n 0, 1) := by decide +kernel
theorem dL_law_328 : decode cL_law 328 = .ok (.iload_n 3, 1) := by decide +kernel
theorem dL_law_329 : decode cL_law 329 = .ok (.iconst 4, 1) := by decide +kernel
theorem dL_law_330 : decode cL_law 330 = .ok (.iadd, 1) := by decide +kernel
theorem dL_law_331 : decode cL_law 331 = .ok (.iaload, 1) := by decide +kernel
theorem dL_law_332 : decode cL_law 332 = .ok (.aload_n 0, 1) := by decide +kernel
theorem dL_law_333 : decode cL_law 333 = .ok (.iload_n 3, 1) := by decide +kernel
theorem dL_law_334 : decode cL_law 334 = .ok (.iconst 5, 1) := by decide +kernel
theorem dL_law_335 : decode cL_law 335 = .ok (.iadd, 1) := by decide +kernel
theorem dL_law_336 : decode cL_law 336 = .ok (.iaload, 1) := by decide +kernel
theorem dL_law_337 : decode cL_law 337 = .ok (.invokevirtual 26, 3) := by decide +kernel
theorem dL_law_340 : decode cL_law 340 = .ok (.if_icmp .eq 898, 3) := by decide +kernel
theorem dL_law_343 : decode cL_law 343 = .ok (.iconst 0, 1) := by decide +kernel
theorem dL_law_344 : decode cL_law 344 = .ok (.ireturn, 1) := by decide +kernel
theorem dL_law_345 : decode cL_law 345 = .ok (.aload_n 1, 1) := by decide +kernel
theorem dL_law_346 : decode cL_law 346 = .ok (.aload_n 0, 1) := by decide +kernel
theorem dL_law_347 : decode cL_law 347 = .ok (.iload_n 3, 1) := by decide +kernel
theorem dL_law_348 : decode cL_law 348 = .ok (.iconst 1, 1) := by decide +kernel
theorem dL_law_349 : decode cL_law 349 = .ok (.iadd, 1) := by decide +kernel
theorem dL_law_350 : decode cL_law 350 = .ok (.iaload, 1) := by decide +kernel
theorem dL_law_351 : decode cL_law 351 = .ok (.invokevirtual 27, 3) := by decide +kernel
theorem dL_law_354 : decode cL_law 354 = .ok (.aload_n 2, 1) := by decide +kernel
theorem dL_law_355 : decode cL_law 355 = .ok (.aload_n 0, 1) := by decide +kernel
theorem dL_law_356 : decode cL_law 356 = .ok (.iload_n 3, 1) := by decide +kernel
theorem dL_law_357 : decode cL_law 357 = .ok (.iconst 1, 1) := by decide +kernel
theorem dL_law_358 : decode cL_law 358 = .ok (.iadd, 1) := by decide +kernel
theorem dL_law_359 : decode cL_law 359 = .ok (.iaload, 1) := by decide +kernel
theorem dL_law_360 : decode cL_law 360 = .ok (.invokevirtual 31, 3) := by decide +kernel
theorem dL_law_363 : decode cL_law 363 = .ok (.if_icmp .eq 875, 3) := by decide +kernel
theorem dL_law_366 : decode cL_law 366 = .ok (.iconst 0, 1) := by decide +kernel
theorem dL_law_367 : decode cL_law 367 = .ok (.ireturn, 1) := by decide +kernel
theorem dL_law_368 : decode cL_law 368 = .ok (.aload_n 1, 1) := by decide +kernel
theorem dL_law_369 : decode cL_law 369 = .ok (.aload_n 0, 1) := by decide +kernel
theorem dL_law_370 : decode cL_law 370 = .ok (.iload_n 3, 1) := by decide +kernel
theorem dL_law_371 : decode cL_law 371 = .ok (.iconst 1, 1) := by decide +kernel
theorem dL_law_372 : decode cL_law 372 = .ok (.iadd, 1) := by decide +kernel
theorem dL_law_373 : decode cL_law 373 = .ok (.iaload, 1) := by decide +kernel
theorem dL_law_374 : decode cL_law 374 = .ok (.invokevirtual 32, 3) := by decide +kernel
theorem dL_law_377 : decode cL_law 377 = .ok (.aload_n 2, 1) := by decide +kernel
theorem dL_law_378 : decode cL_law 378 = .ok (.aload_n 0, 1) := by decide +kernel
theorem dL_law_379 : decode cL_law 379 = .ok (.iload_n 3, 1) := by decide +kernel
theorem dL_law_380 : decode cL_law 380 = .ok (.iconst 1, 1) := by decide +kernel
theorem dL_law_381 : decode cL_law 381 = .ok (.iadd, 1) := by decide +kernel
theorem dL_law_382 : decode cL_law 382 = .ok (.iaload, 1) := by decide +kernel
theorem dL_law_383 : decode cL_law 383 = .ok (.invokevirtual 35, 3) := by decide +kernel
theorem dL_law_386 : decode cL_law 386 = .ok (.if_icmp .eq 852, 3) := by decide +kernel
theorem dL_law_389 : decode cL_law 389 = .ok (.iconst 0, 1) := by decide +kernel
theorem dL_law_390 : decode cL_law 390 = .ok (.ireturn, 1) := by decide +kernel
theorem dL_law_391 : decode cL_law 391 = .ok (.aload_n 1, 1) := by decide +kernel
theorem dL_law_392 : decode cL_law 392 = .ok (.invokevirtual 36, 3) := by decide +kernel
theorem dL_law_395 : decode cL_law 395 = .ok (.aload_n 2, 1) := by decide +kernel
theorem dL_law_396 : decode cL_law 396 = .ok (.invokevirtual 40, 3) := by decide +kernel
theorem dL_law_399 : decode cL_law 399 = .ok (.if_icmp .eq 839, 3) := by decide +kernel
theorem dL_law_402 : decode cL_law 402 = .ok (.iconst 0, 1) := by decide +kernel
theorem dL_law_403 : decode cL_law 403 = .ok (.ireturn, 1) := by decide +kernel
theorem dL_law_404 : decode cL_law 404 = .ok (.aload_n 1, 1) := by decide +kernel
theorem dL_law_405 : decode cL_law 405 = .ok (.invokevirtual 41, 3) := by decide +kernel
theorem dL_law_408 : decode cL_law 408 = .ok (.aload_n 2, 1) := by decide +kernel
theorem dL_law_409 : decode cL_law 409 = .ok (.invokevirtual 44, 3) := by decide +kernel
theorem dL_law_412 : decode cL_law 412 = .ok (.if_icmp .eq 826, 3) := by decide +kernel
theorem dL_law_415 : decode cL_law 415 = .ok (.iconst 0, 1) := by decide +kernel
theorem dL_law_416 : decode cL_law 416 = .ok (.ireturn, 1) := by decide +kernel
theorem dL_law_417 : decode cL_law 417 = .ok (.aload_n 1, 1) := by decide +kernel
theorem dL_law_418 : decode cL_law 418 = .ok (.invokevirtual 45, 3) := by decide +kernel
theorem dL_law_421 : decode cL_law 421 = .ok (.aload_n 2, 1) := by decide +kernel
theorem dL_law_422 : decode cL_law 422 = .ok (.invokevirtual 48, 3) := by decide +kernel
theorem dL_law_425 : decode cL_law 425 = .ok (.if_icmp .eq 813, 3) := by decide +kernel
theorem dL_law_428 : decode cL_law 428 = .ok (.iconst 0, 1) := by decide +kernel
theorem dL_law_429 : decode cL_law 429 = .ok (.ireturn, 1) := by decide +kernel
theorem dL_law_430 : decode cL_law 430 = .ok (.aload_n 1, 1) := by decide +kernel
theorem dL_law_431 : decode cL_law 431 = .ok (.aload_n 0, 1) := by decide +kernel
theorem dL_law_432 : decode cL_law 432 = .ok (.iload_n 3, 1) := by decide +kernel
theorem dL_law_433 : decode cL_law 433 = .ok (.iconst 1, 1) := by decide +kernel
theorem dL_law_434 : decode cL_law 434 = .ok (.iadd, 1) := by decide +kernel
theorem dL_law_435 : decode cL_law 435 = .ok (.iaload, 1) := by decide +kernel
theorem dL_law_436 : decode cL_law 436 = .ok (.invokevirtual 49, 3) := by decide +kernel
theorem dL_law_439 : decode cL_law 439 = .ok (.aload_n 2, 1) := by decide +kernel
theorem dL_law_440 : decode cL_law 440 = .ok (.aload_n 0, 1) := by decide +kernel
theorem dL_law_441 : decode cL_law 441 = .ok (.iload_n 3, 1) := by decide +kernel
theorem dL_law_442 : decode cL_law 442 = .ok (.iconst 1, 1) := by decide +kernel
theorem dL_law_443 : decode cL_law 443 = .ok (.iadd, 1) := by decide +kernel
theorem dL_law_444 : decode cL_law 444 = .ok (.iaload, 1) := by decide +kernel
theorem dL_law_445 : decode cL_law 445 = .ok (.invokevirtual 52, 3) := by decide +kernel
theorem dL_law_448 : decode cL_law 448 = .ok (.if_icmp .eq 790, 3) := by decide +kernel
theorem dL_law_451 : decode cL_law 451 = .ok (.iconst 0, 1) := by decide +kernel
theorem dL_law_452 : decode cL_law 452 = .ok (.ireturn, 1) := by decide +kernel
theorem dL_law_453 : decode cL_law 453 = .ok (.aload_n 1, 1) := by decide +kernel
theorem dL_law_454 : decode cL_law 454 = .ok (.aload_n 0, 1) := by decide +kernel
theorem dL_law_455 : decode cL_law 455 = .ok (.iload_n 3, 1) := by decide +kernel
theorem dL_law_456 : decode cL_law 456 = .ok (.iconst 1, 1) := by decide +kernel
theorem dL_law_457 : decode cL_law 457 = .ok (.iadd, 1) := by decide +kernel
theorem dL_law_458 : decode cL_law 458 = .ok (.iaload, 1) := by decide +kernel
theorem dL_law_459 : decode cL_law 459 = .ok (.invokevirtual 53, 3) := by decide +kernel
theorem dL_law_462 : decode cL_law 462 = .ok (.aload_n 2, 1) := by decide +kernel
theorem dL_law_463 : decode cL_law 463 = .ok (.aload_n 0, 1) := by decide +kernel
theorem dL_law_464 : decode cL_law 464 = .ok (.iload_n 3, 1) := by decide +kernel
theorem dL_law_465 : decode cL_law 465 = .ok (.iconst 1, 1) := by decide +kernel
theorem dL_law_466 : decode cL_law 466 = .ok (.iadd, 1) := by decide +kernel
theorem dL_law_467 : decode cL_law 467 = .ok (.iaload, 1) := by decide +kernel
theorem dL_law_468 : decode cL_law 468 = .ok (.invokevirtual 56, 3) := by decide +kernel
theorem dL_law_471 : decode cL_law 471 = .ok (.if_icmp .eq 767, 3) := by decide +kernel
theorem dL_law_474 : decode cL_law 474 = .ok (.iconst 0, 1) := by decide +kernel
theorem dL_law_475 : decode cL_law 475 = .ok (.ireturn, 1) := by decide +kernel
theorem dL_law_476 : decode cL_law 476 = .ok (.aload_n 1, 1) := by decide +kernel
theorem dL_law_477 : decode cL_law 477 = .ok (.aload_n 0, 1) := by decide +kernel
theorem dL_law_478 : decode cL_law 478 = .ok (.iload_n 3, 1) := by decide +kernel
theorem dL_law_479 : decode cL_law 479 = .ok (.iconst 1, 1) := by decide +kernel
theorem dL_law_480 : decode cL_law 480 = .ok (.iadd, 1) := by decide +kernel
theorem dL_law_481 : decode cL_law 481 = .ok (.iaload, 1) := by decide +kernel
theorem dL_law_482 : decode cL_law 482 = .ok (.aload_n 0, 1) := by decide +kernel
theorem dL_law_483 : decode cL_law 483 = .ok (.iload_n 3, 1) := by decide +kernel
theorem dL_law_484 : decode cL_law 484 = .ok (.iconst 2, 1) := by decide +kernel
theorem dL_law_485 : decode cL_law 485 = .ok (.iadd, 1) := by decide +kernel
theorem dL_law_486 : decode cL_law 486 = .ok (.iaload, 1) := by decide +kernel
theorem dL_law_487 : decode cL_law 487 = .ok (.invokevirtual 57, 3) := by decide +kernel
theorem dL_law_490 : decode cL_law 490 = .ok (.aload_n 2, 1) := by decide +kernel
theorem dL_law_491 : decode cL_law 491 = .ok (.aload_n 0, 1) := by decide +kernel
theorem dL_law_492 : decode cL_law 492 = .ok (.iload_n 3, 1) := by decide +kernel
theorem dL_law_493 : decode cL_law 493 = .ok (.iconst 1, 1) := by decide +kernel
theorem dL_law_494 : decode cL_law 494 = .ok (.iadd, 1) := by decide +kernel
theorem dL_law_495 : decode cL_law 495 = .ok (.iaload, 1) := by decide +kernel
theorem dL_law_496 : decode cL_law 496 = .ok (.aload_n 0, 1) := by decide +kernel
theorem dL_law_497 : decode cL_law 497 = .ok (.iload_n 3, 1) := by decide +kernel
theorem dL_law_498 : decode cL_law 498 = .ok (.iconst 2, 1) := by decide +kernel
theorem dL_law_499 : decode cL_law 499 = .ok (.iadd, 1) := by decide +kernel
theorem dL_law_500 : decode cL_law 500 = .ok (.iaload, 1) := by decide +kernel
theorem dL_law_501 : decode cL_law 501 = .ok (.invokevirtual 61, 3) := by decide +kernel
theorem dL_law_504 : decode cL_law 504 = .ok (.if_icmp .eq 734, 3) := by decide +kernel
theorem dL_law_507 : decode cL_law 507 = .ok (.iconst 0, 1) := by decide +kernel
theorem dL_law_508 : decode cL_law 508 = .ok (.ireturn, 1) := by decide +kernel
theorem dL_law_509 : decode cL_law 509 = .ok (.aload_n 1, 1) := by decide +kernel
theorem dL_law_510 : decode cL_law 510 = .ok (.aload_n 0, 1) := by decide +kernel
theorem dL_law_511 : decode cL_law 511 = .ok (.iload_n 3, 1) := by decide +kernel
theorem dL_law_512 : decode cL_law 512 = .ok (.iconst 1, 1) := by decide +kernel
theorem dL_law_513 : decode cL_law 513 = .ok (.iadd, 1) := by decide +kernel
theorem dL_law_514 : decode cL_law 514 = .ok (.iaload, 1) := by decide +kernel
theorem dL_law_515 : decode cL_law 515 = .ok (.invokevirtual 62, 3) := by decide +kernel
theorem dL_law_518 : decode cL_law 518 = .ok (.aload_n 2, 1) := by decide +kernel
theorem dL_law_519 : decode cL_law 519 = .ok (.aload_n 0, 1) := by decide +kernel
theorem dL_law_520 : decode cL_law 520 = .ok (.iload_n 3, 1) := by decide +kernel
theorem dL_law_521 : decode cL_law 521 = .ok (.iconst 1, 1) := by decide +kernel
theorem dL_law_522 : decode cL_law 522 = .ok (.iadd, 1) := by decide +kernel
theorem dL_law_523 : decode cL_law 523 = .ok (.iaload, 1) := by decide +kernel
theorem dL_law_524 : decode cL_law 524 = .ok (.invokevirtual 65, 3) := by decide +kernel
theorem dL_law_527 : decode cL_law 527 = .ok (.if_icmp .eq 711, 3) := by decide +kernel
theorem dL_law_530 : decode cL_law 530 = .ok (.iconst 0, 1) := by decide +kernel
theorem dL_law_531 : decode cL_law 531 = .ok (.ireturn, 1) := by decide +kernel
theorem dL_law_532 : decode cL_law 532 = .ok (.aload_n 1, 1) := by decide +kernel
theorem dL_law_533 : decode cL_law 533 = .ok (.aload_n 0, 1) := by decide +kernel
theorem dL_law_534 : decode cL_law 534 = .ok (.iload_n 3, 1) := by decide +kernel
theorem dL_law_535 : decode cL_law 535 = .ok (.iconst 1, 1) := by decide +kernel
theorem dL_law_536 : decode cL_law 536 = .ok (.iadd, 1) := by decide +kernel
theorem dL_law_537 : decode cL_law 537 = .ok (.iaload, 1) := by decide +kernel
theorem dL_law_538 : decode cL_law 538 = .ok (.aload_n 0, 1) := by decide +kernel
theorem dL_law_539 : decode cL_law 539 = .ok (.iload_n 3, 1) := by decide +kernel
theorem dL_law_540 : decode cL_law 540 = .ok (.iconst 2, 1) := by decide +kernel
theorem dL_law_541 : decode cL_law 541 = .ok (.iadd, 1) := by decide +kernel
theorem dL_law_542 : decode cL_law 542 = .ok (.iaload, 1) := by decide +kernel
theorem dL_law_543 : decode cL_law 543 = .ok (.invokevirtual 66, 3) := by decide +kernel
theorem dL_law_546 : decode cL_law 546 = .ok (.aload_n 2, 1) := by decide +kernel
theorem dL_law_547 : decode cL_law 547 = .ok (.aload_n 0, 1) := by decide +kernel
theorem dL_law_548 : decode cL_law 548 = .ok (.iload_n 3, 1) := by decide +kernel
theorem dL_law_549 : decode cL_law 549 = .ok (.iconst 1, 1) := by decide +kernel
theorem dL_law_550 : decode cL_law 550 = .ok (.iadd, 1) := by decide +kernel
theorem dL_law_551 : decode cL_law 551 = .ok (.iaload, 1) := by decide +kernel
theorem dL_law_552 : decode cL_law 552 = .ok (.aload_n 0, 1) := by decide +kernel
theorem dL_law_553 : decode cL_law 553 = .ok (.iload_n 3, 1) := by decide +kernel
theorem dL_law_554 : decode cL_law 554 = .ok (.iconst 2, 1) := by decide +kernel
theorem dL_law_555 : decode cL_law 555 = .ok (.iadd, 1) := by decide +kernel
theorem dL_law_556 : decode cL_law 556 = .ok (.iaload, 1) := by decide +kernel
theorem dL_law_557 : decode cL_law 557 = .ok (.invokevirtual 69, 3) := by decide +kernel
theorem dL_law_560 : decode cL_law 560 = .ok (.if_icmp .eq 678, 3) := by decide +kernel
theorem dL_law_563 : decode cL_law 563 = .ok (.iconst 0, 1) := by decide +kernel
theorem dL_law_564 : decode cL_law 564 = .ok (.ireturn, 1) := by decide +kernel
theorem dL_law_565 : decode cL_law 565 = .ok (.aload_n 1, 1) := by decide +kernel
theorem dL_law_566 : decode cL_law 566 = .ok (.aload_n 0, 1) := by decide +kernel
theorem dL_law_567 : decode cL_law 567 = .ok (.iload_n 3, 1) := by decide +kernel
theorem dL_law_568 : decode cL_law 568 = .ok (.iconst 1, 1) := by decide +kernel
theorem dL_law_569 : decode cL_law 569 = .ok (.iadd, 1) := by decide +kernel
theorem dL_law_570 : decode cL_law 570 = .ok (.iaload, 1) := by decide +kernel
theorem dL_law_571 : decode cL_law 571 = .ok (.aload_n 0, 1) := by decide +kernel
theorem dL_law_572 : decode cL_law 572 = .ok (.iload_n 3, 1) := by decide +kernel
theorem dL_law_573 : decode cL_law 573 = .ok (.iconst 2, 1) := by decide +kernel
theorem dL_law_574 : decode cL_law 574 = .ok (.iadd, 1) := by decide +kernel
theorem dL_law_575 : decode cL_law 575 = .ok (.iaload, 1) := by decide +kernel
theorem dL_law_576 : decode cL_law 576 = .ok (.invokevirtual 70, 3) := by decide +kernel
theorem dL_law_579 : decode cL_law 579 = .ok (.aload_n 2, 1) := by decide +kernel
theorem dL_law_580 : decode cL_law 580 = .ok (.aload_n 0, 1) := by decide +kernel
theorem dL_law_581 : decode cL_law 581 = .ok (.iload_n 3, 1) := by decide +kernel
theorem dL_law_582 : decode cL_law 582 = .ok (.iconst 1, 1) := by decide +kernel
theorem dL_law_583 : decode cL_law 583 = .ok (.iadd, 1) := by decide +kernel
theorem dL_law_584 : decode cL_law 584 = .ok (.iaload, 1) := by decide +kernel
theorem dL_law_585 : decode cL_law 585 = .ok (.aload_n 0, 1) := by decide +kernel
theorem dL_law_586 : decode cL_law 586 = .ok (.iload_n 3, 1) := by decide +kernel
theorem dL_law_587 : decode cL_law 587 = .ok (.iconst 2, 1) := by decide +kernel
theorem dL_law_588 : decode cL_law 588 = .ok (.iadd, 1) := by decide +kernel
theorem dL_law_589 : decode cL_law 589 = .ok (.iaload, 1) := by decide +kernel
theorem dL_law_590 : decode cL_law 590 = .ok (.invokevirtual 73, 3) := by decide +kernel
theorem dL_law_593 : decode cL_law 593 = .ok (.if_icmp .eq 645, 3) := by decide +kernel
theorem dL_law_596 : decode cL_law 596 = .ok (.iconst 0, 1) := by decide +kernel
theorem dL_law_597 : decode cL_law 597 = .ok (.ireturn, 1) := by decide +kernel
theorem dL_law_598 : decode cL_law 598 = .ok (.aload_n 1, 1) := by decide +kernel
theorem dL_law_599 : decode cL_law 599 = .ok (.aload_n 0, 1) := by decide +kernel
theorem dL_law_600 : decode cL_law 600 = .ok (.iload_n 3, 1) := by decide +kernel
theorem dL_law_601 : decode cL_law 601 = .ok (.iconst 1, 1) := by decide +kernel
theorem dL_law_602 : decode cL_law 602 = .ok (.iadd, 1) := by decide +kernel
theorem dL_law_603 : decode cL_law 603 = .ok (.iaload, 1) := by decide +kernel
theorem dL_law_604 : decode cL_law 604 = .ok (.invokevirtual 74, 3) := by decide +kernel
theorem dL_law_607 : decode cL_law 607 = .ok (.aload_n 2, 1) := by decide +kernel
theorem dL_law_608 : decode cL_law 608 = .ok (.aload_n 0, 1) := by decide +kernel
theorem dL_law_609 : decode cL_law 609 = .ok (.iload_n 3, 1) := by decide +kernel
theorem dL_law_610 : decode cL_law 610 = .ok (.iconst 1, 1) := by decide +kernel
theorem dL_law_611 : decode cL_law 611 = .ok (.iadd, 1) := by decide +kernel
theorem dL_law_612 : decode cL_law 612 = .ok (.iaload, 1) := by decide +kernel
theorem dL_law_613 : decode cL_law 613 = .ok (.invokevirtual 77, 3) := by decide +kernel
theorem dL_law_616 : decode cL_law 616 = .ok (.if_icmp .eq 622, 3) := by decide +kernel
theorem dL_law_619 : decode cL_law 619 = .ok (.iconst 0, 1) := by decide +kernel
theorem dL_law_620 : decode cL_law 620 = .ok (.ireturn, 1) := by decide +kernel
theorem dL_law_621 : decode cL_law 621 = .ok (.aload_n 1, 1) := by decide +kernel
theorem dL_law_622 : decode cL_law 622 = .ok (.aload_n 0, 1) := by decide +kernel
theorem dL_law_623 : decode cL_law 623 = .ok (.iload_n 3, 1) := by decide +kernel
theorem dL_law_624 : decode cL_law 624 = .ok (.iconst 1, 1) := by decide +kernel
theorem dL_law_625 : decode cL_law 625 = .ok (.iadd, 1) := by decide +kernel
theorem dL_law_626 : decode cL_law 626 = .ok (.iaload, 1) := by decide +kernel
theorem dL_law_627 : decode cL_law 627 = .ok (.invokevirtual 78, 3) := by decide +kernel
theorem dL_law_630 : decode cL_law 630 = .ok (.aload_n 2, 1) := by decide +kernel
theorem dL_law_631 : decode cL_law 631 = .ok (.aload_n 0, 1) := by decide +kernel
theorem dL_law_632 : decode cL_law 632 = .ok (.iload_n 3, 1) := by decide +kernel
theorem dL_law_633 : decode cL_law 633 = .ok (.iconst 1, 1) := by decide +kernel
theorem dL_law_634 : decode cL_law 634 = .ok (.iadd, 1) := by decide +kernel
theorem dL_law_635 : decode cL_law 635 = .ok (.iaload, 1) := by decide +kernel
theorem dL_law_636 : decode cL_law 636 = .ok (.invokevirtual 81, 3) := by decide +kernel
theorem dL_law_639 : decode cL_law 639 = .ok (.if_icmp .eq 599, 3) := by decide +kernel
theorem dL_law_642 : decode cL_law 642 = .ok (.iconst 0, 1) := by decide +kernel
theorem dL_law_643 : decode cL_law 643 = .ok (.ireturn, 1) := by decide +kernel
theorem dL_law_644 : decode cL_law 644 = .ok (.aload_n 1, 1) := by decide +kernel
theorem dL_law_645 : decode cL_law 645 = .ok (.aload_n 0, 1) := by decide +kernel
theorem dL_law_646 : decode cL_law 646 = .ok (.iload_n 3, 1) := by decide +kernel
theorem dL_law_647 : decode cL_law 647 = .ok (.iconst 1, 1) := by decide +kernel
theorem dL_law_648 : decode cL_law 648 = .ok (.iadd, 1) := by decide +kernel
theorem dL_law_649 : decode cL_law 649 = .ok (.iaload, 1) := by decide +kernel
theorem dL_law_650 : decode cL_law 650 = .ok (.invokevirtual 82, 3) := by decide +kernel
theorem dL_law_653 : decode cL_law 653 = .ok (.aload_n 2, 1) := by decide +kernel
theorem dL_law_654 : decode cL_law 654 = .ok (.aload_n 0, 1) := by decide +kernel
theorem dL_law_655 : decode cL_law 655 = .ok (.iload_n 3, 1) := by decide +kernel
theorem dL_law_656 : decode cL_law 656 = .ok (.iconst 1, 1) := by decide +kernel
theorem dL_law_657 : decode cL_law 657 = .ok (.iadd, 1) := by decide +kernel
theorem dL_law_658 : decode cL_law 658 = .ok (.iaload, 1) := by decide +kernel
theorem dL_law_659 : decode cL_law 659 = .ok (.invokevirtual 85, 3) := by decide +kernel
theorem dL_law_662 : decode cL_law 662 = .ok (.if_icmp .eq 576, 3) := by decide +kernel
theorem dL_law_665 : decode cL_law 665 = .ok (.iconst 0, 1) := by decide +kernel
theorem dL_law_666 : decode cL_law 666 = .ok (.ireturn, 1) := by decide +kernel
theorem dL_law_667 : decode cL_law 667 = .ok (.aload_n 1, 1) := by decide +kernel
theorem dL_law_668 : decode cL_law 668 = .ok (.aload_n 0, 1) := by decide +kernel
theorem dL_law_669 : decode cL_law 669 = .ok (.iload_n 3, 1) := by decide +kernel
theorem dL_law_670 : decode cL_law 670 = .ok (.iconst 1, 1) := by decide +kernel
theorem dL_law_671 : decode cL_law 671 = .ok (.iadd, 1) := by decide +kernel
theorem dL_law_672 : decode cL_law 672 = .ok (.iaload, 1) := by decide +kernel
theorem dL_law_673 : decode cL_law 673 = .ok (.aload_n 0, 1) := by decide +kernel
theorem dL_law_674 : decode cL_law 674 = .ok (.iload_n 3, 1) := by decide +kernel
theorem dL_law_675 : decode cL_law 675 = .ok (.iconst 2, 1) := by decide +kernel
theorem dL_law_676 : decode cL_law 676 = .ok (.iadd, 1) := by decide +kernel
theorem dL_law_677 : decode cL_law 677 = .ok (.iaload, 1) := by decide +kernel
theorem dL_law_678 : decode cL_law 678 = .ok (.invokevirtual 86, 3) := by decide +kernel
theorem dL_law_681 : decode cL_law 681 = .ok (.aload_n 2, 1) := by decide +kernel
theorem dL_law_682 : decode cL_law 682 = .ok (.aload_n 0, 1) := by decide +kernel
theorem dL_law_683 : decode cL_law 683 = .ok (.iload_n 3, 1) := by decide +kernel
theorem dL_law_684 : decode cL_law 684 = .ok (.iconst 1, 1) := by decide +kernel
theorem dL_law_685 : decode cL_law 685 = .ok (.iadd, 1) := by decide +kernel
theorem dL_law_686 : decode cL_law 686 = .ok (.iaload, 1) := by decide +kernel
theorem dL_law_687 : decode cL_law 687 = .ok (.aload_n 0, 1) := by decide +kernel
theorem dL_law_688 : decode cL_law 688 = .ok (.iload_n 3, 1) := by decide +kernel
theorem dL_law_689 : decode cL_law 689 = .ok (.iconst 2, 1) := by decide +kernel
theorem dL_law_690 : decode cL_law 690 = .ok (.iadd, 1) := by decide +kernel
theorem dL_law_691 : decode cL_law 691 = .ok (.iaload, 1) := by decide +kernel
theorem dL_law_692 : decode cL_law 692 = .ok (.invokevirtual 89, 3) := by decide +kernel
theorem dL_law_695 : decode cL_law 695 = .ok (.if_icmp .eq 543, 3) := by decide +kernel
theorem dL_law_698 : decode cL_law 698 = .ok (.iconst 0, 1) := by decide +kernel
theorem dL_law_699 : decode cL_law 699 = .ok (.ireturn, 1) := by decide +kernel
theorem dL_law_700 : decode cL_law 700 = .ok (.aload_n 1, 1) := by decide +kernel
theorem dL_law_701 : decode cL_law 701 = .ok (.aload_n 0, 1) := by decide +kernel
theorem dL_law_702 : decode cL_law 702 = .ok (.iload_n 3, 1) := by decide +kernel
theorem dL_law_703 : decode cL_law 703 = .ok (.iconst 1, 1) := by decide +kernel
theorem dL_law_704 : decode cL_law 704 = .ok (.iadd, 1) := by decide +kernel
theorem dL_law_705 : decode cL_law 705 = .ok (.iaload, 1) := by decide +kernel
theorem dL_law_706 : decode cL_law 706 = .ok (.aload_n 0, 1) := by decide +kernel
theorem dL_law_707 : decode cL_law 707 = .ok (.iload_n 3, 1) := by decide +kernel
theorem dL_law_708 : decode cL_law 708 = .ok (.iconst 2, 1) := by decide +kernel
theorem dL_law_709 : decode cL_law 709 = .ok (.iadd, 1) := by decide +kernel
theorem dL_law_710 : decode cL_law 710 = .ok (.iaload, 1) := by decide +kernel
theorem dL_law_711 : decode cL_law 711 = .ok (.invokevirtual 90, 3) := by decide +kernel
theorem dL_law_714 : decode cL_law 714 = .ok (.aload_n 2, 1) := by decide +kernel
theorem dL_law_715 : decode cL_law 715 = .ok (.aload_n 0, 1) := by decide +kernel
theorem dL_law_716 : decode cL_law 716 = .ok (.iload_n 3, 1) := by decide +kernel
theorem dL_law_717 : decode cL_law 717 = .ok (.iconst 1, 1) := by decide +kernel
theorem dL_law_718 : decode cL_law 718 = .ok (.iadd, 1) := by decide +kernel
theorem dL_law_719 : decode cL_law 719 = .ok (.iaload, 1) := by decide +kernel
theorem dL_law_720 : decode cL_law 720 = .ok (.aload_n 0, 1) := by decide +kernel
theorem dL_law_721 : decode cL_law 721 = .ok (.iload_n 3, 1) := by decide +kernel
theorem dL_law_722 : decode cL_law 722 = .ok (.iconst 2, 1) := by decide +kernel
theorem dL_law_723 : decode cL_law 723 = .ok (.iadd, 1) := by decide +kernel
theorem dL_law_724 : decode cL_law 724 = .ok (.iaload, 1) := by decide +kernel
theorem dL_law_725 : decode cL_law 725 = .ok (.invokevirtual 93, 3) := by decide +kernel
theorem dL_law_728 : decode cL_law 728 = .ok (.if_icmp .eq 510, 3) := by decide +kernel
theorem dL_law_731 : decode cL_law 731 = .ok (.iconst 0, 1) := by decide +kernel
theorem dL_law_732 : decode cL_law 732 = .ok (.ireturn, 1) := by decide +kernel
theorem dL_law_733 : decode cL_law 733 = .ok (.aload_n 1, 1) := by decide +kernel
theorem dL_law_734 : decode cL_law 734 = .ok (.aload_n 0, 1) := by decide +kernel
theorem dL_law_735 : decode cL_law 735 = .ok (.iload_n 3, 1) := by decide +kernel
theorem dL_law_736 : decode cL_law 736 = .ok (.iconst 1, 1) := by decide +kernel
theorem dL_law_737 : decode cL_law 737 = .ok (.iadd, 1) := by decide +kernel
theorem dL_law_738 : decode cL_law 738 = .ok (.iaload, 1) := by decide +kernel
theorem dL_law_739 : decode cL_law 739 = .ok (.invokevirtual 94, 3) := by decide +kernel
theorem dL_law_742 : decode cL_law 742 = .ok (.aload_n 2, 1) := by decide +kernel
theorem dL_law_743 : decode cL_law 743 = .ok (.aload_n 0, 1) := by decide +kernel
theorem dL_law_744 : decode cL_law 744 = .ok (.iload_n 3, 1) := by decide +kernel
theorem dL_law_745 : decode cL_law 745 = .ok (.iconst 1, 1) := by decide +kernel
theorem dL_law_746 : decode cL_law 746 = .ok (.iadd, 1) := by decide +kernel
theorem dL_law_747 : decode cL_law 747 = .ok (.iaload, 1) := by decide +kernel
theorem dL_law_748 : decode cL_law 748 = .ok (.invokevirtual 97, 3) := by decide +kernel
theorem dL_law_751 : decode cL_law 751 = .ok (.if_icmp .eq 487, 3) := by decide +kernel
theorem dL_law_754 : decode cL_law 754 = .ok (.iconst 0, 1) := by decide +kernel
theorem dL_law_755 : decode cL_law 755 = .ok (.ireturn, 1) := by decide +kernel
theorem dL_law_756 : decode cL_law 756 = .ok (.aload_n 1, 1) := by decide +kernel
theorem dL_law_757 : decode cL_law 757 = .ok (.aload_n 0, 1) := by decide +kernel
theorem dL_law_758 : decode cL_law 758 = .ok (.iload_n 3, 1) := by decide +kernel
theorem dL_law_759 : decode cL_law 759 = .ok (.iconst 1, 1) := by decide +kernel
theorem dL_law_760 : decode cL_law 760 = .ok (.iadd, 1) := by decide +kernel
theorem dL_law_761 : decode cL_law 761 = .ok (.iaload, 1) := by decide +kernel
theorem dL_law_762 : decode cL_law 762 = .ok (.aload_n 0, 1) := by decide +kernel
theorem dL_law_763 : decode cL_law 763 = .ok (.iload_n 3, 1) := by decide +kernel
theorem dL_law_764 : decode cL_law 764 = .ok (.iconst 2, 1) := by decide +kernel
theorem dL_law_765 : decode cL_law 765 = .ok (.iadd, 1) := by decide +kernel
theorem dL_law_766 : decode cL_law 766 = .ok (.iaload, 1) := by decide +kernel
theorem dL_law_767 : decode cL_law 767 = .ok (.invokevirtual 98, 3) := by decide +kernel
theorem dL_law_770 : decode cL_law 770 = .ok (.aload_n 2, 1) := by decide +kernel
theorem dL_law_771 : decode cL_law 771 = .ok (.aload_n 0, 1) := by decide +kernel
theorem dL_law_772 : decode cL_law 772 = .ok (.iload_n 3, 1) := by decide +kernel
theorem dL_law_773 : decode cL_law 773 = .ok (.iconst 1, 1) := by decide +kernel
theorem dL_law_774 : decode cL_law 774 = .ok (.iadd, 1) := by decide +kernel
theorem dL_law_775 : decode cL_law 775 = .ok (.iaload, 1) := by decide +kernel
theorem dL_law_776 : decode cL_law 776 = .ok (.aload_n 0, 1) := by decide +kernel
theorem dL_law_777 : decode cL_law 777 = .ok (.iload_n 3, 1) := by decide +kernel
theorem dL_law_778 : decode cL_law 778 = .ok (.iconst 2, 1) := by decide +kernel
theorem dL_law_779 : decode cL_law 779 = .ok (.iadd, 1) := by decide +kernel
theorem dL_law_780 : decode cL_law 780 = .ok (.iaload, 1) := by decide +kernel
theorem dL_law_781 : decode cL_law 781 = .ok (.invokevirtual 101, 3) := by decide +kernel
theorem dL_law_784 : decode cL_law 784 = .ok (.if_icmp .eq 454, 3) := by decide +kernel
theorem dL_law_787 : decode cL_law 787 = .ok (.iconst 0, 1) := by decide +kernel
theorem dL_law_788 : decode cL_law 788 = .ok (.ireturn, 1) := by decide +kernel
theorem dL_law_789 : decode cL_law 789 = .ok (.aload_n 1, 1) := by decide +kernel
theorem dL_law_790 : decode cL_law 790 = .ok (.aload_n 0, 1) := by decide +kernel
theorem dL_law_791 : decode cL_law 791 = .ok (.iload_n 3, 1) := by decide +kernel
theorem dL_law_792 : decode cL_law 792 = .ok (.iconst 1, 1) := by decide +kernel
theorem dL_law_793 : decode cL_law 793 = .ok (.iadd, 1) := by decide +kernel
theorem dL_law_794 : decode cL_law 794 = .ok (.iaload, 1) := by decide +kernel
theorem dL_law_795 : decode cL_law 795 = .ok (.invokevirtual 102, 3) := by decide +kernel
theorem dL_law_798 : decode cL_law 798 = .ok (.aload_n 2, 1) := by decide +kernel
theorem dL_law_799 : decode cL_law 799 = .ok (.aload_n 0, 1) := by decide +kernel
theorem dL_law_800 : decode cL_law 800 = .ok (.iload_n 3, 1) := by decide +kernel
theorem dL_law_801 : decode cL_law 801 = .ok (.iconst 1, 1) := by decide +kernel
theorem dL_law_802 : decode cL_law 802 = .ok (.iadd, 1) := by decide +kernel
theorem dL_law_803 : decode cL_law 803 = .ok (.iaload, 1) := by decide +kernel
theorem dL_law_804 : decode cL_law 804 = .ok (.invokevirtual 105, 3) := by decide +kernel
theorem dL_law_807 : decode cL_law 807 = .ok (.if_icmp .eq 431, 3) := by decide +kernel
theorem dL_law_810 : decode cL_law 810 = .ok (.iconst 0, 1) := by decide +kernel
theorem dL_law_811 : decode cL_law 811 = .ok (.ireturn, 1) := by decide +kernel
theorem dL_law_812 : decode cL_law 812 = .ok (.aload_n 1, 1) := by decide +kernel
theorem dL_law_813 : decode cL_law 813 = .ok (.aload_n 0, 1) := by decide +kernel
theorem dL_law_814 : decode cL_law 814 = .ok (.iload_n 3, 1) := by decide +kernel
theorem dL_law_815 : decode cL_law 815 = .ok (.iconst 1, 1) := by decide +kernel
theorem dL_law_816 : decode cL_law 816 = .ok (.iadd, 1) := by decide +kernel
theorem dL_law_817 : decode cL_law 817 = .ok (.iaload, 1) := by decide +kernel
theorem dL_law_818 : decode cL_law 818 = .ok (.invokevirtual 106, 3) := by decide +kernel
theorem dL_law_821 : decode cL_law 821 = .ok (.aload_n 2, 1) := by decide +kernel
theorem dL_law_822 : decode cL_law 822 = .ok (.aload_n 0, 1) := by decide +kernel
theorem dL_law_823 : decode cL_law 823 = .ok (.iload_n 3, 1) := by decide +kernel
theorem dL_law_824 : decode cL_law 824 = .ok (.iconst 1, 1) := by decide +kernel
theorem dL_law_825 : decode cL_law 825 = .ok (.iadd, 1) := by decide +kernel
theorem dL_law_826 : decode cL_law 826 = .ok (.iaload, 1) := by decide +kernel
theorem dL_law_827 : decode cL_law 827 = .ok (.invokevirtual 109, 3) := by decide +kernel
theorem dL_law_830 : decode cL_law 830 = .ok (.if_icmp .eq 408, 3) := by decide +kernel
theorem dL_law_833 : decode cL_law 833 = .ok (.iconst 0, 1) := by decide +kernel
theorem dL_law_834 : decode cL_law 834 = .ok (.ireturn, 1) := by decide +kernel
theorem dL_law_835 : decode cL_law 835 = .ok (.aload_n 1, 1) := by decide +kernel
theorem dL_law_836 : decode cL_law 836 = .ok (.aload_n 0, 1) := by decide +kernel
theorem dL_law_837 : decode cL_law 837 = .ok (.iload_n 3, 1) := by decide +kernel
theorem dL_law_838 : decode cL_law 838 = .ok (.iconst 1, 1) := by decide +kernel
theorem dL_law_839 : decode cL_law 839 = .ok (.iadd, 1) := by decide +kernel
theorem dL_law_840 : decode cL_law 840 = .ok (.iaload, 1) := by decide +kernel
theorem dL_law_841 : decode cL_law 841 = .ok (.aload_n 0, 1) := by decide +kernel
theorem dL_law_842 : decode cL_law 842 = .ok (.iload_n 3, 1) := by decide +kernel
theorem dL_law_843 : decode cL_law 843 = .ok (.iconst 2, 1) := by decide +kernel
theorem dL_law_844 : decode cL_law 844 = .ok (.iadd, 1) := by decide +kernel
theorem dL_law_845 : decode cL_law 845 = .ok (.iaload, 1) := by decide +kernel
theorem dL_law_846 : decode cL_law 846 = .ok (.invokevirtual 110, 3) := by decide +kernel
theorem dL_law_849 : decode cL_law 849 = .ok (.aload_n 2, 1) := by decide +kernel
theorem dL_law_850 : decode cL_law 850 = .ok (.aload_n 0, 1) := by decide +kernel
theorem dL_law_851 : decode cL_law 851 = .ok (.iload_n 3, 1) := by decide +kernel
theorem dL_law_852 : decode cL_law 852 = .ok (.iconst 1, 1) := by decide +kernel
theorem dL_law_853 : decode cL_law 853 = .ok (.iadd, 1) := by decide +kernel
theorem dL_law_854 : decode cL_law 854 = .ok (.iaload, 1) := by decide +kernel
theorem dL_law_855 : decode cL_law 855 = .ok (.aload_n 0, 1) := by decide +kernel
theorem dL_law_856 : decode cL_law 856 = .ok (.iload_n 3, 1) := by decide +kernel
theorem dL_law_857 : decode cL_law 857 = .ok (.iconst 2, 1) := by decide +kernel
theorem dL_law_858 : decode cL_law 858 = .ok (.iadd, 1) := by decide +kernel
theorem dL_law_859 : decode cL_law 859 = .ok (.iaload, 1) := by decide +kernel
theorem dL_law_860 : decode cL_law 860 = .ok (.invokevirtual 113, 3) := by decide +kernel
theorem dL_law_863 : decode cL_law 863 = .ok (.if_icmp .eq 375, 3) := by decide +kernel
theorem dL_law_866 : decode cL_law 866 = .ok (.iconst 0, 1) := by decide +kernel
theorem dL_law_867 : decode cL_law 867 = .ok (.ireturn, 1) := by decide +kernel
theorem dL_law_868 : decode cL_law 868 = .ok (.aload_n 1, 1) := by decide +kernel
theorem dL_law_869 : decode cL_law 869 = .ok (.aload_n 0, 1) := by decide +kernel
theorem dL_law_870 : decode cL_law 870 = .ok (.iload_n 3, 1) := by decide +kernel
theorem dL_law_871 : decode cL_law 871 = .ok (.iconst 1, 1) := by decide +kernel
theorem dL_law_872 : decode cL_law 872 = .ok (.iadd, 1) := by decide +kernel
theorem dL_law_873 : decode cL_law 873 = .ok (.iaload, 1) := by decide +kernel
theorem dL_law_874 : decode cL_law 874 = .ok (.aload_n 0, 1) := by decide +kernel
theorem dL_law_875 : decode cL_law 875 = .ok (.iload_n 3, 1) := by decide +kernel
theorem dL_law_876 : decode cL_law 876 = .ok (.iconst 2, 1) := by decide +kernel
theorem dL_law_877 : decode cL_law 877 = .ok (.iadd, 1) := by decide +kernel
theorem dL_law_878 : decode cL_law 878 = .ok (.iaload, 1) := by decide +kernel
theorem dL_law_879 : decode cL_law 879 = .ok (.aload_n 0, 1) := by decide +kernel
theorem dL_law_880 : decode cL_law 880 = .ok (.iload_n 3, 1) := by decide +kernel
theorem dL_law_881 : decode cL_law 881 = .ok (.iconst 3, 1) := by decide +kernel
theorem dL_law_882 : decode cL_law 882 = .ok (.iadd, 1) := by decide +kernel
theorem dL_law_883 : decode cL_law 883 = .ok (.iaload, 1) := by decide +kernel
theorem dL_law_884 : decode cL_law 884 = .ok (.aload_n 0, 1) := by decide +kernel
theorem dL_law_885 : decode cL_law 885 = .ok (.iload_n 3, 1) := by decide +kernel
theorem dL_law_886 : decode cL_law 886 = .ok (.iconst 4, 1) := by decide +kernel
theorem dL_law_887 : decode cL_law 887 = .ok (.iadd, 1) := by decide +kernel
theorem dL_law_888 : decode cL_law 888 = .ok (.iaload, 1) := by decide +kernel
theorem dL_law_889 : decode cL_law 889 = .ok (.invokevirtual 114, 3) := by decide +kernel
theorem dL_law_892 : decode cL_law 892 = .ok (.aload_n 2, 1) := by decide +kernel
theorem dL_law_893 : decode cL_law 893 = .ok (.aload_n 0, 1) := by decide +kernel
theorem dL_law_894 : decode cL_law 894 = .ok (.iload_n 3, 1) := by decide +kernel
theorem dL_law_895 : decode cL_law 895 = .ok (.iconst 1, 1) := by decide +kernel
theorem dL_law_896 : decode cL_law 896 = .ok (.iadd, 1) := by decide +kernel
theorem dL_law_897 : decode cL_law 897 = .ok (.iaload, 1) := by decide +kernel
theorem dL_law_898 : decode cL_law 898 = .ok (.aload_n 0, 1) := by decide +kernel
theorem dL_law_899 : decode cL_law 899 = .ok (.iload_n 3, 1) := by decide +kernel
theorem dL_law_900 : decode cL_law 900 = .ok (.iconst 2, 1) := by decide +kernel
theorem dL_law_901 : decode cL_law 901 = .ok (.iadd, 1) := by decide +kernel
theorem dL_law_902 : decode cL_law 902 = .ok (.iaload, 1) := by decide +kernel
theorem dL_law_903 : decode cL_law 903 = .ok (.aload_n 0, 1) := by decide +kernel
theorem dL_law_904 : decode cL_law 904 = .ok (.iload_n 3, 1) := by decide +kernel
theorem dL_law_905 : decode cL_law 905 = .ok (.iconst 3, 1) := by decide +kernel
theorem dL_law_906 : decode cL_law 906 = .ok (.iadd, 1) := by decide +kernel
theorem dL_law_907 : decode cL_law 907 = .ok (.iaload, 1) := by decide +kernel
theorem dL_law_908 : decode cL_law 908 = .ok (.aload_n 0, 1) := by decide +kernel
theorem dL_law_909 : decode cL_law 909 = .ok (.iload_n 3, 1) := by decide +kernel
theorem dL_law_910 : decode cL_law 910 = .ok (.iconst 4, 1) := by decide +kernel
theorem dL_law_911 : decode cL_law 911 = .ok (.iadd, 1) := by decide +kernel
theorem dL_law_912 : decode cL_law 912 = .ok (.iaload, 1) := by decide +kernel
theorem dL_law_913 : decode cL_law 913 = .ok (.invokevirtual 118, 3) := by decide +kernel
theorem dL_law_916 : decode cL_law 916 = .ok (.if_icmp .eq 322, 3) := by decide +kernel
theorem dL_law_919 : decode cL_law 919 = .ok (.iconst 0, 1) := by decide +kernel
theorem dL_law_920 : decode cL_law 920 = .ok (.ireturn, 1) := by decide +kernel
theorem dL_law_921 : decode cL_law 921 = .ok (.aload_n 1, 1) := by decide +kernel
theorem dL_law_922 : decode cL_law 922 = .ok (.aload_n 0, 1) := by decide +kernel
theorem dL_law_923 : decode cL_law 923 = .ok (.iload_n 3, 1) := by decide +kernel
theorem dL_law_924 : decode cL_law 924 = .ok (.iconst 1, 1) := by decide +kernel
theorem dL_law_925 : decode cL_law 925 = .ok (.iadd, 1) := by decide +kernel
theorem dL_law_926 : decode cL_law 926 = .ok (.iaload, 1) := by decide +kernel
theorem dL_law_927 : decode cL_law 927 = .ok (.invokevirtual 119, 3) := by decide +kernel
theorem dL_law_930 : decode cL_law 930 = .ok (.aload_n 2, 1) := by decide +kernel
theorem dL_law_931 : decode cL_law 931 = .ok (.aload_n 0, 1) := by decide +kernel
theorem dL_law_932 : decode cL_law 932 = .ok (.iload_n 3, 1) := by decide +kernel
theorem dL_law_933 : decode cL_law 933 = .ok (.iconst 1, 1) := by decide +kernel
theorem dL_law_934 : decode cL_law 934 = .ok (.iadd, 1) := by decide +kernel
theorem dL_law_935 : decode cL_law 935 = .ok (.iaload, 1) := by decide +kernel
theorem dL_law_936 : decode cL_law 936 = .ok (.invokevirtual 122, 3) := by decide +kernel
theorem dL_law_939 : decode cL_law 939 = .ok (.if_icmp .eq 299, 3) := by decide +kernel
theorem dL_law_942 : decode cL_law 942 = .ok (.iconst 0, 1) := by decide +kernel
theorem dL_law_943 : decode cL_law 943 = .ok (.ireturn, 1) := by decide +kernel
theorem dL_law_944 : decode cL_law 944 = .ok (.aload_n 1, 1) := by decide +kernel
theorem dL_law_945 : decode cL_law 945 = .ok (.invokevirtual 123, 3) := by decide +kernel
theorem dL_law_948 : decode cL_law 948 = .ok (.aload_n 2, 1) := by decide +kernel
theorem dL_law_949 : decode cL_law 949 = .ok (.invokevirtual 126, 3) := by decide +kernel
theorem dL_law_952 : decode cL_law 952 = .ok (.if_icmp .eq 286, 3) := by decide +kernel
theorem dL_law_955 : decode cL_law 955 = .ok (.iconst 0, 1) := by decide +kernel
theorem dL_law_956 : decode cL_law 956 = .ok (.ireturn, 1) := by decide +kernel
theorem dL_law_957 : decode cL_law 957 = .ok (.aload_n 1, 1) := by decide +kernel
theorem dL_law_958 : decode cL_law 958 = .ok (.aload_n 0, 1) := by decide +kernel
theorem dL_law_959 : decode cL_law 959 = .ok (.iload_n 3, 1) := by decide +kernel
theorem dL_law_960 : decode cL_law 960 = .ok (.iconst 1, 1) := by decide +kernel
theorem dL_law_961 : decode cL_law 961 = .ok (.iadd, 1) := by decide +kernel
theorem dL_law_962 : decode cL_law 962 = .ok (.iaload, 1) := by decide +kernel
theorem dL_law_963 : decode cL_law 963 = .ok (.aload_n 0, 1) := by decide +kernel
theorem dL_law_964 : decode cL_law 964 = .ok (.iload_n 3, 1) := by decide +kernel
theorem dL_law_965 : decode cL_law 965 = .ok (.iconst 2, 1) := by decide +kernel
theorem dL_law_966 : decode cL_law 966 = .ok (.iadd, 1) := by decide +kernel
theorem dL_law_967 : decode cL_law 967 = .ok (.iaload, 1) := by decide +kernel
theorem dL_law_968 : decode cL_law 968 = .ok (.aload_n 0, 1) := by decide +kernel
theorem dL_law_969 : decode cL_law 969 = .ok (.iload_n 3, 1) := by decide +kernel
theorem dL_law_970 : decode cL_law 970 = .ok (.iconst 3, 1) := by decide +kernel
theorem dL_law_971 : decode cL_law 971 = .ok (.iadd, 1) := by decide +kernel
theorem dL_law_972 : decode cL_law 972 = .ok (.iaload, 1) := by decide +kernel
theorem dL_law_973 : decode cL_law 973 = .ok (.invokevirtual 127, 3) := by decide +kernel
theorem dL_law_976 : decode cL_law 976 = .ok (.aload_n 2, 1) := by decide +kernel
theorem dL_law_977 : decode cL_law 977 = .ok (.aload_n 0, 1) := by decide +kernel
theorem dL_law_978 : decode cL_law 978 = .ok (.iload_n 3, 1) := by decide +kernel
theorem dL_law_979 : decode cL_law 979 = .ok (.iconst 1, 1) := by decide +kernel
theorem dL_law_980 : decode cL_law 980 = .ok (.iadd, 1) := by decide +kernel
theorem dL_law_981 : decode cL_law 981 = .ok (.iaload, 1) := by decide +kernel
theorem dL_law_982 : decode cL_law 982 = .ok (.aload_n 0, 1) := by decide +kernel
theorem dL_law_983 : decode cL_law 983 = .ok (.iload_n 3, 1) := by decide +kernel
theorem dL_law_984 : decode cL_law 984 = .ok (.iconst 2, 1) := by decide +kernel
theorem dL_law_985 : decode cL_law 985 = .ok (.iadd, 1) := by decide +kernel
theorem dL_law_986 : decode cL_law 986 = .ok (.iaload, 1) := by decide +kernel
theorem dL_law_987 : decode cL_law 987 = .ok (.aload_n 0, 1) := by decide +kernel
theorem dL_law_988 : decode cL_law 988 = .ok (.iload_n 3, 1) := by decide +kernel
theorem dL_law_989 : decode cL_law 989 = .ok (.iconst 3, 1) := by decide +kernel
theorem dL_law_990 : decode cL_law 990 = .ok (.iadd, 1) := by decide +kernel
theorem dL_law_991 : decode cL_law 991 = .ok (.iaload, 1) := by decide +kernel
theorem dL_law_992 : decode cL_law 992 = .ok (.invokevirtual 131, 3) := by decide +kernel
theorem dL_law_995 : decode cL_law 995 = .ok (.lcmp, 1) := by decide +kernel
theorem dL_law_996 : decode cL_law 996 = .ok (.ifCond .eq 242, 3) := by decide +kernel
theorem dL_law_999 : decode cL_law 999 = .ok (.iconst 0, 1) := by decide +kernel
theorem dL_law_1000 : decode cL_law 1000 = .ok (.ireturn, 1) := by decide +kernel
theorem dL_law_1001 : decode cL_law 1001 = .ok (.aload_n 1, 1) := by decide +kernel
theorem dL_law_1002 : decode cL_law 1002 = .ok (.aload_n 0, 1) := by decide +kernel
theorem dL_law_1003 : decode cL_law 1003 = .ok (.iload_n 3, 1) := by decide +kernel
theorem dL_law_1004 : decode cL_law 1004 = .ok (.iconst 1, 1) := by decide +kernel
theorem dL_law_1005 : decode cL_law 1005 = .ok (.iadd, 1) := by decide +kernel
theorem dL_law_1006 : decode cL_law 1006 = .ok (.iaload, 1) := by decide +kernel
theorem dL_law_1007 : decode cL_law 1007 = .ok (.aload_n 0, 1) := by decide +kernel
theorem dL_law_1008 : decode cL_law 1008 = .ok (.iload_n 3, 1) := by decide +kernel
theorem dL_law_1009 : decode cL_law 1009 = .ok (.iconst 2, 1) := by decide +kernel
theorem dL_law_1010 : decode cL_law 1010 = .ok (.iadd, 1) := by decide +kernel
theorem dL_law_1011 : decode cL_law 1011 = .ok (.iaload, 1) := by decide +kernel
theorem dL_law_1012 : decode cL_law 1012 = .ok (.aload_n 0, 1) := by decide +kernel
theorem dL_law_1013 : decode cL_law 1013 = .ok (.iload_n 3, 1) := by decide +kernel
theorem dL_law_1014 : decode cL_law 1014 = .ok (.iconst 3, 1) := by decide +kernel
theorem dL_law_1015 : decode cL_law 1015 = .ok (.iadd, 1) := by decide +kernel
theorem dL_law_1016 : decode cL_law 1016 = .ok (.iaload, 1) := by decide +kernel
theorem dL_law_1017 : decode cL_law 1017 = .ok (.invokevirtual 132, 3) := by decide +kernel
theorem dL_law_1020 : decode cL_law 1020 = .ok (.aload_n 2, 1) := by decide +kernel
theorem dL_law_1021 : decode cL_law 1021 = .ok (.aload_n 0, 1) := by decide +kernel
theorem dL_law_1022 : decode cL_law 1022 = .ok (.iload_n 3, 1) := by decide +kernel
theorem dL_law_1023 : decode cL_law 1023 = .ok (.iconst 1, 1) := by decide +kernel
theorem dL_law_1024 : decode cL_law 1024 = .ok (.iadd, 1) := by decide +kernel
theorem dL_law_1025 : decode cL_law 1025 = .ok (.iaload, 1) := by decide +kernel
theorem dL_law_1026 : decode cL_law 1026 = .ok (.aload_n 0, 1) := by decide +kernel
theorem dL_law_1027 : decode cL_law 1027 = .ok (.iload_n 3, 1) := by decide +kernel
theorem dL_law_1028 : decode cL_law 1028 = .ok (.iconst 2, 1) := by decide +kernel
theorem dL_law_1029 : decode cL_law 1029 = .ok (.iadd, 1) := by decide +kernel
theorem dL_law_1030 : decode cL_law 1030 = .ok (.iaload, 1) := by decide +kernel
theorem dL_law_1031 : decode cL_law 1031 = .ok (.aload_n 0, 1) := by decide +kernel
theorem dL_law_1032 : decode cL_law 1032 = .ok (.iload_n 3, 1) := by decide +kernel
theorem dL_law_1033 : decode cL_law 1033 = .ok (.iconst 3, 1) := by decide +kernel
theorem dL_law_1034 : decode cL_law 1034 = .ok (.iadd, 1) := by decide +kernel
theorem dL_law_1035 : decode cL_law 1035 = .ok (.iaload, 1) := by decide +kernel
theorem dL_law_1036 : decode cL_law 1036 = .ok (.invokevirtual 135, 3) := by decide +kernel
theorem dL_law_1039 : decode cL_law 1039 = .ok (.if_icmp .eq 199, 3) := by decide +kernel
theorem dL_law_1042 : decode cL_law 1042 = .ok (.iconst 0, 1) := by decide +kernel
theorem dL_law_1043 : decode cL_law 1043 = .ok (.ireturn, 1) := by decide +kernel
theorem dL_law_1044 : decode cL_law 1044 = .ok (.aload_n 1, 1) := by decide +kernel
theorem dL_law_1045 : decode cL_law 1045 = .ok (.aload_n 0, 1) := by decide +kernel
theorem dL_law_1046 : decode cL_law 1046 = .ok (.iload_n 3, 1) := by decide +kernel
theorem dL_law_1047 : decode cL_law 1047 = .ok (.iconst 1, 1) := by decide +kernel
theorem dL_law_1048 : decode cL_law 1048 = .ok (.iadd, 1) := by decide +kernel
theorem dL_law_1049 : decode cL_law 1049 = .ok (.iaload, 1) := by decide +kernel
theorem dL_law_1050 : decode cL_law 1050 = .ok (.invokevirtual 136, 3) := by decide +kernel
theorem dL_law_1053 : decode cL_law 1053 = .ok (.aload_n 2, 1) := by decide +kernel
theorem dL_law_1054 : decode cL_law 1054 = .ok (.aload_n 0, 1) := by decide +kernel
theorem dL_law_1055 : decode cL_law 1055 = .ok (.iload_n 3, 1) := by decide +kernel
theorem dL_law_1056 : decode cL_law 1056 = .ok (.iconst 1, 1) := by decide +kernel
theorem dL_law_1057 : decode cL_law 1057 = .ok (.iadd, 1) := by decide +kernel
theorem dL_law_1058 : decode cL_law 1058 = .ok (.iaload, 1) := by decide +kernel
theorem dL_law_1059 : decode cL_law 1059 = .ok (.invokevirtual 139, 3) := by decide +kernel
theorem dL_law_1062 : decode cL_law 1062 = .ok (.if_icmp .eq 176, 3) := by decide +kernel
theorem dL_law_1065 : decode cL_law 1065 = .ok (.iconst 0, 1) := by decide +kernel
theorem dL_law_1066 : decode cL_law 1066 = .ok (.ireturn, 1) := by decide +kernel
theorem dL_law_1067 : decode cL_law 1067 = .ok (.aload_n 1, 1) := by decide +kernel
theorem dL_law_1068 : decode cL_law 1068 = .ok (.aload_n 0, 1) := by decide +kernel
theorem dL_law_1069 : decode cL_law 1069 = .ok (.iload_n 3, 1) := by decide +kernel
theorem dL_law_1070 : decode cL_law 1070 = .ok (.iconst 1, 1) := by decide +kernel
theorem dL_law_1071 : decode cL_law 1071 = .ok (.iadd, 1) := by decide +kernel
theorem dL_law_1072 : decode cL_law 1072 = .ok (.iaload, 1) := by decide +kernel
theorem dL_law_1073 : decode cL_law 1073 = .ok (.invokevirtual 140, 3) := by decide +kernel
theorem dL_law_1076 : decode cL_law 1076 = .ok (.aload_n 2, 1) := by decide +kernel
theorem dL_law_1077 : decode cL_law 1077 = .ok (.aload_n 0, 1) := by decide +kernel
theorem dL_law_1078 : decode cL_law 1078 = .ok (.iload_n 3, 1) := by decide +kernel
theorem dL_law_1079 : decode cL_law 1079 = .ok (.iconst 1, 1) := by decide +kernel
theorem dL_law_1080 : decode cL_law 1080 = .ok (.iadd, 1) := by decide +kernel
theorem dL_law_1081 : decode cL_law 1081 = .ok (.iaload, 1) := by decide +kernel
theorem dL_law_1082 : decode cL_law 1082 = .ok (.invokevirtual 143, 3) := by decide +kernel
theorem dL_law_1085 : decode cL_law 1085 = .ok (.if_icmp .eq 153, 3) := by decide +kernel
theorem dL_law_1088 : decode cL_law 1088 = .ok (.iconst 0, 1) := by decide +kernel
theorem dL_law_1089 : decode cL_law 1089 = .ok (.ireturn, 1) := by decide +kernel
theorem dL_law_1090 : decode cL_law 1090 = .ok (.aload_n 1, 1) := by decide +kernel
theorem dL_law_1091 : decode cL_law 1091 = .ok (.aload_n 0, 1) := by decide +kernel
theorem dL_law_1092 : decode cL_law 1092 = .ok (.iload_n 3, 1) := by decide +kernel
theorem dL_law_1093 : decode cL_law 1093 = .ok (.iconst 1, 1) := by decide +kernel
theorem dL_law_1094 : decode cL_law 1094 = .ok (.iadd, 1) := by decide +kernel
theorem dL_law_1095 : decode cL_law 1095 = .ok (.iaload, 1) := by decide +kernel
theorem dL_law_1096 : decode cL_law 1096 = .ok (.invokevirtual 144, 3) := by decide +kernel
theorem dL_law_1099 : decode cL_law 1099 = .ok (.aload_n 2, 1) := by decide +kernel
theorem dL_law_1100 : decode cL_law 1100 = .ok (.aload_n 0, 1) := by decide +kernel
theorem dL_law_1101 : decode cL_law 1101 = .ok (.iload_n 3, 1) := by decide +kernel
theorem dL_law_1102 : decode cL_law 1102 = .ok (.iconst 1, 1) := by decide +kernel
theorem dL_law_1103 : decode cL_law 1103 = .ok (.iadd, 1) := by decide +kernel
theorem dL_law_1104 : decode cL_law 1104 = .ok (.iaload, 1) := by decide +kernel
theorem dL_law_1105 : decode cL_law 1105 = .ok (.invokevirtual 147, 3) := by decide +kernel
theorem dL_law_1108 : decode cL_law 1108 = .ok (.if_icmp .eq 130, 3) := by decide +kernel
theorem dL_law_1111 : decode cL_law 1111 = .ok (.iconst 0, 1) := by decide +kernel
theorem dL_law_1112 : decode cL_law 1112 = .ok (.ireturn, 1) := by decide +kernel
theorem dL_law_1113 : decode cL_law 1113 = .ok (.aload_n 1, 1) := by decide +kernel
theorem dL_law_1114 : decode cL_law 1114 = .ok (.aload_n 0, 1) := by decide +kernel
theorem dL_law_1115 : decode cL_law 1115 = .ok (.iload_n 3, 1) := by decide +kernel
theorem dL_law_1116 : decode cL_law 1116 = .ok (.iconst 1, 1) := by decide +kernel
theorem dL_law_1117 : decode cL_law 1117 = .ok (.iadd, 1) := by decide +kernel
theorem dL_law_1118 : decode cL_law 1118 = .ok (.iaload, 1) := by decide +kernel
theorem dL_law_1119 : decode cL_law 1119 = .ok (.aload_n 0, 1) := by decide +kernel
theorem dL_law_1120 : decode cL_law 1120 = .ok (.iload_n 3, 1) := by decide +kernel
theorem dL_law_1121 : decode cL_law 1121 = .ok (.iconst 2, 1) := by decide +kernel
theorem dL_law_1122 : decode cL_law 1122 = .ok (.iadd, 1) := by decide +kernel
theorem dL_law_1123 : decode cL_law 1123 = .ok (.iaload, 1) := by decide +kernel
theorem dL_law_1124 : decode cL_law 1124 = .ok (.invokevirtual 148, 3) := by decide +kernel
theorem dL_law_1127 : decode cL_law 1127 = .ok (.aload_n 2, 1) := by decide +kernel
theorem dL_law_1128 : decode cL_law 1128 = .ok (.aload_n 0, 1) := by decide +kernel
theorem dL_law_1129 : decode cL_law 1129 = .ok (.iload_n 3, 1) := by decide +kernel
theorem dL_law_1130 : decode cL_law 1130 = .ok (.iconst 1, 1) := by decide +kernel
theorem dL_law_1131 : decode cL_law 1131 = .ok (.iadd, 1) := by decide +kernel
theorem dL_law_1132 : decode cL_law 1132 = .ok (.iaload, 1) := by decide +kernel
theorem dL_law_1133 : decode cL_law 1133 = .ok (.aload_n 0, 1) := by decide +kernel
theorem dL_law_1134 : decode cL_law 1134 = .ok (.iload_n 3, 1) := by decide +kernel
theorem dL_law_1135 : decode cL_law 1135 = .ok (.iconst 2, 1) := by decide +kernel
theorem dL_law_1136 : decode cL_law 1136 = .ok (.iadd, 1) := by decide +kernel
theorem dL_law_1137 : decode cL_law 1137 = .ok (.iaload, 1) := by decide +kernel
theorem dL_law_1138 : decode cL_law 1138 = .ok (.invokevirtual 151, 3) := by decide +kernel
theorem dL_law_1141 : decode cL_law 1141 = .ok (.if_icmp .eq 97, 3) := by decide +kernel
theorem dL_law_1144 : decode cL_law 1144 = .ok (.iconst 0, 1) := by decide +kernel
theorem dL_law_1145 : decode cL_law 1145 = .ok (.ireturn, 1) := by decide +kernel
theorem dL_law_1146 : decode cL_law 1146 = .ok (.aload_n 1, 1) := by decide +kernel
theorem dL_law_1147 : decode cL_law 1147 = .ok (.aload_n 0, 1) := by decide +kernel
theorem dL_law_1148 : decode cL_law 1148 = .ok (.iload_n 3, 1) := by decide +kernel
theorem dL_law_1149 : decode cL_law 1149 = .ok (.iconst 1, 1) := by decide +kernel
theorem dL_law_1150 : decode cL_law 1150 = .ok (.iadd, 1) := by decide +kernel
theorem dL_law_1151 : decode cL_law 1151 = .ok (.iaload, 1) := by decide +kernel
theorem dL_law_1152 : decode cL_law 1152 = .ok (.aload_n 0, 1) := by decide +kernel
theorem dL_law_1153 : decode cL_law 1153 = .ok (.iload_n 3, 1) := by decide +kernel
theorem dL_law_1154 : decode cL_law 1154 = .ok (.iconst 2, 1) := by decide +kernel
theorem dL_law_1155 : decode cL_law 1155 = .ok (.iadd, 1) := by decide +kernel
theorem dL_law_1156 : decode cL_law 1156 = .ok (.iaload, 1) := by decide +kernel
theorem dL_law_1157 : decode cL_law 1157 = .ok (.invokevirtual 152, 3) := by decide +kernel
theorem dL_law_1160 : decode cL_law 1160 = .ok (.aload_n 2, 1) := by decide +kernel
theorem dL_law_1161 : decode cL_law 1161 = .ok (.aload_n 0, 1) := by decide +kernel
theorem dL_law_1162 : decode cL_law 1162 = .ok (.iload_n 3, 1) := by decide +kernel
theorem dL_law_1163 : decode cL_law 1163 = .ok (.iconst 1, 1) := by decide +kernel
theorem dL_law_1164 : decode cL_law 1164 = .ok (.iadd, 1) := by decide +kernel
theorem dL_law_1165 : decode cL_law 1165 = .ok (.iaload, 1) := by decide +kernel
theorem dL_law_1166 : decode cL_law 1166 = .ok (.aload_n 0, 1) := by decide +kernel
theorem dL_law_1167 : decode cL_law 1167 = .ok (.iload_n 3, 1) := by decide +kernel
theorem dL_law_1168 : decode cL_law 1168 = .ok (.iconst 2, 1) := by decide +kernel
theorem dL_law_1169 : decode cL_law 1169 = .ok (.iadd, 1) := by decide +kernel
theorem dL_law_1170 : decode cL_law 1170 = .ok (.iaload, 1) := by decide +kernel
theorem dL_law_1171 : decode cL_law 1171 = .ok (.invokevirtual 155, 3) := by decide +kernel
theorem dL_law_1174 : decode cL_law 1174 = .ok (.if_icmp .eq 64, 3) := by decide +kernel
theorem dL_law_1177 : decode cL_law 1177 = .ok (.iconst 0, 1) := by decide +kernel
theorem dL_law_1178 : decode cL_law 1178 = .ok (.ireturn, 1) := by decide +kernel
theorem dL_law_1179 : decode cL_law 1179 = .ok (.aload_n 1, 1) := by decide +kernel
theorem dL_law_1180 : decode cL_law 1180 = .ok (.aload_n 0, 1) := by decide +kernel
theorem dL_law_1181 : decode cL_law 1181 = .ok (.iload_n 3, 1) := by decide +kernel
theorem dL_law_1182 : decode cL_law 1182 = .ok (.iconst 1, 1) := by decide +kernel
theorem dL_law_1183 : decode cL_law 1183 = .ok (.iadd, 1) := by decide +kernel
theorem dL_law_1184 : decode cL_law 1184 = .ok (.iaload, 1) := by decide +kernel
theorem dL_law_1185 : decode cL_law 1185 = .ok (.invokevirtual 156, 3) := by decide +kernel
theorem dL_law_1188 : decode cL_law 1188 = .ok (.aload_n 2, 1) := by decide +kernel
theorem dL_law_1189 : decode cL_law 1189 = .ok (.aload_n 0, 1) := by decide +kernel
theorem dL_law_1190 : decode cL_law 1190 = .ok (.iload_n 3, 1) := by decide +kernel
theorem dL_law_1191 : decode cL_law 1191 = .ok (.iconst 1, 1) := by decide +kernel
theorem dL_law_1192 : decode cL_law 1192 = .ok (.iadd, 1) := by decide +kernel
theorem dL_law_1193 : decode cL_law 1193 = .ok (.iaload, 1) := by decide +kernel
theorem dL_law_1194 : decode cL_law 1194 = .ok (.invokevirtual 159, 3) := by decide +kernel
theorem dL_law_1197 : decode cL_law 1197 = .ok (.if_icmp .eq 41, 3) := by decide +kernel
theorem dL_law_1200 : decode cL_law 1200 = .ok (.iconst 0, 1) := by decide +kernel
theorem dL_law_1201 : decode cL_law 1201 = .ok (.ireturn, 1) := by decide +kernel
theorem dL_law_1202 : decode cL_law 1202 = .ok (.aload_n 1, 1) := by decide +kernel
theorem dL_law_1203 : decode cL_law 1203 = .ok (.aload_n 0, 1) := by decide +kernel
theorem dL_law_1204 : decode cL_law 1204 = .ok (.iload_n 3, 1) := by decide +kernel
theorem dL_law_1205 : decode cL_law 1205 = .ok (.iconst 1, 1) := by decide +kernel
theorem dL_law_1206 : decode cL_law 1206 = .ok (.iadd, 1) := by decide +kernel
theorem dL_law_1207 : decode cL_law 1207 = .ok (.iaload, 1) := by decide +kernel
theorem dL_law_1208 : decode cL_law 1208 = .ok (.invokevirtual 160, 3) := by decide +kernel
theorem dL_law_1211 : decode cL_law 1211 = .ok (.aload_n 2, 1) := by decide +kernel
theorem dL_law_1212 : decode cL_law 1212 = .ok (.aload_n 0, 1) := by decide +kernel
theorem dL_law_1213 : decode cL_law 1213 = .ok (.iload_n 3, 1) := by decide +kernel
theorem dL_law_1214 : decode cL_law 1214 = .ok (.iconst 1, 1) := by decide +kernel
theorem dL_law_1215 : decode cL_law 1215 = .ok (.iadd, 1) := by decide +kernel
theorem dL_law_1216 : decode cL_law 1216 = .ok (.iaload, 1) := by decide +kernel
theorem dL_law_1217 : decode cL_law 1217 = .ok (.invokevirtual 163, 3) := by decide +kernel
theorem dL_law_1220 : decode cL_law 1220 = .ok (.if_icmp .eq 18, 3) := by decide +kernel
theorem dL_law_1223 : decode cL_law 1223 = .ok (.iconst 0, 1) := by decide +kernel
theorem dL_law_1224 : decode cL_law 1224 = .ok (.ireturn, 1) := by decide +kernel
theorem dL_law_1225 : decode cL_law 1225 = .ok (.aload_n 1, 1) := by decide +kernel
theorem dL_law_1226 : decode cL_law 1226 = .ok (.invokevirtual 164, 3) := by decide +kernel
theorem dL_law_1229 : decode cL_law 1229 = .ok (.aload_n 2, 1) := by decide +kernel
theorem dL_law_1230 : decode cL_law 1230 = .ok (.invokevirtual 167, 3) := by decide +kernel
theorem dL_law_1233 : decode cL_law 1233 = .ok (.if_icmp .eq 5, 3) := by decide +kernel
theorem dL_law_1236 : decode cL_law 1236 = .ok (.iconst 0, 1) := by decide +kernel
theorem dL_law_1237 : decode cL_law 1237 = .ok (.ireturn, 1) := by decide +kernel
theorem dL_law_1238 : decode cL_law 1238 = .ok (.iinc 3 6, 3) := by decide +kernel
theorem dL_law_1241 : decode cL_law 1241 = .ok (.goto (-1223), 3) := by decide +kernel
theorem dL_law_1244 : decode cL_law 1244 = .ok (.iconst 1, 1) := by decide +kernel
theorem dL_law_1245 : decode cL_law 1245 = .ok (.ireturn, 1) := by decide +kernel
end
section
/-! ===== the walk over ONE fixed world: every cell that the system has, by its number; what it holds is a memory (ints, longs) ===== -/
section JDefs
abbrev jMem : Type := (Nat → Nat → Int32) × (Nat → Nat → Int64)
def jset (σ : jMem) (k j : Nat) (v : Int32) : jMem := (fun a b => if a = k ∧ b = j then v else σ.1 a b, σ.2)
def jsetL (σ : jMem) (k j : Nat) (v : Int64) : jMem := (σ.1, fun a b => if a = k ∧ b = j then v else σ.2 a b)
def jcpy (σ : jMem) (a sp b dp n : Nat) : jMem := (fun x y => if x = b ∧ dp ≤ y ∧ y < dp + n then σ.1 a (sp + (y - dp)) else σ.1 x y, σ.2)
/-- the cells: (0, class, fields: none an int, some t the cell t), (1 int[], 2 boolean[], 3 long[], length), (4 Witness[], 5 Parish[], 6 int[][], length, cells) -/
def jP (k : Nat) : Nat × Nat × List (Option Nat) := (0, 5, [some 15, none, none, none, none, none, none, none, some (k + 1), some (k + 2), some (k + 3), some (k + 4), some (k + 5), some (k + 6), some (k + 7)])
def jPs (k : Nat) : List (Nat × Nat × List (Option Nat)) := [jP k, (1, 12, []), (1, 12, []), (1, 12, []), (1, 6, []), (1, 6, []), (1, 6, []), (1, 6, [])]
def jlay : List (Nat × Nat × List (Option Nat)) :=
  [(0, 11, [some 1, some 13, some 15, some 22, some 30, some 54, some 55, none, none, some 80, some 86, some 88, none]),
   (0, 6, [some 2, some 11, some 12]), (6, 8, (List.range 8).map (fun i => some (3 + i)))] ++ List.replicate 8 (1, 40, []) ++ [(1, 8, []), (1, 8, []),
   (0, 9, [some 14, none, none, none, none, none, none, none]), (1, 140, []),
   (4, 6, (List.range 6).map (fun i => some (16 + i))), (0, 10, []), (0, 4, []), (0, 1, []), (0, 3, []), (0, 8, []), (0, 7, [])] ++
  jPs 22 ++ jPs 30 ++ jPs 38 ++ jPs 46 ++ [(5, 2, [some 38, some 46]), (6, 24, (List.range 24).map (fun i => some (56 + i)))] ++ List.replicate 24 (1, 14, []) ++
  [(0, 2, [none, none, none, some 81, some 82, some 83, some 84, some 85]), (1, 8, []), (1, 256, []), (3, 256, []), (3, 13, []), (3, 13, []),
   (0, 0, [none, none, none, none, some 87]), (1, 16, []), (1, 6, []),
   (0, 12, [none, none, some 90, some 91, some 92, some 93, some 94, some 95, some 96, none, some 97, none, none, none, none, none, none, none, none, some 98, none, none, none, some 99, some 100, some 101, none]), (1, 8, []), (1, 8, []), (1, 320, []), (1, 67, []), (1, 67, []), (1, 67, []), (1, 1608, []), (1, 140, []), (1, 8, []), (2, 2, []), (1, 134, []), (1, 16, [])]
def jL (k : Nat) : Nat × Nat × List (Option Nat) := jlay.getD k (9, 0, [])
def jfv (ad : Nat → Nat) (σ : jMem) (k j : Nat) (f : Option Nat) : Value := match f with
  | none => .int (σ.1 k j)
  | some t => .ref (ad t)
def jfs (ad : Nat → Nat) (σ : jMem) (k : Nat) (fs : List (Option Nat)) : List Value := fs.mapIdx (fun j f => jfv ad σ k j f)
def jcell (ad : Nat → Nat) (cid : Nat → ClassId) (σ : jMem) (k : Nat) (q : Nat × Nat × List (Option Nat)) : va_E :=
  if q.1 = 0 then .inr (q.2.1, jfs ad σ k q.2.2)
  else if q.1 = 3 then .inl (cid 3, q.2.1, .inr (.inl (σ.2 k)))
  else if q.1 ≤ 2 then .inl (cid q.1, q.2.1, .inl (σ.1 k))
  else .inl (cid q.1, q.2.1, .inr (.inr (.inr (.inr (fun i => (q.2.2.getD i none).map ad)))))
def jN : Nat := 102
def jwd (ad : Nat → Nat) (cid : Nat → ClassId) (σ : jMem) : va_W := (List.range jN).map (fun k => (ad k, jcell ad cid σ k (jL k)))
def jcv (ad : Nat → Nat) (v : Value) : Value := match v with
  | .ref k => .ref (ad k)
  | w => w
def jtys (cid : Nat → ClassId) : List (ClassId × FieldType) := [(cid 0, .int), (cid 1, .int), (cid 2, .boolean), (cid 3, .long), (cid 4, .object "CoffinWays$Witness"), (cid 5, .object "CoffinWays$Parish"), (cid 6, .array .int)]
def jI (ad : Nat → Nat) : Prop := ∀ i j, i < jN → j < jN → ad i = ad j → i = j
def jA (ad : Nat → Nat) : Nat → Prop := fun q => ∃ k, k < jN ∧ q = ad k
theorem jwd_at {ad : Nat → Nat} {cid : Nat → ClassId} {σ : jMem} {k : Nat} (h : k < jN) : (jwd ad cid σ)[k]? = some (ad k, jcell ad cid σ k (jL k)) := by
  simp [jwd, List.getElem?_map, List.getElem?_range h]
theorem jwd_D {ad : Nat → Nat} {cid : Nat → ClassId} {A : Nat → Prop} (hI : jI ad) (hA : ∀ k, k < jN → A (ad k)) (σ : jMem) : va_D A (jwd ad cid σ) := by
  have key : ∀ (k : Nat) (q : Nat × va_E), (jwd ad cid σ)[k]? = some q → k < jN ∧ q.1 = ad k := by
    intro k q hq
    have hk : k < jN := by
      have := (List.getElem?_eq_some_iff.mp hq).1
      simpa [jwd] using this
    rw [jwd_at hk] at hq
    cases hq
    exact ⟨hk, rfl⟩
  refine ⟨fun i j p q hp hq e => ?_, fun k q hq => ?_⟩
  · obtain ⟨a1, a2⟩ := key i p hp
    obtain ⟨b1, b2⟩ := key j q hq
    exact hI i j a1 b1 (by rw [← a2, ← b2]; exact e)
  · obtain ⟨a1, a2⟩ := key k q hq
    rw [a2]
    exact hA k a1
theorem jwd_upd {ad : Nat → Nat} {cid : Nat → ClassId} {σ σ' : jMem} {k : Nat} {e : va_E} (hk : k < jN) (h1 : jcell ad cid σ' k (jL k) = e) (h2 : ∀ i, i ≠ k → jcell ad cid σ' i (jL i) = jcell ad cid σ i (jL i)) : (jwd ad cid σ).set k (ad k, e) = jwd ad cid σ' := by
  apply List.ext_getElem?
  intro i
  have hl : k < (jwd ad cid σ).length := by simpa [jwd] using hk
  by_cases hi : i = k
  · subst hi
    rw [List.getElem?_set_self hl, jwd_at hk, h1]
  · rw [List.getElem?_set_ne (Ne.symm hi)]
    by_cases hN : i < jN
    · rw [jwd_at hN, jwd_at hN, h2 i hi]
    · rw [List.getElem?_eq_none (by simpa [jwd] using hN), List.getElem?_eq_none (by simpa [jwd] using hN)]
theorem jcell_o {ad : Nat → Nat} {cid : Nat → ClassId} {σ : jMem} {k ci : Nat} {fs : List (Option Nat)} : jcell ad cid σ k (0, ci, fs) = .inr (ci, jfs ad σ k fs) := rfl
theorem jcell_i {ad : Nat → Nat} {cid : Nat → ClassId} {σ : jMem} {k n : Nat} {fs : List (Option Nat)} : jcell ad cid σ k (1, n, fs) = .inl (cid 1, n, .inl (σ.1 k)) := rfl
theorem jcell_z {ad : Nat → Nat} {cid : Nat → ClassId} {σ : jMem} {k n : Nat} {fs : List (Option Nat)} : jcell ad cid σ k (2, n, fs) = .inl (cid 2, n, .inl (σ.1 k)) := rfl
theorem jcell_l {ad : Nat → Nat} {cid : Nat → ClassId} {σ : jMem} {k n : Nat} {fs : List (Option Nat)} : jcell ad cid σ k (3, n, fs) = .inl (cid 3, n, .inr (.inl (σ.2 k))) := rfl
theorem jcell_same {ad : Nat → Nat} {cid : Nat → ClassId} {σ σ' : jMem} {k : Nat} {q : Nat × Nat × List (Option Nat)} (h1 : σ'.1 k = σ.1 k) (h2 : σ'.2 k = σ.2 k) : jcell ad cid σ' k q = jcell ad cid σ k q := by
  have hf : jfs ad σ' k q.2.2 = jfs ad σ k q.2.2 := by
    unfold jfs
    congr 1
    funext j f
    cases f <;> simp [jfv, h1]
  unfold jcell
  rw [hf, h1, h2]
theorem jset_ne {σ : jMem} {k j i : Nat} {v : Int32} (h : i ≠ k) : (jset σ k j v).1 i = σ.1 i := by
  funext b
  simp [jset, h]
theorem jset_eq {σ : jMem} {k j : Nat} {v : Int32} : (jset σ k j v).1 k = upd (σ.1 k) j v := by
  funext b
  simp [jset, upd]
theorem jsetL_ne {σ : jMem} {k j i : Nat} {v : Int64} (h : i ≠ k) : (jsetL σ k j v).2 i = σ.2 i := by
  funext b
  simp [jsetL, h]
theorem jsetL_eq {σ : jMem} {k j : Nat} {v : Int64} : (jsetL σ k j v).2 k = vp_updL (σ.2 k) j v := by
  funext b
  simp [jsetL, vp_updL]
theorem jwd_put {ad : Nat → Nat} {cid : Nat → ClassId} {σ : jMem} {k ci j : Nat} {fs : List (Option Nat)} {v : Int32} (hk : k < jN) (hL : jL k = (0, ci, fs)) (hj : fs[j]? = some none) : (jwd ad cid σ).set k (ad k, .inr (ci, (jfs ad σ k fs).set j (.int v))) = jwd ad cid (jset σ k j v) := by
  refine jwd_upd hk ?_ (fun i hi => jcell_same (jset_ne hi) rfl)
  rw [hL, jcell_o]
  congr 2
  apply List.ext_getElem?
  intro i
  have hl : j < (jfs ad σ k fs).length := by
    have := (List.getElem?_eq_some_iff.mp hj).1
    simpa [jfs] using this
  by_cases hi : i = j
  · subst hi
    rw [List.getElem?_set_self hl]
    simp [jfs, List.getElem?_mapIdx, hj, jfv, jset]
  · rw [List.getElem?_set_ne (Ne.symm hi)]
    simp only [jfs, List.getElem?_mapIdx]
    cases hf : fs[i]? with
    | none => rfl
    | some f => cases f <;> simp [jfv, jset, hi]
theorem jwd_ast {ad : Nat → Nat} {cid : Nat → ClassId} {σ : jMem} {k n j : Nat} {fs : List (Option Nat)} {v : Int32} (hk : k < jN) (hL : jL k = (1, n, fs)) : (jwd ad cid σ).set k (ad k, .inl (cid 1, n, .inl (upd (σ.1 k) j v))) = jwd ad cid (jset σ k j v) := by
  refine jwd_upd hk ?_ (fun i hi => jcell_same (jset_ne hi) rfl)
  rw [hL, jcell_i, jset_eq]
theorem jwd_zst {ad : Nat → Nat} {cid : Nat → ClassId} {σ : jMem} {k n j : Nat} {fs : List (Option Nat)} {v : Int32} (hk : k < jN) (hL : jL k = (2, n, fs)) : (jwd ad cid σ).set k (ad k, .inl (cid 2, n, .inl (upd (σ.1 k) j v))) = jwd ad cid (jset σ k j v) := by
  refine jwd_upd hk ?_ (fun i hi => jcell_same (jset_ne hi) rfl)
  rw [hL, jcell_z, jset_eq]
theorem jwd_lst {ad : Nat → Nat} {cid : Nat → ClassId} {σ : jMem} {k n j : Nat} {fs : List (Option Nat)} {v : Int64} (hk : k < jN) (hL : jL k = (3, n, fs)) : (jwd ad cid σ).set k (ad k, .inl (cid 3, n, .inr (.inl (vp_updL (σ.2 k) j v)))) = jwd ad cid (jsetL σ k j v) := by
  refine jwd_upd hk ?_ (fun i hi => jcell_same rfl (jsetL_ne hi))
  rw [hL, jcell_l, jsetL_eq]
theorem jwd_cpy {ad : Nat → Nat} {cid : Nat → ClassId} {σ : jMem} {a b n m sp dp : Nat} {fs : List (Option Nat)} (hk : b < jN) (hL : jL b = (1, n, fs)) : (jwd ad cid σ).set b (ad b, .inl (cid 1, n, .inl (va_cpy (σ.1 a) (σ.1 b) sp dp m))) = jwd ad cid (jcpy σ a sp b dp m) := by
  refine jwd_upd hk ?_ (fun i hi => jcell_same (by funext y; simp [jcpy, hi]) rfl)
  rw [hL, jcell_i]
  congr 4
  funext y
  simp [jcpy, va_cpy]
end JDefs
end
section
/-! ===== the judgement J: from pc, with these locals, this stack and this memory, the machine comes to its end ===== -/
def TT : List Cond := lw_tbl.filter goodWord
theorem tt_good : GoodIn TT TT := fun w h => ⟨h, good_of_word (List.mem_filter.mp h).2⟩
theorem tt_cons {l : List Cond} (h : ∀ w ∈ l, w ∈ TT) {c : Cond} (hc : c ∈ TT) : GoodIn TT (l ++ c :: TT) := by
  intro w hw
  have hm : w ∈ TT := by
    rcases List.mem_append.mp hw with q | q
    · exact h w q
    · rcases List.mem_cons.mp q with q | q
      · rw [q]; exact hc
      · exact q
  exact tt_good w hm
theorem tt_tb {w : Cond} (i : Nat) (h : tables_1[i]? = some w) (hg : goodWord w = true) : w ∈ TT := List.mem_filter.mpr ⟨List.mem_append_right _ (List.mem_of_getElem? h), hg⟩
theorem tt_sel {q : MethodName × Nat} (i : Nat) (h : lw_privs[i]? = some q) : Cond.selects q.1.cls q.1 q.1 ∈ TT := List.mem_filter.mpr ⟨List.mem_append_left _ (List.mem_map.mpr ⟨q, List.mem_of_getElem? h, rfl⟩), rfl⟩
/-- what the tables say that isn't kept in every word list: calls of a nest mate's private methods, casts -/
def jNest : List (String × Nat × MethodName × String) := [("CoffinWays", 29, ⟨"CoffinWays$Witness", "<init>", "()V"⟩, "CoffinWays"), ("CoffinWays", 32, ⟨"CoffinWays$Neighbour", "<init>", "()V"⟩, "CoffinWays"), ("CoffinWays$Neighbour", 1, ⟨"CoffinWays$Witness", "<init>", "()V"⟩, "CoffinWays"), ("CoffinWays", 35, ⟨"CoffinWays$Child", "<init>", "()V"⟩, "CoffinWays"), ("CoffinWays$Child", 1, ⟨"CoffinWays$Neighbour", "<init>", "()V"⟩, "CoffinWays"), ("CoffinWays", 38, ⟨"CoffinWays$Farmer", "<init>", "()V"⟩, "CoffinWays"), ("CoffinWays$Farmer", 1, ⟨"CoffinWays$Neighbour", "<init>", "()V"⟩, "CoffinWays"), ("CoffinWays", 41, ⟨"CoffinWays$Stranger", "<init>", "()V"⟩, "CoffinWays"), ("CoffinWays$Stranger", 1, ⟨"CoffinWays$Witness", "<init>", "()V"⟩, "CoffinWays"), ("CoffinWays", 44, ⟨"CoffinWays$Smith", "<init>", "()V"⟩, "CoffinWays"), ("CoffinWays$Smith", 1, ⟨"CoffinWays$Stranger", "<init>", "()V"⟩, "CoffinWays"), ("CoffinWays$Coffin", 68, ⟨"CoffinWays", "bitOf", "(II)I"⟩, "CoffinWays"), ("CoffinWays$Parish", 86, ⟨"CoffinWays", "bitOf", "(II)I"⟩, "CoffinWays")]
def jCast : List (String × String) := [("CoffinWays$Child", "CoffinWays$Neighbour"), ("CoffinWays$Farmer", "CoffinWays$Neighbour"), ("CoffinWays$Smith", "CoffinWays$Stranger")]
def jNoCast : List (String × String) := [("CoffinWays$Witness", "CoffinWays$Neighbour"), ("CoffinWays$Stranger", "CoffinWays$Neighbour"), ("CoffinWays$Smith", "CoffinWays$Neighbour"), ("CoffinWays$Witness", "CoffinWays$Child"), ("CoffinWays$Neighbour", "CoffinWays$Child"), ("CoffinWays$Farmer", "CoffinWays$Child"), ("CoffinWays$Stranger", "CoffinWays$Child"), ("CoffinWays$Smith", "CoffinWays$Child"), ("CoffinWays$Witness", "CoffinWays$Farmer"), ("CoffinWays$Neighbour", "CoffinWays$Farmer"), ("CoffinWays$Child", "CoffinWays$Farmer"), ("CoffinWays$Stranger", "CoffinWays$Farmer"), ("CoffinWays$Smith", "CoffinWays$Farmer"), ("CoffinWays$Witness", "CoffinWays$Stranger"), ("CoffinWays$Neighbour", "CoffinWays$Stranger"), ("CoffinWays$Child", "CoffinWays$Stranger"), ("CoffinWays$Farmer", "CoffinWays$Stranger"), ("CoffinWays$Witness", "CoffinWays$Smith"), ("CoffinWays$Neighbour", "CoffinWays$Smith"), ("CoffinWays$Child", "CoffinWays$Smith"), ("CoffinWays$Farmer", "CoffinWays$Smith"), ("CoffinWays$Stranger", "CoffinWays$Smith")]
def jZ (U : State) : Prop := (∀ q ∈ jNest, va_Nw (.methodLinkNest q.1 q.2.1 q.2.2.1 q.2.2.2) U) ∧ (∀ q ∈ jCast, va_Nw (.castable q.1 q.2) U) ∧ (∀ q ∈ jNoCast, va_Nc q.1 q.2 U)
theorem jZ.warm {s U : State} (hW : s.WarmedH U.vm) (h : jZ s) : jZ U := ⟨fun q hq => va_Nw.warmM hW (h.1 q hq), fun q hq => va_Nw.warmC hW (h.2.1 q hq), fun q hq => va_Nc.moved hW.alike (h.2.2 q hq)⟩
theorem jZ.same {s U : State} (h9 : s.vm = U.vm) (h : jZ s) : jZ U := ⟨fun q hq => va_Nw.same rfl h9 (h.1 q hq), fun q hq => va_Nw.same rfl h9 (h.2.1 q hq), fun q hq => va_Nc.moved (by rw [h9]; exact Vm.Alike.refl _) (h.2.2 q hq)⟩
abbrev jK : Type := Program × Launch × Env × Room × State × MethodId × Array Value × List Frame × Method × Code × va_G × (Nat → Nat) × (Nat → ClassId) × Heap × (Nat → Prop) × Nat × Nat × (State → Prop)
abbrev kp (K : jK) : Program := K.1
abbrev kl (K : jK) : Launch := K.2.1
abbrev ke (K : jK) : Env := K.2.2.1
abbrev kR (K : jK) : Room := K.2.2.2.1
abbrev ks (K : jK) : State := K.2.2.2.2.1
abbrev km (K : jK) : MethodId := K.2.2.2.2.2.1
abbrev kar (K : jK) : Array Value := K.2.2.2.2.2.2.1
abbrev kbe (K : jK) : List Frame := K.2.2.2.2.2.2.2.1
abbrev kme (K : jK) : Method := K.2.2.2.2.2.2.2.2.1
abbrev kco (K : jK) : Code := K.2.2.2.2.2.2.2.2.2.1
abbrev kD (K : jK) : va_G := K.2.2.2.2.2.2.2.2.2.2.1
abbrev ka (K : jK) : Nat → Nat := K.2.2.2.2.2.2.2.2.2.2.2.1
abbrev kc (K : jK) : Nat → ClassId := K.2.2.2.2.2.2.2.2.2.2.2.2.1
abbrev kH (K : jK) : Heap := K.2.2.2.2.2.2.2.2.2.2.2.2.2.1
abbrev kA (K : jK) : Nat → Prop := K.2.2.2.2.2.2.2.2.2.2.2.2.2.2.1
abbrev kce (K : jK) : Nat := K.2.2.2.2.2.2.2.2.2.2.2.2.2.2.2.1
abbrev ksl (K : jK) : Nat := K.2.2.2.2.2.2.2.2.2.2.2.2.2.2.2.2.1
abbrev kQ (K : jK) : State → Prop := K.2.2.2.2.2.2.2.2.2.2.2.2.2.2.2.2.2
abbrev jW (K : jK) (H : Heap) (locs : List Loc) (g : JFrame) : Prop := W (kp K) (kl K) (ke K) (kR K) (ks K) (km K) (kar K) (kbe K) (kme K) (kco K) H locs (kce K) (ksl K) (kQ K) g
def jLv (ad : Nat → Nat) (sl : Array Slot) (ls : List (Option Value)) : Prop := sl.size = ls.length ∧ lv_wf sl ∧ ∀ (i : Nat) (v : Value), ls[i]? = some (some v) → sl[i]? = some (.val (jcv ad v))
def J (K : jK) (pc : Nat) (ls : List (Option Value)) (st : List Value) (σ : jMem) : Prop :=
  ∀ (H : Heap) (locs : List Loc) (sl : Array Slot), va_P (kD K) vwCl (jwd (ka K) (kc K) σ) H → va_S (kA K) (kH K) H locs → jLv (ka K) sl ls → jW K H locs (F0 (km K) pc sl (st.map (jcv (ka K))))
/-- what stands while a method runs -/
def JX (K : jK) (cc : ByteArray) (nL : Nat) (own : String) (fr lo : Nat) : Prop :=
  (kp K).tables.exec = Jvm.exec ∧ (kco K).code = cc ∧ (kco K).maxLocals = nL ∧ (ks K).vm.findClass own = some (km K).cls ∧ (∀ w ∈ TT, w.before (kar K) (ks K) = true) ∧ va_K (kD K) vwCl (jtys (kc K)) (ks K) ∧ jI (ka K) ∧ (∀ k, k < jN → kA K (ka K k)) ∧ (fr ≤ (kR K).frames ∧ lo ≤ (kR K).locals ∧ kce K ≤ (kR K).cells ∧ ksl K ≤ (kR K).slots) ∧ jZ (ks K)
/-- how a method's own end looks: what it answers, the memory then -/
def jQc (D : va_G) (ad : Nat → Nat) (cid : Nat → ClassId) (r : Option Value) (σ : jMem) : Array Value → State → Outcome → State → Prop := fun _ st o t => o = .returned r ∧ va_P D vwCl (jwd ad cid σ) t.heap ∧ va_F (jA ad) st t
def JR (K : jK) (ret : Option FieldType) (r : Option Value) (σ : jMem) : Prop :=
  kQ K = MQ (kbe K) (jQc (kD K) (ka K) (kc K) r σ) (kar K) (ks K) (kce K) (ksl K) (jA (ka K)) ∧ kA K = jA (ka K) ∧ kH K = (ks K).heap ∧ (kme K).sig.returnType = ret ∧ (kme K).locks = false
/-- steps of a walk, as the functions have them -/
def jck {α : Type} (c : Prop) [Decidable c] (x : Option α) : Option α := if c then x else none
def jlet {α β : Type} (e : β) (f : β → Option α) : Option α := f e
def jin (i : Int32) (n : Nat) : Bool := decide (¬ (i < 0 ∨ n ≤ i.toNatClampNeg))
def jld {α : Type} (σ : jMem) (k n : Nat) (i : Int32) (f : Int32 → Option α) : Option α := if jin i n = true then f (σ.1 k i.toNatClampNeg) else none
def jldL {α : Type} (σ : jMem) (k n : Nat) (i : Int32) (f : Int64 → Option α) : Option α := if jin i n = true then f (σ.2 k i.toNatClampNeg) else none
def jst {α : Type} (σ : jMem) (k n : Nat) (i v : Int32) (f : jMem → Option α) : Option α := if jin i n = true then f (jset σ k i.toNatClampNeg v) else none
def jstL {α : Type} (σ : jMem) (k n : Nat) (i : Int32) (v : Int64) (f : jMem → Option α) : Option α := if jin i n = true then f (jsetL σ k i.toNatClampNeg v) else none
def jldr {α : Type} (n t : Nat) (i : Int32) (f : Nat → Option α) : Option α := if jin i n = true then f (t + i.toNatClampNeg) else none
def jcp {α : Type} (σ : jMem) (a na : Nat) (sp : Int32) (b nb : Nat) (dp n : Int32) (f : jMem → Option α) : Option α := if ¬ sp < 0 ∧ ¬ dp < 0 ∧ ¬ n < 0 ∧ sp.toNatClampNeg + n.toNatClampNeg ≤ na ∧ dp.toNatClampNeg + n.toNatClampNeg ≤ nb then f (jcpy σ a sp.toNatClampNeg b dp.toNatClampNeg n.toNatClampNeg) else none
def jbd {α β : Type} (x : Option (β × jMem)) (f : β → jMem → Option α) : Option α := match x with
  | none => none
  | some q => f q.1 q.2
def jbv {α : Type} (x : Option jMem) (f : jMem → Option α) : Option α := match x with
  | none => none
  | some q => f q
def jisb (v : Int32) : Bool := v == 0 || v == 1
theorem jin_spec {i : Int32} {n : Nat} (h : jin i n = true) : vp_in i n := by simpa [jin, vp_in] using h
theorem jld_some {α : Type} {σ : jMem} {k n : Nat} {i : Int32} {f : Int32 → Option α} {r : α} (h : jld σ k n i f = some r) : jin i n = true ∧ f (σ.1 k i.toNatClampNeg) = some r := by
  unfold jld at h
  by_cases c : jin i n = true
  · rw [if_pos c] at h; exact ⟨c, h⟩
  · rw [if_neg c] at h; cases h
theorem jldL_some {α : Type} {σ : jMem} {k n : Nat} {i : Int32} {f : Int64 → Option α} {r : α} (h : jldL σ k n i f = some r) : jin i n = true ∧ f (σ.2 k i.toNatClampNeg) = some r := by
  unfold jldL at h
  by_cases c : jin i n = true
  · rw [if_pos c] at h; exact ⟨c, h⟩
  · rw [if_neg c] at h; cases h
theorem jst_some {α : Type} {σ : jMem} {k n : Nat} {i v : Int32} {f : jMem → Option α} {r : α} (h : jst σ k n i v f = some r) : jin i n = true ∧ f (jset σ k i.toNatClampNeg v) = some r := by
  unfold jst at h
  by_cases c : jin i n = true
  · rw [if_pos c] at h; exact ⟨c, h⟩
  · rw [if_neg c] at h; cases h
theorem jstL_some {α : Type} {σ : jMem} {k n : Nat} {i : Int32} {v : Int64} {f : jMem → Option α} {r : α} (h : jstL σ k n i v f = some r) : jin i n = true ∧ f (jsetL σ k i.toNatClampNeg v) = some r := by
  unfold jstL at h
  by_cases c : jin i n = true
  · rw [if_pos c] at h; exact ⟨c, h⟩
  · rw [if_neg c] at h; cases h
theorem jldr_some {α : Type} {n t : Nat} {i : Int32} {f : Nat → Option α} {r : α} (h : jldr n t i f = some r) : jin i n = true ∧ f (t + i.toNatClampNeg) = some r := by
  unfold jldr at h
  by_cases c : jin i n = true
  · rw [if_pos c] at h; exact ⟨c, h⟩
  · rw [if_neg c] at h; cases h
theorem jck_some {α : Type} {c : Prop} {d : Decidable c} {x : Option α} {r : α} (h : @jck α c d x = some r) : c ∧ x = some r := by
  unfold jck at h
  by_cases q : c
  · rw [if_pos q] at h; exact ⟨q, h⟩
  · rw [if_neg q] at h; cases h
theorem jbd_some {α β : Type} {x : Option (β × jMem)} {f : β → jMem → Option α} {r : α} (h : jbd x f = some r) : ∃ v σ', x = some (v, σ') ∧ f v σ' = some r := by
  cases x with
  | none => cases h
  | some q => exact ⟨q.1, q.2, rfl, h⟩
theorem jbv_some {α : Type} {x : Option jMem} {f : jMem → Option α} {r : α} (h : jbv x f = some r) : ∃ σ', x = some σ' ∧ f σ' = some r := by
  cases x with
  | none => cases h
  | some q => exact ⟨q, rfl, h⟩
/-- a store into the locals -/
def jst1 (ls : List (Option Value)) (i : Nat) (v : Value) : List (Option Value) := ls.mapIdx (fun j x => if j = i then some v else if j + 1 = i then (match x with | some (.long _) => none | some (.double _) => none | y => y) else x)
def jst2 (ls : List (Option Value)) (i : Nat) (v : Value) : List (Option Value) := ls.mapIdx (fun j x => if j = i then some v else if j = i + 1 then none else if j + 1 = i then (match x with | some (.long _) => none | some (.double _) => none | y => y) else x)
def jle : List (Option Value) → List (Option Value) → Prop
  | [], [] => True
  | a :: l, b :: m => (a = none ∨ a = b) ∧ jle l m
  | _, _ => False
theorem jle_spec : ∀ {l m : List (Option Value)}, jle l m → l.length = m.length ∧ ∀ (i : Nat) (v : Value), l[i]? = some (some v) → m[i]? = some (some v)
  | [], [], _ => ⟨rfl, fun i v h => by simp at h⟩
  | a :: l, b :: m, h => by
    obtain ⟨h1, h2⟩ := h
    obtain ⟨e, f⟩ := jle_spec h2
    refine ⟨by simp [e], fun i v hi => ?_⟩
    cases i with
    | zero =>
      simp at hi
      rcases h1 with q | q
      · rw [q] at hi; cases hi
      · rw [← q, hi]; rfl
    | succ i => simpa using f i v (by simpa using hi)
  | [], _ :: _, h => h.elim
  | _ :: _, [], h => h.elim
theorem jcat (ad : Nat → Nat) (v : Value) : (jcv ad v).category = v.category := by cases v <;> rfl
theorem jassoc {ad : Nat → Nat} {sl : Array Slot} {ls : List (Option Value)} (h : jLv ad sl ls) : lv_has sl ls.length (ls.zipIdx.filterMap (fun q => q.1.map (fun v => (q.2, jcv ad v)))) := by
  refine ⟨h.1, h.2.1, fun q hq => ?_⟩
  obtain ⟨⟨x, i⟩, h1, h2⟩ := List.mem_filterMap.mp hq
  cases x with
  | none => cases h2
  | some v =>
    cases h2
    have h3 := List.mem_zipIdx_iff_getElem?.mp h1
    exact h.2.2 i v (by simpa using h3)
theorem jassoc_back {ad : Nat → Nat} {sl : Array Slot} {ls : List (Option Value)} {l : List (Nat × Value)} {n : Nat} (h : lv_has sl n l) (hn : n = ls.length) (hl : ∀ (i : Nat) (v : Value), ls[i]? = some (some v) → (i, jcv ad v) ∈ l) : jLv ad sl ls :=
  ⟨by rw [← hn]; exact h.1, h.2.1, fun i v hi => h.2.2 (i, jcv ad v) (hl i v hi)⟩
theorem jmem_assoc {ad : Nat → Nat} {ls : List (Option Value)} {i : Nat} {v : Value} (h : ls[i]? = some (some v)) : (i, jcv ad v) ∈ ls.zipIdx.filterMap (fun q => q.1.map (fun v => (q.2, jcv ad v))) :=
  List.mem_filterMap.mpr ⟨(some v, i), List.mem_zipIdx_iff_getElem?.mpr (by simpa using h), rfl⟩
theorem jst1_len {ls : List (Option Value)} {i : Nat} {v : Value} : (jst1 ls i v).length = ls.length := by simp [jst1]
theorem jst2_len {ls : List (Option Value)} {i : Nat} {v : Value} : (jst2 ls i v).length = ls.length := by simp [jst2]
theorem jst1_ok {ad : Nat → Nat} {sl sl' : Array Slot} {ls : List (Option Value)} {i : Nat} {v : Value} (h : lv_has sl' ls.length ((i, jcv ad v) :: (ls.zipIdx.filterMap (fun q => q.1.map (fun v => (q.2, jcv ad v)))).filter (fun q => !(q.1 == i) && !(q.1 + 1 == i && q.2.category == 2)))) : jLv ad sl' (jst1 ls i v) := by
  refine jassoc_back h jst1_len.symm (fun j w hj => ?_)
  simp only [jst1, List.getElem?_mapIdx, Option.map_eq_some_iff] at hj
  obtain ⟨x, hx, hj⟩ := hj
  by_cases e : j = i
  · rw [if_pos e] at hj
    cases hj
    rw [e]
    exact List.mem_cons_self
  · rw [if_neg e] at hj
    refine List.mem_cons_of_mem _ (List.mem_filter.mpr ?_)
    by_cases e2 : j + 1 = i
    · rw [if_pos e2] at hj
      have hxw : x = some w ∧ w.category ≠ 2 := by
        cases x with
        | none => simp at hj
        | some y => cases y <;> simp at hj <;> (subst hj; exact ⟨rfl, by simp [Value.category]⟩)
      rw [hxw.1] at hx
      exact ⟨jmem_assoc hx, by simp [e, jcat, hxw.2]⟩
    · rw [if_neg e2] at hj
      rw [hj] at hx
      exact ⟨jmem_assoc hx, by simp [e, e2]⟩
theorem jst2_ok {ad : Nat → Nat} {sl sl' : Array Slot} {ls : List (Option Value)} {i : Nat} {v : Value} (h : lv_has sl' ls.length ((i, jcv ad v) :: (ls.zipIdx.filterMap (fun q => q.1.map (fun v => (q.2, jcv ad v)))).filter (fun q => !(q.1 == i) && (!(q.1 == i + 1) && !(q.1 + 1 == i && q.2.category == 2))))) : jLv ad sl' (jst2 ls i v) := by
  refine jassoc_back h jst2_len.symm (fun j w hj => ?_)
  simp only [jst2, List.getElem?_mapIdx, Option.map_eq_some_iff] at hj
  obtain ⟨x, hx, hj⟩ := hj
  by_cases e : j = i
  · rw [if_pos e] at hj
    cases hj
    rw [e]
    exact List.mem_cons_self
  · rw [if_neg e] at hj
    refine List.mem_cons_of_mem _ (List.mem_filter.mpr ?_)
    by_cases e3 : j = i + 1
    · rw [if_pos e3] at hj; cases hj
    · rw [if_neg e3] at hj
      by_cases e2 : j + 1 = i
      · rw [if_pos e2] at hj
        have hxw : x = some w ∧ w.category ≠ 2 := by
          cases x with
          | none => simp at hj
          | some y => cases y <;> simp at hj <;> (subst hj; exact ⟨rfl, by simp [Value.category]⟩)
        rw [hxw.1] at hx
        exact ⟨jmem_assoc hx, by simp [e, e3, jcat, hxw.2]⟩
      · rw [if_neg e2] at hj
        rw [hj] at hx
        exact ⟨jmem_assoc hx, by simp [e, e2, e3]⟩
section JRows
variable {K : jK} {cc : ByteArray} {nL : Nat} {own : String} {fr lo pc : Nat} {ls ls' : List (Option Value)} {st : List Value} {σ : jMem}
theorem j_sub (h : jle ls' ls) (k : J K pc ls' st σ) : J K pc ls st σ := fun H locs sl hP hS hL => k H locs sl hP hS ⟨by rw [(jle_spec h).1]; exact hL.1, hL.2.1, fun i v hi => hL.2.2 i v ((jle_spec h).2 i v hi)⟩
theorem j_iconst (X : JX K cc nL own fr lo) {n : Int} {v : Int32} (hd : decode cc pc = .ok (.iconst n, 1)) (hv : Int32.ofInt n = v) (k : J K (pc + 1) ls (.int v :: st) σ) : J K pc ls st σ := fun H locs sl hP hS hL => lv_iconst X.1 X.2.1 hd hv (k H locs sl hP hS hL)
theorem j_bipush (X : JX K cc nL own fr lo) {n : Int} {v : Int32} (hd : decode cc pc = .ok (.bipush n, 2)) (hv : (Int8.ofInt n).toInt32 = v) (k : J K (pc + 2) ls (.int v :: st) σ) : J K pc ls st σ := fun H locs sl hP hS hL => lv_bipush X.1 X.2.1 hd hv (k H locs sl hP hS hL)
theorem j_sipush (X : JX K cc nL own fr lo) {n : Int} {v : Int32} (hd : decode cc pc = .ok (.sipush n, 3)) (hv : (Int16.ofInt n).toInt32 = v) (k : J K (pc + 3) ls (.int v :: st) σ) : J K pc ls st σ := fun H locs sl hP hS hL => lv_sipush X.1 X.2.1 hd hv (k H locs sl hP hS hL)
theorem j_lconst (X : JX K cc nL own fr lo) {n : Fin 2} {v : Int64} (hd : decode cc pc = .ok (.lconst n, 1)) (hv : Int64.ofNat (n : Nat) = v) (k : J K (pc + 1) ls (.long v :: st) σ) : J K pc ls st σ := fun H locs sl hP hS hL => lv_lconst X.1 X.2.1 hd hv (k H locs sl hP hS hL)
theorem j_ldc (X : JX K cc nL own fr lo) {i : Nat} {v : Int32} (hc : Cond.constant own i v ∈ TT) (hd : decode cc pc = .ok (.ldc i, 2)) (k : J K (pc + 2) ls (.int v :: st) σ) : J K pc ls st σ := fun H locs sl hP hS hL => lv_ldc X.1 X.2.1 X.2.2.2.1 (X.2.2.2.2.1 _ hc) hd (k H locs sl hP hS hL)
theorem j_ldc_w (X : JX K cc nL own fr lo) {i : Nat} {v : Int32} (hc : Cond.constant own i v ∈ TT) (hd : decode cc pc = .ok (.ldc_w i, 3)) (k : J K (pc + 3) ls (.int v :: st) σ) : J K pc ls st σ := fun H locs sl hP hS hL => lv_ldcw X.1 X.2.1 X.2.2.2.1 (X.2.2.2.2.1 _ hc) hd (k H locs sl hP hS hL)
theorem j_ldc2_w (X : JX K cc nL own fr lo) {i : Nat} {v : Int64} (hc : Cond.constantLong own i v ∈ TT) (hd : decode cc pc = .ok (.ldc2_w i, 3)) (k : J K (pc + 3) ls (.long v :: st) σ) : J K pc ls st σ := fun H locs sl hP hS hL => lv_ldc2 X.1 X.2.1 X.2.2.2.1 (X.2.2.2.2.1 _ hc) hd (k H locs sl hP hS hL)
theorem j_iload_n (X : JX K cc nL own fr lo) {q : Fin 4} (i : Nat) {x : Int32} (hd : decode cc pc = .ok (.iload_n q, 1)) (hi : (q : Nat) = i) (hl : ls[i]? = some (some (.int x))) (k : J K (pc + 1) ls (.int x :: st) σ) : J K pc ls st σ := fun H locs sl hP hS hL => lv_iload_n X.1 X.2.1 hd hi (hL.2.2 i _ hl) (k H locs sl hP hS hL)
theorem j_iload (X : JX K cc nL own fr lo) {i : Nat} {x : Int32} (hd : decode cc pc = .ok (.iload i, 2)) (hl : ls[i]? = some (some (.int x))) (k : J K (pc + 2) ls (.int x :: st) σ) : J K pc ls st σ := fun H locs sl hP hS hL => lv_iload X.1 X.2.1 hd (hL.2.2 i _ hl) (k H locs sl hP hS hL)
theorem j_lload_n (X : JX K cc nL own fr lo) {q : Fin 4} (i : Nat) {x : Int64} (hd : decode cc pc = .ok (.lload_n q, 1)) (hi : (q : Nat) = i) (hl : ls[i]? = some (some (.long x))) (k : J K (pc + 1) ls (.long x :: st) σ) : J K pc ls st σ := fun H locs sl hP hS hL => lv_lload_n X.1 X.2.1 hd hi (hL.2.2 i _ hl) (k H locs sl hP hS hL)
theorem j_lload (X : JX K cc nL own fr lo) {i : Nat} {x : Int64} (hd : decode cc pc = .ok (.lload i, 2)) (hl : ls[i]? = some (some (.long x))) (k : J K (pc + 2) ls (.long x :: st) σ) : J K pc ls st σ := fun H locs sl hP hS hL => lv_lload X.1 X.2.1 hd (hL.2.2 i _ hl) (k H locs sl hP hS hL)
theorem j_aload_n (X : JX K cc nL own fr lo) {q : Fin 4} (i : Nat) {x : Nat} (hd : decode cc pc = .ok (.aload_n q, 1)) (hi : (q : Nat) = i) (hl : ls[i]? = some (some (.ref x))) (k : J K (pc + 1) ls (.ref x :: st) σ) : J K pc ls st σ := fun H locs sl hP hS hL => lv_aload_n X.1 X.2.1 hd hi (hL.2.2 i _ hl) (k H locs sl hP hS hL)
theorem j_aload (X : JX K cc nL own fr lo) {i : Nat} {x : Nat} (hd : decode cc pc = .ok (.aload i, 2)) (hl : ls[i]? = some (some (.ref x))) (k : J K (pc + 2) ls (.ref x :: st) σ) : J K pc ls st σ := fun H locs sl hP hS hL => lv_aload X.1 X.2.1 hd (hL.2.2 i _ hl) (k H locs sl hP hS hL)
theorem j_istore_n (X : JX K cc nL own fr lo) {q : Fin 4} (i : Nat) {x : Int32} (hd : decode cc pc = .ok (.istore_n q, 1)) (hi : (q : Nat) = i) (hn : i < ls.length) (hl : jst1 ls i (.int x) = ls') (k : J K (pc + 1) ls' st σ) : J K pc ls (.int x :: st) σ := fun H locs sl hP hS hL => lv_istore_n X.1 X.2.1 hd hi (jassoc hL) hn rfl (fun sl1 h1 => k H locs sl1 hP hS (by rw [← hl]; exact jst1_ok (sl := sl) (v := .int x) h1))
theorem j_istore (X : JX K cc nL own fr lo) {i : Nat} {x : Int32} (hd : decode cc pc = .ok (.istore i, 2)) (hn : i < ls.length) (hl : jst1 ls i (.int x) = ls') (k : J K (pc + 2) ls' st σ) : J K pc ls (.int x :: st) σ := fun H locs sl hP hS hL => lv_istore X.1 X.2.1 hd (jassoc hL) hn rfl (fun sl1 h1 => k H locs sl1 hP hS (by rw [← hl]; exact jst1_ok (sl := sl) (v := .int x) h1))
theorem j_lstore_n (X : JX K cc nL own fr lo) {q : Fin 4} (i : Nat) {x : Int64} (hd : decode cc pc = .ok (.lstore_n q, 1)) (hi : (q : Nat) = i) (hn : i + 1 < ls.length) (hl : jst2 ls i (.long x) = ls') (k : J K (pc + 1) ls' st σ) : J K pc ls (.long x :: st) σ := fun H locs sl hP hS hL => lv_lstore_n X.1 X.2.1 hd hi (jassoc hL) hn rfl (fun sl1 h1 => k H locs sl1 hP hS (by rw [← hl]; exact jst2_ok (sl := sl) (v := .long x) h1))
theorem j_lstore (X : JX K cc nL own fr lo) {i : Nat} {x : Int64} (hd : decode cc pc = .ok (.lstore i, 2)) (hn : i + 1 < ls.length) (hl : jst2 ls i (.long x) = ls') (k : J K (pc + 2) ls' st σ) : J K pc ls (.long x :: st) σ := fun H locs sl hP hS hL => lv_lstore X.1 X.2.1 hd (jassoc hL) hn rfl (fun sl1 h1 => k H locs sl1 hP hS (by rw [← hl]; exact jst2_ok (sl := sl) (v := .long x) h1))
theorem j_astore_n (X : JX K cc nL own fr lo) {q : Fin 4} (i : Nat) {x : Nat} (hd : decode cc pc = .ok (.astore_n q, 1)) (hi : (q : Nat) = i) (hn : i < ls.length) (hl : jst1 ls i (.ref x) = ls') (k : J K (pc + 1) ls' st σ) : J K pc ls (.ref x :: st) σ := fun H locs sl hP hS hL => lv_astore_n X.1 X.2.1 hd hi (jassoc hL) hn rfl (fun sl1 h1 => k H locs sl1 hP hS (by rw [← hl]; exact jst1_ok (sl := sl) (v := .ref x) h1))
theorem j_astore (X : JX K cc nL own fr lo) {i : Nat} {x : Nat} (hd : decode cc pc = .ok (.astore i, 2)) (hn : i < ls.length) (hl : jst1 ls i (.ref x) = ls') (k : J K (pc + 2) ls' st σ) : J K pc ls (.ref x :: st) σ := fun H locs sl hP hS hL => lv_astore X.1 X.2.1 hd (jassoc hL) hn rfl (fun sl1 h1 => k H locs sl1 hP hS (by rw [← hl]; exact jst1_ok (sl := sl) (v := .ref x) h1))
theorem j_iinc (X : JX K cc nL own fr lo) {i : Nat} {n : Int} {x v : Int32} (hd : decode cc pc = .ok (.iinc i n, 3)) (hx : ls[i]? = some (some (.int x))) (hv : x + Int32.ofInt n = v) (hn : i < ls.length) (hl : jst1 ls i (.int v) = ls') (k : J K (pc + 3) ls' st σ) : J K pc ls st σ := fun H locs sl hP hS hL => by
  obtain ⟨q, hq⟩ := List.getElem?_of_mem (jmem_assoc (ad := ka K) hx)
  exact lv_iinc X.1 X.2.1 hd (jassoc hL) (k := q) hq hv hn rfl (fun sl1 h1 => k H locs sl1 hP hS (by rw [← hl]; exact jst1_ok (sl := sl) (v := .int v) h1))
theorem j_iadd (X : JX K cc nL own fr lo) {x y : Int32} (hd : decode cc pc = .ok (.iadd, 1)) (k : J K (pc + 1) ls (.int (x + y) :: st) σ) : J K pc ls (.int y :: .int x :: st) σ := fun H locs sl hP hS hL => lv_iadd X.1 X.2.1 hd (k H locs sl hP hS hL)
theorem j_isub (X : JX K cc nL own fr lo) {x y : Int32} (hd : decode cc pc = .ok (.isub, 1)) (k : J K (pc + 1) ls (.int (x - y) :: st) σ) : J K pc ls (.int y :: .int x :: st) σ := fun H locs sl hP hS hL => lv_isub X.1 X.2.1 hd (k H locs sl hP hS hL)
theorem j_imul (X : JX K cc nL own fr lo) {x y : Int32} (hd : decode cc pc = .ok (.imul, 1)) (k : J K (pc + 1) ls (.int (x * y) :: st) σ) : J K pc ls (.int y :: .int x :: st) σ := fun H locs sl hP hS hL => lv_imul X.1 X.2.1 hd (k H locs sl hP hS hL)
theorem j_iand (X : JX K cc nL own fr lo) {x y : Int32} (hd : decode cc pc = .ok (.iand, 1)) (k : J K (pc + 1) ls (.int (x &&& y) :: st) σ) : J K pc ls (.int y :: .int x :: st) σ := fun H locs sl hP hS hL => lv_iand X.1 X.2.1 hd (k H locs sl hP hS hL)
theorem j_ior (X : JX K cc nL own fr lo) {x y : Int32} (hd : decode cc pc = .ok (.ior, 1)) (k : J K (pc + 1) ls (.int (x ||| y) :: st) σ) : J K pc ls (.int y :: .int x :: st) σ := fun H locs sl hP hS hL => lv_ior X.1 X.2.1 hd (k H locs sl hP hS hL)
theorem j_ixor (X : JX K cc nL own fr lo) {x y : Int32} (hd : decode cc pc = .ok (.ixor, 1)) (k : J K (pc + 1) ls (.int (x ^^^ y) :: st) σ) : J K pc ls (.int y :: .int x :: st) σ := fun H locs sl hP hS hL => lv_ixor X.1 X.2.1 hd (k H locs sl hP hS hL)
theorem j_ishl (X : JX K cc nL own fr lo) {x y : Int32} (hd : decode cc pc = .ok (.ishl, 1)) (k : J K (pc + 1) ls (.int (x <<< (y &&& 31)) :: st) σ) : J K pc ls (.int y :: .int x :: st) σ := fun H locs sl hP hS hL => lv_ishl X.1 X.2.1 hd (k H locs sl hP hS hL)
theorem j_ishr (X : JX K cc nL own fr lo) {x y : Int32} (hd : decode cc pc = .ok (.ishr, 1)) (k : J K (pc + 1) ls (.int (x >>> (y &&& 31)) :: st) σ) : J K pc ls (.int y :: .int x :: st) σ := fun H locs sl hP hS hL => lv_ishr X.1 X.2.1 hd (k H locs sl hP hS hL)
theorem j_iushr (X : JX K cc nL own fr lo) {x y : Int32} (hd : decode cc pc = .ok (.iushr, 1)) (k : J K (pc + 1) ls (.int ((x.toUInt32 >>> (y.toUInt32 &&& Int32.toUInt32 31)).toInt32) :: st) σ) : J K pc ls (.int y :: .int x :: st) σ := fun H locs sl hP hS hL => lv_iushr X.1 X.2.1 hd rfl (k H locs sl hP hS hL)
theorem j_irem (X : JX K cc nL own fr lo) {x y : Int32} (hd : decode cc pc = .ok (.irem, 1)) (hne : ¬ y = 0) (k : J K (pc + 1) ls (.int (x - x / y * y) :: st) σ) : J K pc ls (.int y :: .int x :: st) σ := fun H locs sl hP hS hL => lv_irem X.1 X.2.1 hd hne (k H locs sl hP hS hL)
theorem j_idiv (X : JX K cc nL own fr lo) {x y : Int32} (hd : decode cc pc = .ok (.idiv, 1)) (hne : ¬ y = 0) (k : J K (pc + 1) ls (.int (x / y) :: st) σ) : J K pc ls (.int y :: .int x :: st) σ := fun H locs sl hP hS hL => lv_idiv X.1 X.2.1 hd hne (k H locs sl hP hS hL)
theorem j_lrem (X : JX K cc nL own fr lo) {x y : Int64} (hd : decode cc pc = .ok (.lrem, 1)) (hne : ¬ y = 0) (k : J K (pc + 1) ls (.long (x - x / y * y) :: st) σ) : J K pc ls (.long y :: .long x :: st) σ := fun H locs sl hP hS hL => lv_lrem X.1 X.2.1 hd hne (k H locs sl hP hS hL)
theorem j_ldiv (X : JX K cc nL own fr lo) {x y : Int64} (hd : decode cc pc = .ok (.ldiv, 1)) (hne : ¬ y = 0) (k : J K (pc + 1) ls (.long (x / y) :: st) σ) : J K pc ls (.long y :: .long x :: st) σ := fun H locs sl hP hS hL => lv_ldiv X.1 X.2.1 hd hne (k H locs sl hP hS hL)
theorem j_ladd (X : JX K cc nL own fr lo) {x y : Int64} (hd : decode cc pc = .ok (.ladd, 1)) (k : J K (pc + 1) ls (.long (x + y) :: st) σ) : J K pc ls (.long y :: .long x :: st) σ := fun H locs sl hP hS hL => lv_ladd X.1 X.2.1 hd (k H locs sl hP hS hL)
theorem j_lsub (X : JX K cc nL own fr lo) {x y : Int64} (hd : decode cc pc = .ok (.lsub, 1)) (k : J K (pc + 1) ls (.long (x - y) :: st) σ) : J K pc ls (.long y :: .long x :: st) σ := fun H locs sl hP hS hL => lv_lsub X.1 X.2.1 hd (k H locs sl hP hS hL)
theorem j_lmul (X : JX K cc nL own fr lo) {x y : Int64} (hd : decode cc pc = .ok (.lmul, 1)) (k : J K (pc + 1) ls (.long (x * y) :: st) σ) : J K pc ls (.long y :: .long x :: st) σ := fun H locs sl hP hS hL => lv_lmul X.1 X.2.1 hd (k H locs sl hP hS hL)
theorem j_ineg (X : JX K cc nL own fr lo) {x : Int32} (hd : decode cc pc = .ok (.ineg, 1)) (k : J K (pc + 1) ls (.int (-x) :: st) σ) : J K pc ls (.int x :: st) σ := fun H locs sl hP hS hL => lv_ineg X.1 X.2.1 hd (k H locs sl hP hS hL)
theorem j_i2l (X : JX K cc nL own fr lo) {x : Int32} (hd : decode cc pc = .ok (.i2l, 1)) (k : J K (pc + 1) ls (.long (x.toInt64) :: st) σ) : J K pc ls (.int x :: st) σ := fun H locs sl hP hS hL => lv_i2l X.1 X.2.1 hd rfl (k H locs sl hP hS hL)
theorem j_l2i (X : JX K cc nL own fr lo) {x : Int64} (hd : decode cc pc = .ok (.l2i, 1)) (k : J K (pc + 1) ls (.int (x.toInt32) :: st) σ) : J K pc ls (.long x :: st) σ := fun H locs sl hP hS hL => lv_l2i X.1 X.2.1 hd rfl (k H locs sl hP hS hL)
theorem j_i2b (X : JX K cc nL own fr lo) {x : Int32} (hd : decode cc pc = .ok (.i2b, 1)) (k : J K (pc + 1) ls (.int (x.toInt8.toInt32) :: st) σ) : J K pc ls (.int x :: st) σ := fun H locs sl hP hS hL => lv_i2b X.1 X.2.1 hd rfl (k H locs sl hP hS hL)
theorem j_i2s (X : JX K cc nL own fr lo) {x : Int32} (hd : decode cc pc = .ok (.i2s, 1)) (k : J K (pc + 1) ls (.int (x.toInt16.toInt32) :: st) σ) : J K pc ls (.int x :: st) σ := fun H locs sl hP hS hL => lv_i2s X.1 X.2.1 hd rfl (k H locs sl hP hS hL)
theorem j_lcmp (X : JX K cc nL own fr lo) {x y : Int64} (hd : decode cc pc = .ok (.lcmp, 1)) (k : J K (pc + 1) ls (.int (lg_cmp x y) :: st) σ) : J K pc ls (.long y :: .long x :: st) σ := fun H locs sl hP hS hL => W.lcmp X.1 X.2.1 hd (k H locs sl hP hS hL)
theorem j_dup (X : JX K cc nL own fr lo) {a : Value} (hd : decode cc pc = .ok (.dup, 1)) (ha : a.category = 1) (k : J K (pc + 1) ls (a :: a :: st) σ) : J K pc ls (a :: st) σ := fun H locs sl hP hS hL => lv_dup X.1 X.2.1 hd (by rw [jcat]; exact ha) (k H locs sl hP hS hL)
theorem j_dup2 (X : JX K cc nL own fr lo) {a b : Value} (hd : decode cc pc = .ok (.dup2, 1)) (ha : a.category = 1) (hb : b.category = 1) (k : J K (pc + 1) ls (a :: b :: a :: b :: st) σ) : J K pc ls (a :: b :: st) σ := fun H locs sl hP hS hL => lv_dup2_11 X.1 X.2.1 hd (by rw [jcat]; exact ha) (by rw [jcat]; exact hb) (k H locs sl hP hS hL)
theorem j_pop (X : JX K cc nL own fr lo) {a : Value} (hd : decode cc pc = .ok (.pop, 1)) (ha : a.category = 1) (k : J K (pc + 1) ls st σ) : J K pc ls (a :: st) σ := fun H locs sl hP hS hL => lv_pop X.1 X.2.1 hd (by rw [jcat]; exact ha) (k H locs sl hP hS hL)
theorem j_goto (X : JX K cc nL own fr lo) {off : Int} {tgt : Nat} (hd : decode cc pc = .ok (.goto off, 3)) (ht : (pc : Int) + off = (tgt : Int)) (k : J K tgt ls st σ) : J K pc ls st σ := fun H locs sl hP hS hL => lv_goto X.1 X.2.1 hd ht (k H locs sl hP hS hL)
theorem j_letI {α : Type} {e : Int32} {f : Int32 → Option α} {r : α} (h : jlet e f = some r) (k : ∀ x, f x = some r → J K pc ls (.int x :: st) σ) : J K pc ls (.int e :: st) σ := k e h
theorem j_letL {α : Type} {e : Int64} {f : Int64 → Option α} {r : α} (h : jlet e f = some r) (k : ∀ x, f x = some r → J K pc ls (.long x :: st) σ) : J K pc ls (.long e :: st) σ := k e h
theorem j_if_eq {α : Type} (X : JX K cc nL own fr lo) {x : Int32} {off : Int} {tgt : Nat} {a b : Option α} {r : α} (hd : decode cc pc = .ok (.ifCond .eq off, 3)) (ht : (pc : Int) + off = (tgt : Int)) (h : (if x = 0 then a else b) = some r) (kt : a = some r → J K tgt ls st σ) (kf : b = some r → J K (pc + 3) ls st σ) : J K pc ls (.int x :: st) σ := fun H locs sl hP hS hL => lv_if_eq X.1 X.2.1 hd ht (fun q => kt (by rw [← h, if_pos q]) H locs sl hP hS hL) (fun q => kf (by rw [← h, if_neg q]) H locs sl hP hS hL)
theorem j_icmp_eq {α : Type} (X : JX K cc nL own fr lo) {x y : Int32} {off : Int} {tgt : Nat} {a b : Option α} {r : α} (hd : decode cc pc = .ok (.if_icmp .eq off, 3)) (ht : (pc : Int) + off = (tgt : Int)) (h : (if x = y then a else b) = some r) (kt : a = some r → J K tgt ls st σ) (kf : b = some r → J K (pc + 3) ls st σ) : J K pc ls (.int y :: .int x :: st) σ := fun H locs sl hP hS hL => lv_icmp_eq X.1 X.2.1 hd ht (fun q => kt (by rw [← h, if_pos q]) H locs sl hP hS hL) (fun q => kf (by rw [← h, if_neg q]) H locs sl hP hS hL)
theorem j_if_ne {α : Type} (X : JX K cc nL own fr lo) {x : Int32} {off : Int} {tgt : Nat} {a b : Option α} {r : α} (hd : decode cc pc = .ok (.ifCond .ne off, 3)) (ht : (pc : Int) + off = (tgt : Int)) (h : (if ¬ x = 0 then a else b) = some r) (kt : a = some r → J K tgt ls st σ) (kf : b = some r → J K (pc + 3) ls st σ) : J K pc ls (.int x :: st) σ := fun H locs sl hP hS hL => lv_if_ne X.1 X.2.1 hd ht (fun q => kt (by rw [← h, if_pos q]) H locs sl hP hS hL) (fun q => kf (by rw [← h, if_neg (fun z => z q)]) H locs sl hP hS hL)
theorem j_icmp_ne {α : Type} (X : JX K cc nL own fr lo) {x y : Int32} {off : Int} {tgt : Nat} {a b : Option α} {r : α} (hd : decode cc pc = .ok (.if_icmp .ne off, 3)) (ht : (pc : Int) + off = (tgt : Int)) (h : (if ¬ x = y then a else b) = some r) (kt : a = some r → J K tgt ls st σ) (kf : b = some r → J K (pc + 3) ls st σ) : J K pc ls (.int y :: .int x :: st) σ := fun H locs sl hP hS hL => lv_icmp_ne X.1 X.2.1 hd ht (fun q => kt (by rw [← h, if_pos q]) H locs sl hP hS hL) (fun q => kf (by rw [← h, if_neg (fun z => z q)]) H locs sl hP hS hL)
theorem j_if_lt {α : Type} (X : JX K cc nL own fr lo) {x : Int32} {off : Int} {tgt : Nat} {a b : Option α} {r : α} (hd : decode cc pc = .ok (.ifCond .lt off, 3)) (ht : (pc : Int) + off = (tgt : Int)) (h : (if x < 0 then a else b) = some r) (kt : a = some r → J K tgt ls st σ) (kf : b = some r → J K (pc + 3) ls st σ) : J K pc ls (.int x :: st) σ := fun H locs sl hP hS hL => lv_if_lt X.1 X.2.1 hd ht (fun q => kt (by rw [← h, if_pos q]) H locs sl hP hS hL) (fun q => kf (by rw [← h, if_neg q]) H locs sl hP hS hL)
theorem j_icmp_lt {α : Type} (X : JX K cc nL own fr lo) {x y : Int32} {off : Int} {tgt : Nat} {a b : Option α} {r : α} (hd : decode cc pc = .ok (.if_icmp .lt off, 3)) (ht : (pc : Int) + off = (tgt : Int)) (h : (if x < y then a else b) = some r) (kt : a = some r → J K tgt ls st σ) (kf : b = some r → J K (pc + 3) ls st σ) : J K pc ls (.int y :: .int x :: st) σ := fun H locs sl hP hS hL => lv_icmp_lt X.1 X.2.1 hd ht (fun q => kt (by rw [← h, if_pos q]) H locs sl hP hS hL) (fun q => kf (by rw [← h, if_neg q]) H locs sl hP hS hL)
theorem j_if_ge {α : Type} (X : JX K cc nL own fr lo) {x : Int32} {off : Int} {tgt : Nat} {a b : Option α} {r : α} (hd : decode cc pc = .ok (.ifCond .ge off, 3)) (ht : (pc : Int) + off = (tgt : Int)) (h : (if 0 ≤ x then a else b) = some r) (kt : a = some r → J K tgt ls st σ) (kf : b = some r → J K (pc + 3) ls st σ) : J K pc ls (.int x :: st) σ := fun H locs sl hP hS hL => lv_if_ge X.1 X.2.1 hd ht (fun q => kt (by rw [← h, if_pos q]) H locs sl hP hS hL) (fun q => kf (by rw [← h, if_neg q]) H locs sl hP hS hL)
theorem j_icmp_ge {α : Type} (X : JX K cc nL own fr lo) {x y : Int32} {off : Int} {tgt : Nat} {a b : Option α} {r : α} (hd : decode cc pc = .ok (.if_icmp .ge off, 3)) (ht : (pc : Int) + off = (tgt : Int)) (h : (if y ≤ x then a else b) = some r) (kt : a = some r → J K tgt ls st σ) (kf : b = some r → J K (pc + 3) ls st σ) : J K pc ls (.int y :: .int x :: st) σ := fun H locs sl hP hS hL => lv_icmp_ge X.1 X.2.1 hd ht (fun q => kt (by rw [← h, if_pos q]) H locs sl hP hS hL) (fun q => kf (by rw [← h, if_neg q]) H locs sl hP hS hL)
theorem j_if_gt {α : Type} (X : JX K cc nL own fr lo) {x : Int32} {off : Int} {tgt : Nat} {a b : Option α} {r : α} (hd : decode cc pc = .ok (.ifCond .gt off, 3)) (ht : (pc : Int) + off = (tgt : Int)) (h : (if 0 < x then a else b) = some r) (kt : a = some r → J K tgt ls st σ) (kf : b = some r → J K (pc + 3) ls st σ) : J K pc ls (.int x :: st) σ := fun H locs sl hP hS hL => lv_if_gt X.1 X.2.1 hd ht (fun q => kt (by rw [← h, if_pos q]) H locs sl hP hS hL) (fun q => kf (by rw [← h, if_neg q]) H locs sl hP hS hL)
theorem j_icmp_gt {α : Type} (X : JX K cc nL own fr lo) {x y : Int32} {off : Int} {tgt : Nat} {a b : Option α} {r : α} (hd : decode cc pc = .ok (.if_icmp .gt off, 3)) (ht : (pc : Int) + off = (tgt : Int)) (h : (if y < x then a else b) = some r) (kt : a = some r → J K tgt ls st σ) (kf : b = some r → J K (pc + 3) ls st σ) : J K pc ls (.int y :: .int x :: st) σ := fun H locs sl hP hS hL => lv_icmp_gt X.1 X.2.1 hd ht (fun q => kt (by rw [← h, if_pos q]) H locs sl hP hS hL) (fun q => kf (by rw [← h, if_neg q]) H locs sl hP hS hL)
theorem j_if_le {α : Type} (X : JX K cc nL own fr lo) {x : Int32} {off : Int} {tgt : Nat} {a b : Option α} {r : α} (hd : decode cc pc = .ok (.ifCond .le off, 3)) (ht : (pc : Int) + off = (tgt : Int)) (h : (if x ≤ 0 then a else b) = some r) (kt : a = some r → J K tgt ls st σ) (kf : b = some r → J K (pc + 3) ls st σ) : J K pc ls (.int x :: st) σ := fun H locs sl hP hS hL => lv_if_le X.1 X.2.1 hd ht (fun q => kt (by rw [← h, if_pos q]) H locs sl hP hS hL) (fun q => kf (by rw [← h, if_neg q]) H locs sl hP hS hL)
theorem j_icmp_le {α : Type} (X : JX K cc nL own fr lo) {x y : Int32} {off : Int} {tgt : Nat} {a b : Option α} {r : α} (hd : decode cc pc = .ok (.if_icmp .le off, 3)) (ht : (pc : Int) + off = (tgt : Int)) (h : (if x ≤ y then a else b) = some r) (kt : a = some r → J K tgt ls st σ) (kf : b = some r → J K (pc + 3) ls st σ) : J K pc ls (.int y :: .int x :: st) σ := fun H locs sl hP hS hL => lv_icmp_le X.1 X.2.1 hd ht (fun q => kt (by rw [← h, if_pos q]) H locs sl hP hS hL) (fun q => kf (by rw [← h, if_neg q]) H locs sl hP hS hL)
theorem j_tab (X : JX K cc nL own fr lo) {dflt lw hi : Int} {offs : Array Int} {len : Nat} {x : Int32} {off : Int} {tgt : Nat} (hd : decode cc pc = .ok (.tableswitch dflt lw hi offs, len)) (v : Int32) (hx : x = v) (h1 : ¬ v.toInt < lw) (h2 : ¬ hi < v.toInt) (ho : offs[(v.toInt - lw).toNat]? = some off) (ht : (pc : Int) + off = (tgt : Int)) (k : J K tgt ls st σ) : J K pc ls (.int x :: st) σ := fun H locs sl hP hS hL => by subst hx; exact lv_tableIn X.1 X.2.1 hd h1 h2 ho ht (k H locs sl hP hS hL)
theorem j_tabo (X : JX K cc nL own fr lo) {dflt lw hi : Int} {offs : Array Int} {len : Nat} {x : Int32} {tgt : Nat} (hd : decode cc pc = .ok (.tableswitch dflt lw hi offs, len)) (h : x.toInt < lw ∨ hi < x.toInt) (ht : (pc : Int) + dflt = (tgt : Int)) (k : J K tgt ls st σ) : J K pc ls (.int x :: st) σ := fun H locs sl hP hS hL => lv_tableOut X.1 X.2.1 hd h ht (k H locs sl hP hS hL)
theorem j_look (X : JX K cc nL own fr lo) {dflt : Int} {ps : Array (Int × Int)} {len : Nat} {x : Int32} {off : Int} {tgt : Nat} (hd : decode cc pc = .ok (.lookupswitch dflt ps, len)) (hp : (ps.toList.zip (ps.toList.drop 1)).all (fun (a, next) => a.1 < next.1) = true) (ho : Op.lookupswitch.offset ps.toList dflt x.toInt = off) (ht : (pc : Int) + off = (tgt : Int)) (k : J K tgt ls st σ) : J K pc ls (.int x :: st) σ := fun H locs sl hP hS hL => lv_lookup X.1 X.2.1 hd hp ho ht (k H locs sl hP hS hL)
/-- fields -/
def jFG (own : String) (index ci j : Nat) : Prop := ∃ (C : String) (T : u_T) (N : Nat), vwCl[ci]? = some (C, T, N) ∧ (∀ w ∈ u_ws C T N, w ∈ TT) ∧ j < N ∧ (T j).1 = C ∧ Cond.fieldLink own index C (T j).2.1 (T j).2.2.1 ∈ TT
def jFP (own : String) (index ci j : Nat) (ty : FieldType) : Prop := ∃ (C : String) (T : u_T) (N : Nat) (ty0 : Nat → FieldType), vwCl[ci]? = some (C, T, N) ∧ (∀ w ∈ u_ws C T N, w ∈ TT) ∧ j < N ∧ (T j).1 = C ∧ Cond.fieldLink own index C (T j).2.1 (T j).2.2.1 ∈ TT ∧ (∀ k, k < N → parseFieldDescriptor (T k).2.2.1 = some (ty0 k)) ∧ (∀ a, a < N → ∀ b, b < N → a ≠ b → (T a).2.1 ≠ (T b).2.1) ∧ (T j).2.2.2 = false ∧ parseFieldDescriptor (T j).2.2.1 = some ty
theorem j_getI (X : JX K cc nL own fr lo) {k ci j index : Nat} {fs : List (Option Nat)} (hG : jFG own index ci j) (hk : k < jN) (hL : jL k = (0, ci, fs)) (hj : fs[j]? = some none) (hd : decode cc pc = .ok (.getfield index, 3)) (kk : J K (pc + 3) ls (.int (σ.1 k j) :: st) σ) : J K pc ls (.ref k :: st) σ := fun H locs sl hP hS hLv => by
  obtain ⟨C, T, N, g1, g2, g3, g4, g5⟩ := hG
  refine va_get (ci := ci) X.1 X.2.1 X.2.2.2.2.1 g2 X.2.2.2.1 X.2.2.2.2.2.1 hP k (by rw [jwd_at hk, hL, jcell_o]) g1 j g3 (X.2.2.2.2.1 _ g5) (fun x h => by rw [g4] at h; exact h) (v := .int (σ.1 k j)) (by simp [jfs, List.getElem?_mapIdx, hj, jfv]) hd (kk H locs sl hP hS hLv)
theorem j_getR (X : JX K cc nL own fr lo) {k ci j index t : Nat} {fs : List (Option Nat)} (hG : jFG own index ci j) (hk : k < jN) (hL : jL k = (0, ci, fs)) (hj : fs[j]? = some (some t)) (hd : decode cc pc = .ok (.getfield index, 3)) (kk : J K (pc + 3) ls (.ref t :: st) σ) : J K pc ls (.ref k :: st) σ := fun H locs sl hP hS hLv => by
  obtain ⟨C, T, N, g1, g2, g3, g4, g5⟩ := hG
  refine va_get (ci := ci) X.1 X.2.1 X.2.2.2.2.1 g2 X.2.2.2.1 X.2.2.2.2.2.1 hP k (by rw [jwd_at hk, hL, jcell_o]) g1 j g3 (X.2.2.2.2.1 _ g5) (fun x h => by rw [g4] at h; exact h) (v := .ref (ka K t)) (by simp [jfs, List.getElem?_mapIdx, hj, jfv]) hd (kk H locs sl hP hS hLv)
theorem j_put {α : Type} (X : JX K cc nL own fr lo) {k ci j index : Nat} {fs : List (Option Nat)} {ty : FieldType} {v : Int32} {f : jMem → Option α} {r : α} (hG : jFP own index ci j ty) (hk : k < jN) (hL : jL k = (0, ci, fs)) (hj : fs[j]? = some none) (hn : narrow ty (.int v) = .int v) (hf : fits ty (.int v) = true) (hd : decode cc pc = .ok (.putfield index, 3)) (h : jlet (jset σ k j v) f = some r) (kk : ∀ σ', f σ' = some r → J K (pc + 3) ls st σ') : J K pc ls (.int v :: .ref k :: st) σ := fun H locs sl hP hS hLv => by
  obtain ⟨C, T, N, ty0, g1, g2, g3, g4, g5, g6, g7, g8, g9⟩ := hG
  refine va_put (ci := ci) (v := .int v) X.1 X.2.1 X.2.2.2.2.1 g2 ty0 g6 g7 X.2.2.2.1 X.2.2.2.2.2.1 hP (jwd_D X.2.2.2.2.2.2.1 X.2.2.2.2.2.2.2.1 σ) hS k (by rw [jwd_at hk, hL, jcell_o]) g1 j g3 (X.2.2.2.2.1 _ g5) (fun x h => by rw [g4] at h; exact h) g8 g9 hn hf (by have := (List.getElem?_eq_some_iff.mp hj).1; simpa [jfs] using this) hd (fun H1 locs1 hP1 _ hS1 => ?_)
  rw [jwd_put hk hL hj] at hP1
  exact kk _ h H1 locs1 sl hP1 hS1 hLv
/-- arrays -/
theorem j_iaload {α : Type} (X : JX K cc nL own fr lo) {k n : Nat} {fs : List (Option Nat)} {i : Int32} {f : Int32 → Option α} {r : α} (hk : k < jN) (hL : jL k = (1, n, fs)) (hd : decode cc pc = .ok (.iaload, 1)) (h : jld σ k n i f = some r) (kk : ∀ v, f v = some r → J K (pc + 1) ls (.int v :: st) σ) : J K pc ls (.int i :: .ref k :: st) σ := fun H locs sl hP hS hLv =>
  va_iald X.1 X.2.1 X.2.2.2.2.2.1 hP k 1 (by rw [jwd_at hk, hL, jcell_i]) rfl (jin_spec (jld_some h).1) hd (kk _ (jld_some h).2 H locs sl hP hS hLv)
theorem j_baload {α : Type} (X : JX K cc nL own fr lo) {k n : Nat} {fs : List (Option Nat)} {i : Int32} {f : Int32 → Option α} {r : α} (hk : k < jN) (hL : jL k = (2, n, fs)) (hd : decode cc pc = .ok (.baload, 1)) (h : jld σ k n i f = some r) (kk : ∀ v, f v = some r → J K (pc + 1) ls (.int v :: st) σ) : J K pc ls (.int i :: .ref k :: st) σ := fun H locs sl hP hS hLv =>
  va_zald X.1 X.2.1 X.2.2.2.2.2.1 hP k 2 (by rw [jwd_at hk, hL, jcell_z]) rfl (jin_spec (jld_some h).1) hd (kk _ (jld_some h).2 H locs sl hP hS hLv)
theorem j_laload {α : Type} (X : JX K cc nL own fr lo) {k n : Nat} {fs : List (Option Nat)} {i : Int32} {f : Int64 → Option α} {r : α} (hk : k < jN) (hL : jL k = (3, n, fs)) (hd : decode cc pc = .ok (.laload, 1)) (h : jldL σ k n i f = some r) (kk : ∀ v, f v = some r → J K (pc + 1) ls (.long v :: st) σ) : J K pc ls (.int i :: .ref k :: st) σ := fun H locs sl hP hS hLv =>
  va_lald X.1 X.2.1 X.2.2.2.2.2.1 hP k 3 (by rw [jwd_at hk, hL, jcell_l]) rfl (jin_spec (jldL_some h).1) hd (kk _ (jldL_some h).2 H locs sl hP hS hLv)
theorem j_iastore {α : Type} (X : JX K cc nL own fr lo) {k n : Nat} {fs : List (Option Nat)} {i v : Int32} {f : jMem → Option α} {r : α} (hk : k < jN) (hL : jL k = (1, n, fs)) (hd : decode cc pc = .ok (.iastore, 1)) (h : jst σ k n i v f = some r) (kk : ∀ σ', f σ' = some r → J K (pc + 1) ls st σ') : J K pc ls (.int v :: .int i :: .ref k :: st) σ := fun H locs sl hP hS hLv =>
  va_iast X.1 X.2.1 X.2.2.2.2.2.1 hP (jwd_D X.2.2.2.2.2.2.1 X.2.2.2.2.2.2.2.1 σ) hS k 1 (by rw [jwd_at hk, hL, jcell_i]) rfl (jin_spec (jst_some h).1) hd (fun H1 locs1 hP1 _ hS1 => kk _ (jst_some h).2 H1 locs1 sl (by rw [jwd_ast hk hL] at hP1; exact hP1) hS1 hLv)
theorem j_bastore {α : Type} (X : JX K cc nL own fr lo) {k n : Nat} {fs : List (Option Nat)} {i v : Int32} {f : jMem → Option α} {r : α} (hk : k < jN) (hL : jL k = (2, n, fs)) (hv : vp_nar .boolean v = v) (hd : decode cc pc = .ok (.bastore, 1)) (h : jst σ k n i v f = some r) (kk : ∀ σ', f σ' = some r → J K (pc + 1) ls st σ') : J K pc ls (.int v :: .int i :: .ref k :: st) σ := fun H locs sl hP hS hLv =>
  va_zast X.1 X.2.1 X.2.2.2.2.2.1 hP (jwd_D X.2.2.2.2.2.2.1 X.2.2.2.2.2.2.2.1 σ) hS k 2 (by rw [jwd_at hk, hL, jcell_z]) rfl (jin_spec (jst_some h).1) hd (fun H1 locs1 hP1 _ hS1 => kk _ (jst_some h).2 H1 locs1 sl (by rw [hv, jwd_zst hk hL] at hP1; exact hP1) hS1 hLv)
theorem j_lastore {α : Type} (X : JX K cc nL own fr lo) {k n : Nat} {fs : List (Option Nat)} {i : Int32} {v : Int64} {f : jMem → Option α} {r : α} (hk : k < jN) (hL : jL k = (3, n, fs)) (hd : decode cc pc = .ok (.lastore, 1)) (h : jstL σ k n i v f = some r) (kk : ∀ σ', f σ' = some r → J K (pc + 1) ls st σ') : J K pc ls (.long v :: .int i :: .ref k :: st) σ := fun H locs sl hP hS hLv =>
  va_last X.1 X.2.1 X.2.2.2.2.2.1 hP (jwd_D X.2.2.2.2.2.2.1 X.2.2.2.2.2.2.2.1 σ) hS k 3 (by rw [jwd_at hk, hL, jcell_l]) rfl (jin_spec (jstL_some h).1) hd (fun H1 locs1 hP1 _ hS1 => kk _ (jstL_some h).2 H1 locs1 sl (by rw [jwd_lst hk hL] at hP1; exact hP1) hS1 hLv)
theorem j_aaload {α : Type} (X : JX K cc nL own fr lo) {k tag n t : Nat} {i : Int32} {f : Nat → Option α} {r : α} (hk : k < jN) (hL : jL k = (tag, n, (List.range n).map (fun i => some (t + i)))) (ht : tag = 4 ∨ tag = 6) (hd : decode cc pc = .ok (.aaload, 1)) (h : jldr n t i f = some r) (kk : ∀ x, (∃ q, q < n ∧ x = t + q) → f x = some r → J K (pc + 1) ls (.ref x :: st) σ) : J K pc ls (.int i :: .ref k :: st) σ := fun H locs sl hP hS hLv => by
  obtain ⟨h1, h2⟩ := jldr_some h
  have hin := jin_spec h1
  have hlt : i.toNatClampNeg < n := Nat.not_le.mp fun q => hin (Or.inr q)
  have hat : (jwd (ka K) (kc K) σ)[k]? = some (ka K k, .inl (kc K tag, n, .inr (.inr (.inr (.inr (fun i => (((List.range n).map (fun i => some (t + i))).getD i none).map (ka K))))))) := by
    rw [jwd_at hk, hL]
    rcases ht with rfl | rfl <;> rfl
  have hv : va_rf ((((List.range n).map (fun i => some (t + i))).getD i.toNatClampNeg none).map (ka K)) = .ref (ka K (t + i.toNatClampNeg)) := by
    simp [List.getD, hlt, va_rf]
  have hty : ∃ ty : FieldType, (jtys (kc K))[tag]? = some (kc K tag, ty) ∧ ty.isReference = true := by
    rcases ht with rfl | rfl
    · exact ⟨_, rfl, rfl⟩
    · exact ⟨_, rfl, rfl⟩
  obtain ⟨ty, ht1, ht2⟩ := hty
  refine W.aald (v := .ref (ka K (t + i.toNatClampNeg))) (ty := ty) X.1 X.2.1 (hP k _ hat) ((X.2.2.2.2.2.1.2 tag _ ht1).1 n (fun j => va_rf ((((List.range n).map (fun i => some (t + i))).getD j none).map (ka K)))) ht2 (fun q => by cases q) (by show ¬ (i < 0 ∨ (arrV _ _ _).slots.size ≤ _); rw [arrV_size]; exact hin) (by show (arrV _ _ _).slots[_]? = _; rw [arrV_read _ _ hlt, hv]) rfl rfl hd (kk _ ⟨_, hlt, rfl⟩ h2 H locs sl hP hS hLv)
theorem j_copy {α : Type} (X : JX K cc nL own fr lo) {a b na nb index : Nat} {fa fb : List (Option Nat)} {sp dp n : Int32} {f : jMem → Option α} {r : α} (hl : Cond.methodLink own index arraycopyName ∈ TT) (hna : Cond.native arraycopyName ∈ TT) (hsta : Cond.static arraycopyName ∈ TT) (hini : Cond.initialized "java/lang/System" ∈ TT) (hnl : ls.length = nL) (hka : a < jN) (hLa : jL a = (1, na, fa)) (hkb : b < jN) (hLb : jL b = (1, nb, fb)) (hfr : 1 ≤ fr) (hlo : (st.map fun v => v.category).sum + (nativeFrameWords "java/lang/System" "arraycopy" 5 + 11) ≤ lo) (hd : decode cc pc = .ok (.invokestatic index, 3)) (h : jcp σ a na sp b nb dp n f = some r) (kk : ∀ σ', f σ' = some r → J K (pc + 3) ls st σ') : J K pc ls (.int n :: .int dp :: .ref b :: .int sp :: .ref a :: st) σ := fun H locs sl hP hS hLv => by
  unfold jcp at h
  by_cases c : ¬ sp < 0 ∧ ¬ dp < 0 ∧ ¬ n < 0 ∧ sp.toNatClampNeg + n.toNatClampNeg ≤ na ∧ dp.toNatClampNeg + n.toNatClampNeg ≤ nb
  · rw [if_pos c] at h
    have hcs : ((st.map (jcv (ka K))).map fun v => v.category).sum = (st.map fun v => v.category).sum := by
      rw [List.map_map]
      congr 1
      apply List.map_congr_left
      intro v _
      exact jcat _ v
    refine va_copyi X.1 X.2.1 (by rw [X.2.2.1, hLv.1, hnl]) X.2.2.2.1 (X.2.2.2.2.1 _ hl) (X.2.2.2.2.1 _ hna) (X.2.2.2.2.1 _ hsta) (X.2.2.2.2.1 _ hini) X.2.2.2.2.2.1 hP (jwd_D X.2.2.2.2.2.2.1 X.2.2.2.2.2.2.2.1 σ) hS a b 1 1 (ty := .int) (by rw [jwd_at hka, hLa, jcell_i]) (by rw [jwd_at hkb, hLb, jcell_i]) rfl rfl rfl c.1 c.2.1 c.2.2.1 c.2.2.2.1 c.2.2.2.2 (fun _ _ => rfl) (Nat.le_trans hfr X.2.2.2.2.2.2.2.2.1.1) (by rw [hcs]; exact Nat.le_trans hlo X.2.2.2.2.2.2.2.2.1.2.1) hd (fun H1 locs1 hP1 _ hS1 => ?_)
    rw [jwd_cpy hkb hLb] at hP1
    exact kk _ h H1 locs1 sl hP1 hS1 hLv
  · rw [if_neg c] at h; cases h
/-- ends -/
theorem jend {r : Option Value} {σ' : jMem} {ret0 : Option FieldType} (R0 : JR K ret0 r σ') {H : Heap} {locs : List Loc} (hP : va_P (kD K) vwCl (jwd (ka K) (kc K) σ') H) (hS : va_S (kA K) (kH K) H locs) : ∀ t : State, t.heap = H → jQc (kD K) (ka K) (kc K) r σ' (kar K) (ks K) (.returned r) t := fun t ht => by
  obtain ⟨-, h2, h3, -⟩ := R0
  rw [h2, h3] at hS
  exact ⟨rfl, by rw [ht]; exact hP, hS.F ht⟩
theorem j_iret {v : Int32} (X : JX K cc nL own fr lo) (R0 : JR K (some .int) (some (.int v)) σ) (hd : decode cc pc = .ok (.ireturn, 1)) : J K pc ls [.int v] σ := fun H locs sl hP hS hLv => by
  unfold jW
  rw [R0.1]
  exact W.iret X.1 X.2.1 R0.2.2.2.1 (fun t ht _ => jend R0 hP hS t ht) (fun q hq => by rw [← R0.2.1]; exact hS.2.2 q hq) hd R0.2.2.2.2
theorem j_zret {v : Int32} (X : JX K cc nL own fr lo) (R0 : JR K (some .boolean) (some (.int v)) σ) (hv : jisb v = true) (hd : decode cc pc = .ok (.ireturn, 1)) : J K pc ls [.int v] σ := fun H locs sl hP hS hLv => by
  have hn : narrow .boolean (.int v) = .int v := by
    simp only [jisb, Bool.or_eq_true, beq_iff_eq] at hv
    rcases hv with rfl | rfl <;> rfl
  unfold jW
  rw [R0.1]
  exact W.zret X.1 X.2.1 R0.2.2.2.1 hn (fun t ht _ => jend R0 hP hS t ht) (fun q hq => by rw [← R0.2.1]; exact hS.2.2 q hq) hd R0.2.2.2.2
theorem j_lret {v : Int64} (X : JX K cc nL own fr lo) (R0 : JR K (some .long) (some (.long v)) σ) (hd : decode cc pc = .ok (.lreturn, 1)) : J K pc ls [.long v] σ := fun H locs sl hP hS hLv => by
  unfold jW
  rw [R0.1]
  exact W.lret X.1 X.2.1 R0.2.2.2.1 (fun t ht _ => jend R0 hP hS t ht) (fun q hq => by rw [← R0.2.1]; exact hS.2.2 q hq) hd R0.2.2.2.2
theorem j_vret (X : JX K cc nL own fr lo) (R0 : JR K none none σ) (hd : decode cc pc = .ok (.return_, 1)) : J K pc ls [] σ := fun H locs sl hP hS hLv => by
  unfold jW
  rw [R0.1]
  exact W.vret X.1 X.2.1 R0.2.2.2.1 (fun t ht _ => jend R0 hP hS t ht) (fun q hq => by rw [← R0.2.1]; exact hS.2.2 q hq) hd R0.2.2.2.2
end JRows
end
