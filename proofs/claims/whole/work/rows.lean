section
-- ===== PART A: goes FIRST, ahead of the names: the tables' words, and 'selects' of the private methods out of them =====
/-- a private method of a class that the tables say can be made, by its rows of tables_1 -/
def lw_okq (q : MethodName × Nat) : Prop := (q.1.cls ≠ "java/lang/invoke/MethodHandle" ∧ q.1.cls ≠ "java/lang/invoke/VarHandle") ∧ Cond.instantiable q.1.cls q.2 ∈ tables_1 ∧ Cond.privateMethod q.1 ∈ tables_1 ∧ Cond.instanceMethod q.1 ∈ tables_1
theorem lw_p0 : lw_okq (⟨"ApproverWins", "textOf", "(I)LApproverWins$Text;"⟩, 12) := ⟨⟨by decide +kernel, by decide +kernel⟩, List.mem_of_getElem? (i := 18) (by decide +kernel), List.mem_of_getElem? (i := 286) (by decide +kernel), List.mem_of_getElem? (i := 287) (by decide +kernel)⟩
theorem lw_p1 : lw_okq (⟨"ApproverWins", "readAnew", "(I)V"⟩, 12) := ⟨⟨by decide +kernel, by decide +kernel⟩, List.mem_of_getElem? (i := 18) (by decide +kernel), List.mem_of_getElem? (i := 298) (by decide +kernel), List.mem_of_getElem? (i := 299) (by decide +kernel)⟩
theorem lw_p2 : lw_okq (⟨"ApproverWins", "reckonAnew", "()V"⟩, 12) := ⟨⟨by decide +kernel, by decide +kernel⟩, List.mem_of_getElem? (i := 18) (by decide +kernel), List.mem_of_getElem? (i := 328) (by decide +kernel), List.mem_of_getElem? (i := 329) (by decide +kernel)⟩
theorem lw_p3 : lw_okq (⟨"ApproverWins$Course", "markFate", "(II)V"⟩, 10) := ⟨⟨by decide +kernel, by decide +kernel⟩, List.mem_of_getElem? (i := 106) (by decide +kernel), List.mem_of_getElem? (i := 357) (by decide +kernel), List.mem_of_getElem? (i := 358) (by decide +kernel)⟩
theorem lw_p4 : lw_okq (⟨"ApproverWins$Course", "stepBehind", "(IIZ)V"⟩, 10) := ⟨⟨by decide +kernel, by decide +kernel⟩, List.mem_of_getElem? (i := 106) (by decide +kernel), List.mem_of_getElem? (i := 362) (by decide +kernel), List.mem_of_getElem? (i := 363) (by decide +kernel)⟩
theorem lw_p5 : lw_okq (⟨"ApproverWins", "isNumberOfNames", "(I)Z"⟩, 12) := ⟨⟨by decide +kernel, by decide +kernel⟩, List.mem_of_getElem? (i := 18) (by decide +kernel), List.mem_of_getElem? (i := 422) (by decide +kernel), List.mem_of_getElem? (i := 423) (by decide +kernel)⟩
theorem lw_p6 : lw_okq (⟨"ApproverWins$Plan", "prepare", "(III)V"⟩, 11) := ⟨⟨by decide +kernel, by decide +kernel⟩, List.mem_of_getElem? (i := 153) (by decide +kernel), List.mem_of_getElem? (i := 478) (by decide +kernel), List.mem_of_getElem? (i := 479) (by decide +kernel)⟩
theorem lw_p7 : lw_okq (⟨"ApproverWins$Plan", "fillValues", "()V"⟩, 11) := ⟨⟨by decide +kernel, by decide +kernel⟩, List.mem_of_getElem? (i := 153) (by decide +kernel), List.mem_of_getElem? (i := 485) (by decide +kernel), List.mem_of_getElem? (i := 486) (by decide +kernel)⟩
theorem lw_p8 : lw_okq (⟨"ApproverWins$Plan", "winsOf", "(I)I"⟩, 11) := ⟨⟨by decide +kernel, by decide +kernel⟩, List.mem_of_getElem? (i := 153) (by decide +kernel), List.mem_of_getElem? (i := 489) (by decide +kernel), List.mem_of_getElem? (i := 490) (by decide +kernel)⟩
theorem lw_p9 : lw_okq (⟨"ApproverWins$Plan", "mostBehind", "(II)J"⟩, 11) := ⟨⟨by decide +kernel, by decide +kernel⟩, List.mem_of_getElem? (i := 153) (by decide +kernel), List.mem_of_getElem? (i := 499) (by decide +kernel), List.mem_of_getElem? (i := 500) (by decide +kernel)⟩
theorem lw_p10 : lw_okq (⟨"ApproverWins$Plan", "valueIfNext", "(III)J"⟩, 11) := ⟨⟨by decide +kernel, by decide +kernel⟩, List.mem_of_getElem? (i := 153) (by decide +kernel), List.mem_of_getElem? (i := 503) (by decide +kernel), List.mem_of_getElem? (i := 504) (by decide +kernel)⟩
theorem lw_p11 : lw_okq (⟨"ApproverWins$Plan", "layRow", "()V"⟩, 11) := ⟨⟨by decide +kernel, by decide +kernel⟩, List.mem_of_getElem? (i := 153) (by decide +kernel), List.mem_of_getElem? (i := 510) (by decide +kernel), List.mem_of_getElem? (i := 511) (by decide +kernel)⟩
theorem lw_p12 : lw_okq (⟨"ApproverWins$Plan", "leastNext", "(II)I"⟩, 11) := ⟨⟨by decide +kernel, by decide +kernel⟩, List.mem_of_getElem? (i := 153) (by decide +kernel), List.mem_of_getElem? (i := 514) (by decide +kernel), List.mem_of_getElem? (i := 515) (by decide +kernel)⟩
theorem lw_p13 : lw_okq (⟨"ApproverWins", "tryBribe", "(I)V"⟩, 12) := ⟨⟨by decide +kernel, by decide +kernel⟩, List.mem_of_getElem? (i := 18) (by decide +kernel), List.mem_of_getElem? (i := 527) (by decide +kernel), List.mem_of_getElem? (i := 528) (by decide +kernel)⟩
theorem lw_p14 : lw_okq (⟨"ApproverWins", "finding", "(I)I"⟩, 12) := ⟨⟨by decide +kernel, by decide +kernel⟩, List.mem_of_getElem? (i := 18) (by decide +kernel), List.mem_of_getElem? (i := 566) (by decide +kernel), List.mem_of_getElem? (i := 567) (by decide +kernel)⟩
theorem lw_p15 : lw_okq (⟨"ApproverWins", "tallyFates", "()V"⟩, 12) := ⟨⟨by decide +kernel, by decide +kernel⟩, List.mem_of_getElem? (i := 18) (by decide +kernel), List.mem_of_getElem? (i := 592) (by decide +kernel), List.mem_of_getElem? (i := 593) (by decide +kernel)⟩
def lw_privs_1 : List (MethodName × Nat) := [(⟨"ApproverWins", "textOf", "(I)LApproverWins$Text;"⟩, 12), (⟨"ApproverWins", "readAnew", "(I)V"⟩, 12), (⟨"ApproverWins", "reckonAnew", "()V"⟩, 12), (⟨"ApproverWins$Course", "markFate", "(II)V"⟩, 10), (⟨"ApproverWins$Course", "stepBehind", "(IIZ)V"⟩, 10), (⟨"ApproverWins", "isNumberOfNames", "(I)Z"⟩, 12), (⟨"ApproverWins$Plan", "prepare", "(III)V"⟩, 11), (⟨"ApproverWins$Plan", "fillValues", "()V"⟩, 11), (⟨"ApproverWins$Plan", "winsOf", "(I)I"⟩, 11), (⟨"ApproverWins$Plan", "mostBehind", "(II)J"⟩, 11), (⟨"ApproverWins$Plan", "valueIfNext", "(III)J"⟩, 11), (⟨"ApproverWins$Plan", "layRow", "()V"⟩, 11), (⟨"ApproverWins$Plan", "leastNext", "(II)I"⟩, 11), (⟨"ApproverWins", "tryBribe", "(I)V"⟩, 12), (⟨"ApproverWins", "finding", "(I)I"⟩, 12), (⟨"ApproverWins", "tallyFates", "()V"⟩, 12)]
theorem lw_r1 : ∀ q ∈ lw_privs_1, lw_okq q := List.forall_mem_cons.mpr ⟨lw_p0, List.forall_mem_cons.mpr ⟨lw_p1, List.forall_mem_cons.mpr ⟨lw_p2, List.forall_mem_cons.mpr ⟨lw_p3, List.forall_mem_cons.mpr ⟨lw_p4, List.forall_mem_cons.mpr ⟨lw_p5, List.forall_mem_cons.mpr ⟨lw_p6, List.forall_mem_cons.mpr ⟨lw_p7, List.forall_mem_cons.mpr ⟨lw_p8, List.forall_mem_cons.mpr ⟨lw_p9, List.forall_mem_cons.mpr ⟨lw_p10, List.forall_mem_cons.mpr ⟨lw_p11, List.forall_mem_cons.mpr ⟨lw_p12, List.forall_mem_cons.mpr ⟨lw_p13, List.forall_mem_cons.mpr ⟨lw_p14, List.forall_mem_cons.mpr ⟨lw_p15, fun _ h => absurd h List.not_mem_nil⟩⟩⟩⟩⟩⟩⟩⟩⟩⟩⟩⟩⟩⟩⟩⟩
theorem lw_p16 : lw_okq (⟨"ApproverWins", "mostAlike", "(I)I"⟩, 12) := ⟨⟨by decide +kernel, by decide +kernel⟩, List.mem_of_getElem? (i := 18) (by decide +kernel), List.mem_of_getElem? (i := 596) (by decide +kernel), List.mem_of_getElem? (i := 597) (by decide +kernel)⟩
theorem lw_p17 : lw_okq (⟨"ApproverWins", "digestOfFelons", "(J)J"⟩, 12) := ⟨⟨by decide +kernel, by decide +kernel⟩, List.mem_of_getElem? (i := 18) (by decide +kernel), List.mem_of_getElem? (i := 695) (by decide +kernel), List.mem_of_getElem? (i := 696) (by decide +kernel)⟩
theorem lw_p18 : lw_okq (⟨"ApproverWins", "digestOfNames", "(J)J"⟩, 12) := ⟨⟨by decide +kernel, by decide +kernel⟩, List.mem_of_getElem? (i := 18) (by decide +kernel), List.mem_of_getElem? (i := 703) (by decide +kernel), List.mem_of_getElem? (i := 704) (by decide +kernel)⟩
theorem lw_p19 : lw_okq (⟨"ApproverWins", "digestOfPlans", "(J)J"⟩, 12) := ⟨⟨by decide +kernel, by decide +kernel⟩, List.mem_of_getElem? (i := 18) (by decide +kernel), List.mem_of_getElem? (i := 711) (by decide +kernel), List.mem_of_getElem? (i := 712) (by decide +kernel)⟩
theorem lw_p20 : lw_okq (⟨"ApproverWinsModel", "finds", "(I)I"⟩, 27) := ⟨⟨by decide +kernel, by decide +kernel⟩, List.mem_of_getElem? (i := 725) (by decide +kernel), List.mem_of_getElem? (i := 825) (by decide +kernel), List.mem_of_getElem? (i := 826) (by decide +kernel)⟩
theorem lw_p21 : lw_okq (⟨"ApproverWinsModel", "lacks", "(III)I"⟩, 27) := ⟨⟨by decide +kernel, by decide +kernel⟩, List.mem_of_getElem? (i := 725) (by decide +kernel), List.mem_of_getElem? (i := 837) (by decide +kernel), List.mem_of_getElem? (i := 838) (by decide +kernel)⟩
theorem lw_p22 : lw_okq (⟨"ApproverWinsModel", "readsFelons", "()I"⟩, 27) := ⟨⟨by decide +kernel, by decide +kernel⟩, List.mem_of_getElem? (i := 725) (by decide +kernel), List.mem_of_getElem? (i := 873) (by decide +kernel), List.mem_of_getElem? (i := 874) (by decide +kernel)⟩
theorem lw_p23 : lw_okq (⟨"ApproverWinsModel", "readsNames", "()I"⟩, 27) := ⟨⟨by decide +kernel, by decide +kernel⟩, List.mem_of_getElem? (i := 725) (by decide +kernel), List.mem_of_getElem? (i := 884) (by decide +kernel), List.mem_of_getElem? (i := 885) (by decide +kernel)⟩
theorem lw_p24 : lw_okq (⟨"ApproverWinsModel", "isFelon", "(I)Z"⟩, 27) := ⟨⟨by decide +kernel, by decide +kernel⟩, List.mem_of_getElem? (i := 725) (by decide +kernel), List.mem_of_getElem? (i := 894) (by decide +kernel), List.mem_of_getElem? (i := 895) (by decide +kernel)⟩
theorem lw_p25 : lw_okq (⟨"ApproverWinsModel", "find", "()V"⟩, 27) := ⟨⟨by decide +kernel, by decide +kernel⟩, List.mem_of_getElem? (i := 725) (by decide +kernel), List.mem_of_getElem? (i := 914) (by decide +kernel), List.mem_of_getElem? (i := 915) (by decide +kernel)⟩
theorem lw_p26 : lw_okq (⟨"ApproverWinsModel", "goes", "()V"⟩, 27) := ⟨⟨by decide +kernel, by decide +kernel⟩, List.mem_of_getElem? (i := 725) (by decide +kernel), List.mem_of_getElem? (i := 918) (by decide +kernel), List.mem_of_getElem? (i := 919) (by decide +kernel)⟩
theorem lw_p27 : lw_okq (⟨"ApproverWinsModel", "endOf", "(I)I"⟩, 27) := ⟨⟨by decide +kernel, by decide +kernel⟩, List.mem_of_getElem? (i := 725) (by decide +kernel), List.mem_of_getElem? (i := 925) (by decide +kernel), List.mem_of_getElem? (i := 926) (by decide +kernel)⟩
theorem lw_p28 : lw_okq (⟨"ApproverWinsModel", "winsBy", "(II)I"⟩, 27) := ⟨⟨by decide +kernel, by decide +kernel⟩, List.mem_of_getElem? (i := 725) (by decide +kernel), List.mem_of_getElem? (i := 929) (by decide +kernel), List.mem_of_getElem? (i := 930) (by decide +kernel)⟩
theorem lw_p29 : lw_okq (⟨"ApproverWinsModel", "strongBehind", "(II)I"⟩, 27) := ⟨⟨by decide +kernel, by decide +kernel⟩, List.mem_of_getElem? (i := 725) (by decide +kernel), List.mem_of_getElem? (i := 939) (by decide +kernel), List.mem_of_getElem? (i := 940) (by decide +kernel)⟩
theorem lw_p30 : lw_okq (⟨"ApproverWinsModel", "behindOf", "(II)I"⟩, 27) := ⟨⟨by decide +kernel, by decide +kernel⟩, List.mem_of_getElem? (i := 725) (by decide +kernel), List.mem_of_getElem? (i := 947) (by decide +kernel), List.mem_of_getElem? (i := 948) (by decide +kernel)⟩
theorem lw_p31 : lw_okq (⟨"ApproverWinsModel", "aliveOf", "(I)J"⟩, 27) := ⟨⟨by decide +kernel, by decide +kernel⟩, List.mem_of_getElem? (i := 725) (by decide +kernel), List.mem_of_getElem? (i := 955) (by decide +kernel), List.mem_of_getElem? (i := 956) (by decide +kernel)⟩
def lw_privs_2 : List (MethodName × Nat) := [(⟨"ApproverWins", "mostAlike", "(I)I"⟩, 12), (⟨"ApproverWins", "digestOfFelons", "(J)J"⟩, 12), (⟨"ApproverWins", "digestOfNames", "(J)J"⟩, 12), (⟨"ApproverWins", "digestOfPlans", "(J)J"⟩, 12), (⟨"ApproverWinsModel", "finds", "(I)I"⟩, 27), (⟨"ApproverWinsModel", "lacks", "(III)I"⟩, 27), (⟨"ApproverWinsModel", "readsFelons", "()I"⟩, 27), (⟨"ApproverWinsModel", "readsNames", "()I"⟩, 27), (⟨"ApproverWinsModel", "isFelon", "(I)Z"⟩, 27), (⟨"ApproverWinsModel", "find", "()V"⟩, 27), (⟨"ApproverWinsModel", "goes", "()V"⟩, 27), (⟨"ApproverWinsModel", "endOf", "(I)I"⟩, 27), (⟨"ApproverWinsModel", "winsBy", "(II)I"⟩, 27), (⟨"ApproverWinsModel", "strongBehind", "(II)I"⟩, 27), (⟨"ApproverWinsModel", "behindOf", "(II)I"⟩, 27), (⟨"ApproverWinsModel", "aliveOf", "(I)J"⟩, 27)]
theorem lw_r2 : ∀ q ∈ lw_privs_2, lw_okq q := List.forall_mem_cons.mpr ⟨lw_p16, List.forall_mem_cons.mpr ⟨lw_p17, List.forall_mem_cons.mpr ⟨lw_p18, List.forall_mem_cons.mpr ⟨lw_p19, List.forall_mem_cons.mpr ⟨lw_p20, List.forall_mem_cons.mpr ⟨lw_p21, List.forall_mem_cons.mpr ⟨lw_p22, List.forall_mem_cons.mpr ⟨lw_p23, List.forall_mem_cons.mpr ⟨lw_p24, List.forall_mem_cons.mpr ⟨lw_p25, List.forall_mem_cons.mpr ⟨lw_p26, List.forall_mem_cons.mpr ⟨lw_p27, List.forall_mem_cons.mpr ⟨lw_p28, List.forall_mem_cons.mpr ⟨lw_p29, List.forall_mem_cons.mpr ⟨lw_p30, List.forall_mem_cons.mpr ⟨lw_p31, fun _ h => absurd h List.not_mem_nil⟩⟩⟩⟩⟩⟩⟩⟩⟩⟩⟩⟩⟩⟩⟩⟩
theorem lw_p32 : lw_okq (⟨"ApproverWinsModel", "livesNow", "()J"⟩, 27) := ⟨⟨by decide +kernel, by decide +kernel⟩, List.mem_of_getElem? (i := 725) (by decide +kernel), List.mem_of_getElem? (i := 974) (by decide +kernel), List.mem_of_getElem? (i := 975) (by decide +kernel)⟩
theorem lw_p33 : lw_okq (⟨"ApproverWinsModel", "harmNow", "()J"⟩, 27) := ⟨⟨by decide +kernel, by decide +kernel⟩, List.mem_of_getElem? (i := 725) (by decide +kernel), List.mem_of_getElem? (i := 982) (by decide +kernel), List.mem_of_getElem? (i := 983) (by decide +kernel)⟩
theorem lw_p34 : lw_okq (⟨"ApproverWinsModel", "isHarmed", "(I)Z"⟩, 27) := ⟨⟨by decide +kernel, by decide +kernel⟩, List.mem_of_getElem? (i := 725) (by decide +kernel), List.mem_of_getElem? (i := 986) (by decide +kernel), List.mem_of_getElem? (i := 987) (by decide +kernel)⟩
theorem lw_p35 : lw_okq (⟨"ApproverWinsModel", "worstNow", "()I"⟩, 27) := ⟨⟨by decide +kernel, by decide +kernel⟩, List.mem_of_getElem? (i := 725) (by decide +kernel), List.mem_of_getElem? (i := 994) (by decide +kernel), List.mem_of_getElem? (i := 995) (by decide +kernel)⟩
theorem lw_p36 : lw_okq (⟨"ApproverWinsModel", "fateOf", "(I)I"⟩, 27) := ⟨⟨by decide +kernel, by decide +kernel⟩, List.mem_of_getElem? (i := 725) (by decide +kernel), List.mem_of_getElem? (i := 1002) (by decide +kernel), List.mem_of_getElem? (i := 1003) (by decide +kernel)⟩
theorem lw_p37 : lw_okq (⟨"ApproverWinsModel", "findOrder", "()V"⟩, 27) := ⟨⟨by decide +kernel, by decide +kernel⟩, List.mem_of_getElem? (i := 725) (by decide +kernel), List.mem_of_getElem? (i := 1012) (by decide +kernel), List.mem_of_getElem? (i := 1013) (by decide +kernel)⟩
theorem lw_p38 : lw_okq (⟨"ApproverWinsModel", "adds", "(II)V"⟩, 27) := ⟨⟨by decide +kernel, by decide +kernel⟩, List.mem_of_getElem? (i := 725) (by decide +kernel), List.mem_of_getElem? (i := 1016) (by decide +kernel), List.mem_of_getElem? (i := 1017) (by decide +kernel)⟩
theorem lw_p39 : lw_okq (⟨"ApproverWinsModel", "keeps", "(I)V"⟩, 27) := ⟨⟨by decide +kernel, by decide +kernel⟩, List.mem_of_getElem? (i := 725) (by decide +kernel), List.mem_of_getElem? (i := 1021) (by decide +kernel), List.mem_of_getElem? (i := 1022) (by decide +kernel)⟩
theorem lw_p40 : lw_okq (⟨"ApproverWinsModel", "orderBy", "(I)I"⟩, 27) := ⟨⟨by decide +kernel, by decide +kernel⟩, List.mem_of_getElem? (i := 725) (by decide +kernel), List.mem_of_getElem? (i := 1025) (by decide +kernel), List.mem_of_getElem? (i := 1026) (by decide +kernel)⟩
theorem lw_p41 : lw_okq (⟨"ApproverWinsModel", "priceNow", "()I"⟩, 27) := ⟨⟨by decide +kernel, by decide +kernel⟩, List.mem_of_getElem? (i := 725) (by decide +kernel), List.mem_of_getElem? (i := 1037) (by decide +kernel), List.mem_of_getElem? (i := 1038) (by decide +kernel)⟩
theorem lw_p42 : lw_okq (⟨"ApproverWinsModel", "ruleOf", "(I)I"⟩, 27) := ⟨⟨by decide +kernel, by decide +kernel⟩, List.mem_of_getElem? (i := 725) (by decide +kernel), List.mem_of_getElem? (i := 1045) (by decide +kernel), List.mem_of_getElem? (i := 1046) (by decide +kernel)⟩
theorem lw_p43 : lw_okq (⟨"ApproverWinsModel", "chainOf", "(I)I"⟩, 27) := ⟨⟨by decide +kernel, by decide +kernel⟩, List.mem_of_getElem? (i := 725) (by decide +kernel), List.mem_of_getElem? (i := 1053) (by decide +kernel), List.mem_of_getElem? (i := 1054) (by decide +kernel)⟩
theorem lw_p44 : lw_okq (⟨"ApproverWinsModel", "bribesNow", "()I"⟩, 27) := ⟨⟨by decide +kernel, by decide +kernel⟩, List.mem_of_getElem? (i := 725) (by decide +kernel), List.mem_of_getElem? (i := 1074) (by decide +kernel), List.mem_of_getElem? (i := 1075) (by decide +kernel)⟩
theorem lw_p45 : lw_okq (⟨"ApproverWinsModel", "isSeen", "()Z"⟩, 27) := ⟨⟨by decide +kernel, by decide +kernel⟩, List.mem_of_getElem? (i := 725) (by decide +kernel), List.mem_of_getElem? (i := 1078) (by decide +kernel), List.mem_of_getElem? (i := 1079) (by decide +kernel)⟩
theorem lw_p46 : lw_okq (⟨"ApproverWinsModel", "kindsOf", "(I)I"⟩, 27) := ⟨⟨by decide +kernel, by decide +kernel⟩, List.mem_of_getElem? (i := 725) (by decide +kernel), List.mem_of_getElem? (i := 1086) (by decide +kernel), List.mem_of_getElem? (i := 1087) (by decide +kernel)⟩
theorem lw_p47 : lw_okq (⟨"ApproverWinsModel", "askNow", "()I"⟩, 27) := ⟨⟨by decide +kernel, by decide +kernel⟩, List.mem_of_getElem? (i := 725) (by decide +kernel), List.mem_of_getElem? (i := 1094) (by decide +kernel), List.mem_of_getElem? (i := 1095) (by decide +kernel)⟩
def lw_privs_3 : List (MethodName × Nat) := [(⟨"ApproverWinsModel", "livesNow", "()J"⟩, 27), (⟨"ApproverWinsModel", "harmNow", "()J"⟩, 27), (⟨"ApproverWinsModel", "isHarmed", "(I)Z"⟩, 27), (⟨"ApproverWinsModel", "worstNow", "()I"⟩, 27), (⟨"ApproverWinsModel", "fateOf", "(I)I"⟩, 27), (⟨"ApproverWinsModel", "findOrder", "()V"⟩, 27), (⟨"ApproverWinsModel", "adds", "(II)V"⟩, 27), (⟨"ApproverWinsModel", "keeps", "(I)V"⟩, 27), (⟨"ApproverWinsModel", "orderBy", "(I)I"⟩, 27), (⟨"ApproverWinsModel", "priceNow", "()I"⟩, 27), (⟨"ApproverWinsModel", "ruleOf", "(I)I"⟩, 27), (⟨"ApproverWinsModel", "chainOf", "(I)I"⟩, 27), (⟨"ApproverWinsModel", "bribesNow", "()I"⟩, 27), (⟨"ApproverWinsModel", "isSeen", "()Z"⟩, 27), (⟨"ApproverWinsModel", "kindsOf", "(I)I"⟩, 27), (⟨"ApproverWinsModel", "askNow", "()I"⟩, 27)]
theorem lw_r3 : ∀ q ∈ lw_privs_3, lw_okq q := List.forall_mem_cons.mpr ⟨lw_p32, List.forall_mem_cons.mpr ⟨lw_p33, List.forall_mem_cons.mpr ⟨lw_p34, List.forall_mem_cons.mpr ⟨lw_p35, List.forall_mem_cons.mpr ⟨lw_p36, List.forall_mem_cons.mpr ⟨lw_p37, List.forall_mem_cons.mpr ⟨lw_p38, List.forall_mem_cons.mpr ⟨lw_p39, List.forall_mem_cons.mpr ⟨lw_p40, List.forall_mem_cons.mpr ⟨lw_p41, List.forall_mem_cons.mpr ⟨lw_p42, List.forall_mem_cons.mpr ⟨lw_p43, List.forall_mem_cons.mpr ⟨lw_p44, List.forall_mem_cons.mpr ⟨lw_p45, List.forall_mem_cons.mpr ⟨lw_p46, List.forall_mem_cons.mpr ⟨lw_p47, fun _ h => absurd h List.not_mem_nil⟩⟩⟩⟩⟩⟩⟩⟩⟩⟩⟩⟩⟩⟩⟩⟩
theorem lw_p48 : lw_okq (⟨"ApproverWinsModel", "gaolsOf", "(III)I"⟩, 27) := ⟨⟨by decide +kernel, by decide +kernel⟩, List.mem_of_getElem? (i := 725) (by decide +kernel), List.mem_of_getElem? (i := 1103) (by decide +kernel), List.mem_of_getElem? (i := 1104) (by decide +kernel)⟩
theorem lw_p49 : lw_okq (⟨"ApproverWinsModel", "lot", "(I)I"⟩, 27) := ⟨⟨by decide +kernel, by decide +kernel⟩, List.mem_of_getElem? (i := 725) (by decide +kernel), List.mem_of_getElem? (i := 1107) (by decide +kernel), List.mem_of_getElem? (i := 1108) (by decide +kernel)⟩
theorem lw_p50 : lw_okq (⟨"ApproverWinsModel", "fights", "()I"⟩, 27) := ⟨⟨by decide +kernel, by decide +kernel⟩, List.mem_of_getElem? (i := 725) (by decide +kernel), List.mem_of_getElem? (i := 1120) (by decide +kernel), List.mem_of_getElem? (i := 1121) (by decide +kernel)⟩
theorem lw_p51 : lw_okq (⟨"ApproverWinsModel", "named", "()I"⟩, 27) := ⟨⟨by decide +kernel, by decide +kernel⟩, List.mem_of_getElem? (i := 725) (by decide +kernel), List.mem_of_getElem? (i := 1124) (by decide +kernel), List.mem_of_getElem? (i := 1125) (by decide +kernel)⟩
def lw_privs_4 : List (MethodName × Nat) := [(⟨"ApproverWinsModel", "gaolsOf", "(III)I"⟩, 27), (⟨"ApproverWinsModel", "lot", "(I)I"⟩, 27), (⟨"ApproverWinsModel", "fights", "()I"⟩, 27), (⟨"ApproverWinsModel", "named", "()I"⟩, 27)]
theorem lw_r4 : ∀ q ∈ lw_privs_4, lw_okq q := List.forall_mem_cons.mpr ⟨lw_p48, List.forall_mem_cons.mpr ⟨lw_p49, List.forall_mem_cons.mpr ⟨lw_p50, List.forall_mem_cons.mpr ⟨lw_p51, fun _ h => absurd h List.not_mem_nil⟩⟩⟩⟩
def lw_privs : List (MethodName × Nat) := lw_privs_1 ++ (lw_privs_2 ++ (lw_privs_3 ++ (lw_privs_4)))
def lw_tbl : List Cond := k2_sels lw_privs ++ tables_1
theorem lw_privs_ok : ∀ q ∈ lw_privs, lw_okq q := by
  show ∀ q ∈ lw_privs_1 ++ (lw_privs_2 ++ (lw_privs_3 ++ (lw_privs_4))), lw_okq q
  exact List.forall_mem_append.mpr ⟨lw_r1, List.forall_mem_append.mpr ⟨lw_r2, List.forall_mem_append.mpr ⟨lw_r3, lw_r4⟩⟩⟩
end
section
def RX0 : String := "ApproverWins$Course"
def TX0 : u_T := fun k => match k with
  | 0 => ("ApproverWins$Course", "come", "[I", true)
  | 1 => ("ApproverWins$Course", "sixteenths", "[I", true)
  | 2 => ("ApproverWins$Course", "strong", "[I", true)
  | 3 => ("ApproverWins$Course", "won", "[I", true)
  | 4 => ("ApproverWins$Course", "above", "[J", true)
  | 5 => ("ApproverWins$Course", "innocentsAhead", "[I", true)
  | 6 => ("ApproverWins$Course", "fates", "[I", true)
  | 7 => ("ApproverWins$Course", "length", "I", false)
  | 8 => ("ApproverWins$Course", "goal", "I", false)
  | _ => ("ApproverWins$Course", "harmAbove", "J", false)
def tyX0 : Nat → FieldType := fun k => match k with
  | 0 => .array .int
  | 1 => .array .int
  | 2 => .array .int
  | 3 => .array .int
  | 4 => .array .long
  | 5 => .array .int
  | 6 => .array .int
  | 7 => .int
  | 8 => .int
  | _ => .long
theorem nmX0 : ∀ a, a < 10 → ∀ b, b < 10 → a ≠ b → (TX0 a).2.1 ≠ (TX0 b).2.1 := by decide +kernel
theorem tyX0_ok : ∀ k, k < 10 → parseFieldDescriptor (TX0 k).2.2.1 = some (tyX0 k) := by decide +kernel
abbrev cX0_init : ByteArray := prog_2_method_1_code
def yX0_init : MethodName := ⟨RX0, "<init>", "()V"⟩
abbrev cX0_setOut : ByteArray := prog_2_method_2_code
def yX0_setOut : MethodName := ⟨RX0, "setOut", "(II)V"⟩
abbrev cX0_walk : ByteArray := prog_2_method_3_code
def yX0_walk : MethodName := ⟨RX0, "walk", "(LApproverWins$Gang;LApproverWins$Names;III)V"⟩
abbrev cX0_markFate : ByteArray := prog_2_method_4_code
def yX0_markFate : MethodName := ⟨RX0, "markFate", "(II)V"⟩
abbrev cX0_stepBehind : ByteArray := prog_2_method_5_code
def yX0_stepBehind : MethodName := ⟨RX0, "stepBehind", "(IIZ)V"⟩
abbrev cX0_fateOf : ByteArray := prog_2_method_6_code
def yX0_fateOf : MethodName := ⟨RX0, "fateOf", "(I)I"⟩
abbrev cX0_hasAllWins : ByteArray := prog_2_method_7_code
def yX0_hasAllWins : MethodName := ⟨RX0, "hasAllWins", "()Z"⟩
abbrev cX0_livesAbove : ByteArray := prog_2_method_8_code
def yX0_livesAbove : MethodName := ⟨RX0, "livesAbove", "()J"⟩
abbrev cX0_fewestSixteenths : ByteArray := prog_2_method_9_code
def yX0_fewestSixteenths : MethodName := ⟨RX0, "fewestSixteenths", "()I"⟩
abbrev cX0_numberOfFights : ByteArray := prog_2_method_10_code
def yX0_numberOfFights : MethodName := ⟨RX0, "numberOfFights", "()I"⟩
abbrev cX0_numberNotVoid : ByteArray := prog_2_method_11_code
def yX0_numberNotVoid : MethodName := ⟨RX0, "numberNotVoid", "(I)I"⟩
abbrev cX0_playTill : ByteArray := prog_2_method_12_code
def yX0_playTill : MethodName := ⟨RX0, "playTill", "(LApproverWins$Lots;)I"⟩
def RX1 : String := "ApproverWins$Fraction"
def TX1 : u_T := fun k => match k with
  | _ => ("", "", "", false)
def tyX1 : Nat → FieldType := fun k => match k with
  | _ => .int
theorem nmX1 : ∀ a, a < 0 → ∀ b, b < 0 → a ≠ b → (TX1 a).2.1 ≠ (TX1 b).2.1 := by decide +kernel
theorem tyX1_ok : ∀ k, k < 0 → parseFieldDescriptor (TX1 k).2.2.1 = some (tyX1 k) := by decide +kernel
abbrev cX1_told : ByteArray := prog_3_method_2_code
def yX1_told : MethodName := ⟨RX1, "told", "(JII)J"⟩
def RX2 : String := "ApproverWins$Gang"
def TX2 : u_T := fun k => match k with
  | 0 => ("ApproverWins$Gang", "parts", "[I", true)
  | 1 => ("ApproverWins$Gang", "size", "I", false)
  | _ => ("ApproverWins$Gang", "faultPlace", "I", false)
def tyX2 : Nat → FieldType := fun k => match k with
  | 0 => .array .int
  | 1 => .int
  | _ => .int
theorem nmX2 : ∀ a, a < 3 → ∀ b, b < 3 → a ≠ b → (TX2 a).2.1 ≠ (TX2 b).2.1 := by decide +kernel
theorem tyX2_ok : ∀ k, k < 3 → parseFieldDescriptor (TX2 k).2.2.1 = some (tyX2 k) := by decide +kernel
abbrev cX2_init : ByteArray := prog_4_method_1_code
def yX2_init : MethodName := ⟨RX2, "<init>", "()V"⟩
abbrev cX2_parse : ByteArray := prog_4_method_2_code
def yX2_parse : MethodName := ⟨RX2, "parse", "(LApproverWins$Text;)V"⟩
abbrev cX2_placeOfFault : ByteArray := prog_4_method_3_code
def yX2_placeOfFault : MethodName := ⟨RX2, "placeOfFault", "(LApproverWins$Text;)I"⟩
abbrev cX2_fits : ByteArray := prog_4_method_4_code
def yX2_fits : MethodName := ⟨RX2, "fits", "(II)Z"⟩
abbrev cX2_kindOf : ByteArray := prog_4_method_5_code
def yX2_kindOf : MethodName := ⟨RX2, "kindOf", "(I)I"⟩
abbrev cX2_has : ByteArray := prog_4_method_6_code
def yX2_has : MethodName := ⟨RX2, "has", "(I)Z"⟩
abbrev cX2_part : ByteArray := prog_4_method_7_code
def yX2_part : MethodName := ⟨RX2, "part", "(II)I"⟩
abbrev cX2_putKind : ByteArray := prog_4_method_8_code
def yX2_putKind : MethodName := ⟨RX2, "putKind", "(II)V"⟩
abbrev cX2_answerOf : ByteArray := prog_4_method_9_code
def yX2_answerOf : MethodName := ⟨RX2, "answerOf", "(II)I"⟩
def RX3 : String := "ApproverWins$Lots"
def TX3 : u_T := fun k => match k with
  | _ => ("ApproverWins$Lots", "seed", "I", false)
def tyX3 : Nat → FieldType := fun k => match k with
  | _ => .int
theorem nmX3 : ∀ a, a < 1 → ∀ b, b < 1 → a ≠ b → (TX3 a).2.1 ≠ (TX3 b).2.1 := by decide +kernel
theorem tyX3_ok : ∀ k, k < 1 → parseFieldDescriptor (TX3 k).2.2.1 = some (tyX3 k) := by decide +kernel
abbrev cX3_init : ByteArray := prog_5_method_1_code
def yX3_init : MethodName := ⟨RX3, "<init>", "(I)V"⟩
abbrev cX3_draw : ByteArray := prog_5_method_2_code
def yX3_draw : MethodName := ⟨RX3, "draw", "(I)I"⟩
def RX4 : String := "ApproverWins$Names"
def TX4 : u_T := fun k => match k with
  | 0 => ("ApproverWins$Names", "row", "[I", true)
  | 1 => ("ApproverWins$Names", "size", "I", false)
  | _ => ("ApproverWins$Names", "faultPlace", "I", false)
def tyX4 : Nat → FieldType := fun k => match k with
  | 0 => .array .int
  | 1 => .int
  | _ => .int
theorem nmX4 : ∀ a, a < 3 → ∀ b, b < 3 → a ≠ b → (TX4 a).2.1 ≠ (TX4 b).2.1 := by decide +kernel
theorem tyX4_ok : ∀ k, k < 3 → parseFieldDescriptor (TX4 k).2.2.1 = some (tyX4 k) := by decide +kernel
abbrev cX4_init : ByteArray := prog_6_method_1_code
def yX4_init : MethodName := ⟨RX4, "<init>", "()V"⟩
abbrev cX4_parse : ByteArray := prog_6_method_2_code
def yX4_parse : MethodName := ⟨RX4, "parse", "(LApproverWins$Text;)V"⟩
abbrev cX4_whoAt : ByteArray := prog_6_method_3_code
def yX4_whoAt : MethodName := ⟨RX4, "whoAt", "(I)I"⟩
def RX5 : String := "ApproverWins$Plan"
def TX5 : u_T := fun k => match k with
  | 0 => ("ApproverWins$Plan", "value", "[J", true)
  | 1 => ("ApproverWins$Plan", "factor", "[I", true)
  | 2 => ("ApproverWins$Plan", "strongBehind", "[I", true)
  | 3 => ("ApproverWins$Plan", "row", "[I", true)
  | 4 => ("ApproverWins$Plan", "felons", "I", false)
  | 5 => ("ApproverWins$Plan", "living", "I", false)
  | 6 => ("ApproverWins$Plan", "atFirst", "I", false)
  | 7 => ("ApproverWins$Plan", "goal", "I", false)
  | 8 => ("ApproverWins$Plan", "length", "I", false)
  | 9 => ("ApproverWins$Plan", "above", "J", false)
  | _ => ("ApproverWins$Plan", "isMade", "Z", false)
def tyX5 : Nat → FieldType := fun k => match k with
  | 0 => .array .long
  | 1 => .array .int
  | 2 => .array .int
  | 3 => .array .int
  | 4 => .int
  | 5 => .int
  | 6 => .int
  | 7 => .int
  | 8 => .int
  | 9 => .long
  | _ => .boolean
theorem nmX5 : ∀ a, a < 11 → ∀ b, b < 11 → a ≠ b → (TX5 a).2.1 ≠ (TX5 b).2.1 := by decide +kernel
theorem tyX5_ok : ∀ k, k < 11 → parseFieldDescriptor (TX5 k).2.2.1 = some (tyX5 k) := by decide +kernel
abbrev cX5_init : ByteArray := prog_7_method_1_code
def yX5_init : MethodName := ⟨RX5, "<init>", "()V"⟩
abbrev cX5_makeOnce : ByteArray := prog_7_method_2_code
def yX5_makeOnce : MethodName := ⟨RX5, "makeOnce", "(LApproverWins$Gang;LApproverWins$Terms;)V"⟩
abbrev cX5_prepare : ByteArray := prog_7_method_3_code
def yX5_prepare : MethodName := ⟨RX5, "prepare", "(III)V"⟩
abbrev cX5_winsOf : ByteArray := prog_7_method_4_code
def yX5_winsOf : MethodName := ⟨RX5, "winsOf", "(I)I"⟩
abbrev cX5_fillValues : ByteArray := prog_7_method_5_code
def yX5_fillValues : MethodName := ⟨RX5, "fillValues", "()V"⟩
abbrev cX5_mostBehind : ByteArray := prog_7_method_6_code
def yX5_mostBehind : MethodName := ⟨RX5, "mostBehind", "(II)J"⟩
abbrev cX5_valueIfNext : ByteArray := prog_7_method_7_code
def yX5_valueIfNext : MethodName := ⟨RX5, "valueIfNext", "(III)J"⟩
abbrev cX5_layRow : ByteArray := prog_7_method_8_code
def yX5_layRow : MethodName := ⟨RX5, "layRow", "()V"⟩
abbrev cX5_leastNext : ByteArray := prog_7_method_9_code
def yX5_leastNext : MethodName := ⟨RX5, "leastNext", "(II)I"⟩
def RX6 : String := "ApproverWins$Sheet"
def TX6 : u_T := fun k => match k with
  | 0 => ("ApproverWins$Sheet", "row", "[I", true)
  | 1 => ("ApproverWins$Sheet", "isLost", "Z", false)
  | 2 => ("ApproverWins$Sheet", "form", "I", false)
  | _ => ("ApproverWins$Sheet", "size", "I", false)
def tyX6 : Nat → FieldType := fun k => match k with
  | 0 => .array .int
  | 1 => .boolean
  | 2 => .int
  | _ => .int
theorem nmX6 : ∀ a, a < 4 → ∀ b, b < 4 → a ≠ b → (TX6 a).2.1 ≠ (TX6 b).2.1 := by decide +kernel
theorem tyX6_ok : ∀ k, k < 4 → parseFieldDescriptor (TX6 k).2.2.1 = some (tyX6 k) := by decide +kernel
abbrev cX6_init : ByteArray := prog_8_method_1_code
def yX6_init : MethodName := ⟨RX6, "<init>", "()V"⟩
abbrev cX6_renew : ByteArray := prog_8_method_2_code
def yX6_renew : MethodName := ⟨RX6, "renew", "(II)V"⟩
abbrev cX6_findingAt : ByteArray := prog_8_method_3_code
def yX6_findingAt : MethodName := ⟨RX6, "findingAt", "(II)I"⟩
abbrev cX6_put : ByteArray := prog_8_method_4_code
def yX6_put : MethodName := ⟨RX6, "put", "(II)V"⟩
abbrev cX6_hasStretch : ByteArray := prog_8_method_5_code
def yX6_hasStretch : MethodName := ⟨RX6, "hasStretch", "(II)Z"⟩
def RX7 : String := "ApproverWins$Sightings"
def TX7 : u_T := fun k => match k with
  | 0 => ("ApproverWins$Sightings", "felons", "[I", true)
  | 1 => ("ApproverWins$Sightings", "fates", "[I", true)
  | _ => ("ApproverWins$Sightings", "size", "I", false)
def tyX7 : Nat → FieldType := fun k => match k with
  | 0 => .array .int
  | 1 => .array .int
  | _ => .int
theorem nmX7 : ∀ a, a < 3 → ∀ b, b < 3 → a ≠ b → (TX7 a).2.1 ≠ (TX7 b).2.1 := by decide +kernel
theorem tyX7_ok : ∀ k, k < 3 → parseFieldDescriptor (TX7 k).2.2.1 = some (tyX7 k) := by decide +kernel
abbrev cX7_init : ByteArray := prog_9_method_1_code
def yX7_init : MethodName := ⟨RX7, "<init>", "()V"⟩
abbrev cX7_allows : ByteArray := prog_9_method_2_code
def yX7_allows : MethodName := ⟨RX7, "allows", "(II)Z"⟩
abbrev cX7_isFull : ByteArray := prog_9_method_3_code
def yX7_isFull : MethodName := ⟨RX7, "isFull", "()Z"⟩
abbrev cX7_add : ByteArray := prog_9_method_4_code
def yX7_add : MethodName := ⟨RX7, "add", "(II)V"⟩
abbrev cX7_comeOutBy : ByteArray := prog_9_method_5_code
def yX7_comeOutBy : MethodName := ⟨RX7, "comeOutBy", "(LApproverWins$Course;)Z"⟩
def RX8 : String := "ApproverWins$Step"
def TX8 : u_T := fun k => match k with
  | _ => ("", "", "", false)
def tyX8 : Nat → FieldType := fun k => match k with
  | _ => .int
theorem nmX8 : ∀ a, a < 0 → ∀ b, b < 0 → a ≠ b → (TX8 a).2.1 ≠ (TX8 b).2.1 := by decide +kernel
theorem tyX8_ok : ∀ k, k < 0 → parseFieldDescriptor (TX8 k).2.2.1 = some (tyX8 k) := by decide +kernel
abbrev cX8_isWin : ByteArray := prog_10_method_2_code
def yX8_isWin : MethodName := ⟨RX8, "isWin", "(I)Z"⟩
abbrev cX8_sixteenths : ByteArray := prog_10_method_3_code
def yX8_sixteenths : MethodName := ⟨RX8, "sixteenths", "(III)I"⟩
abbrev cX8_strongBehind : ByteArray := prog_10_method_4_code
def yX8_strongBehind : MethodName := ⟨RX8, "strongBehind", "(III)I"⟩
def RX9 : String := "ApproverWins$Terms"
def TX9 : u_T := fun k => match k with
  | 0 => ("ApproverWins$Terms", "strong", "I", false)
  | 1 => ("ApproverWins$Terms", "wins", "I", false)
  | _ => ("ApproverWins$Terms", "bribe", "I", false)
def tyX9 : Nat → FieldType := fun k => match k with
  | 0 => .int
  | 1 => .int
  | _ => .int
theorem nmX9 : ∀ a, a < 3 → ∀ b, b < 3 → a ≠ b → (TX9 a).2.1 ≠ (TX9 b).2.1 := by decide +kernel
theorem tyX9_ok : ∀ k, k < 3 → parseFieldDescriptor (TX9 k).2.2.1 = some (tyX9 k) := by decide +kernel
abbrev cX9_init : ByteArray := prog_11_method_1_code
def yX9_init : MethodName := ⟨RX9, "<init>", "()V"⟩
abbrev cX9_allows : ByteArray := prog_11_method_2_code
def yX9_allows : MethodName := ⟨RX9, "allows", "(II)Z"⟩
abbrev cX9_change : ByteArray := prog_11_method_3_code
def yX9_change : MethodName := ⟨RX9, "change", "(II)I"⟩
def RX10 : String := "ApproverWins$Text"
def TX10 : u_T := fun k => match k with
  | 0 => ("ApproverWins$Text", "row", "[I", true)
  | _ => ("ApproverWins$Text", "size", "I", false)
def tyX10 : Nat → FieldType := fun k => match k with
  | 0 => .array .int
  | _ => .int
theorem nmX10 : ∀ a, a < 2 → ∀ b, b < 2 → a ≠ b → (TX10 a).2.1 ≠ (TX10 b).2.1 := by decide +kernel
theorem tyX10_ok : ∀ k, k < 2 → parseFieldDescriptor (TX10 k).2.2.1 = some (tyX10 k) := by decide +kernel
abbrev cX10_init : ByteArray := prog_12_method_1_code
def yX10_init : MethodName := ⟨RX10, "<init>", "(I)V"⟩
abbrev cX10_isFull : ByteArray := prog_12_method_2_code
def yX10_isFull : MethodName := ⟨RX10, "isFull", "()Z"⟩
abbrev cX10_push : ByteArray := prog_12_method_3_code
def yX10_push : MethodName := ⟨RX10, "push", "(I)V"⟩
abbrev cX10_byteAt : ByteArray := prog_12_method_4_code
def yX10_byteAt : MethodName := ⟨RX10, "byteAt", "(I)I"⟩
def RX11 : String := "ApproverWins"
def TX11 : u_T := fun k => match k with
  | 0 => ("ApproverWins", "felonText", "LApproverWins$Text;", true)
  | 1 => ("ApproverWins", "nameText", "LApproverWins$Text;", true)
  | 2 => ("ApproverWins", "gang", "LApproverWins$Gang;", true)
  | 3 => ("ApproverWins", "names", "LApproverWins$Names;", true)
  | 4 => ("ApproverWins", "terms", "LApproverWins$Terms;", true)
  | 5 => ("ApproverWins", "course", "LApproverWins$Course;", true)
  | 6 => ("ApproverWins", "trial", "LApproverWins$Course;", true)
  | 7 => ("ApproverWins", "plan", "LApproverWins$Plan;", true)
  | 8 => ("ApproverWins", "sightings", "LApproverWins$Sightings;", true)
  | 9 => ("ApproverWins", "sheets", "[LApproverWins$Sheet;", true)
  | 10 => ("ApproverWins", "tally", "[I", true)
  | _ => ("ApproverWins", "latestFinding", "I", false)
def tyX11 : Nat → FieldType := fun k => match k with
  | 0 => .object "ApproverWins$Text"
  | 1 => .object "ApproverWins$Text"
  | 2 => .object "ApproverWins$Gang"
  | 3 => .object "ApproverWins$Names"
  | 4 => .object "ApproverWins$Terms"
  | 5 => .object "ApproverWins$Course"
  | 6 => .object "ApproverWins$Course"
  | 7 => .object "ApproverWins$Plan"
  | 8 => .object "ApproverWins$Sightings"
  | 9 => .array (.object "ApproverWins$Sheet")
  | 10 => .array .int
  | _ => .int
theorem nmX11 : ∀ a, a < 12 → ∀ b, b < 12 → a ≠ b → (TX11 a).2.1 ≠ (TX11 b).2.1 := by decide +kernel
theorem tyX11_ok : ∀ k, k < 12 → parseFieldDescriptor (TX11 k).2.2.1 = some (tyX11 k) := by decide +kernel
abbrev cX11_init : ByteArray := prog_1_method_1_code
def yX11_init : MethodName := ⟨RX11, "<init>", "()V"⟩
abbrev cX11_type : ByteArray := prog_1_method_2_code
def yX11_type : MethodName := ⟨RX11, "type", "(II)I"⟩
abbrev cX11_wipe : ByteArray := prog_1_method_3_code
def yX11_wipe : MethodName := ⟨RX11, "wipe", "(I)I"⟩
abbrev cX11_undo : ByteArray := prog_1_method_4_code
def yX11_undo : MethodName := ⟨RX11, "undo", "(I)I"⟩
abbrev cX11_fault : ByteArray := prog_1_method_5_code
def yX11_fault : MethodName := ⟨RX11, "fault", "(I)I"⟩
abbrev cX11_felon : ByteArray := prog_1_method_6_code
def yX11_felon : MethodName := ⟨RX11, "felon", "(II)I"⟩
abbrev cX11_name : ByteArray := prog_1_method_7_code
def yX11_name : MethodName := ⟨RX11, "name", "(I)I"⟩
abbrev cX11_set : ByteArray := prog_1_method_8_code
def yX11_set : MethodName := ⟨RX11, "set", "(II)I"⟩
abbrev cX11_comes : ByteArray := prog_1_method_9_code
def yX11_comes : MethodName := ⟨RX11, "comes", "(II)I"⟩
abbrev cX11_behind : ByteArray := prog_1_method_10_code
def yX11_behind : MethodName := ⟨RX11, "behind", "(II)I"⟩
abbrev cX11_alive : ByteArray := prog_1_method_11_code
def yX11_alive : MethodName := ⟨RX11, "alive", "(II)J"⟩
abbrev cX11_lives : ByteArray := prog_1_method_12_code
def yX11_lives : MethodName := ⟨RX11, "lives", "(I)J"⟩
abbrev cX11_harm : ByteArray := prog_1_method_13_code
def yX11_harm : MethodName := ⟨RX11, "harm", "(I)J"⟩
abbrev cX11_worst : ByteArray := prog_1_method_14_code
def yX11_worst : MethodName := ⟨RX11, "worst", "()I"⟩
abbrev cX11_fate : ByteArray := prog_1_method_15_code
def yX11_fate : MethodName := ⟨RX11, "fate", "(I)I"⟩
abbrev cX11_order : ByteArray := prog_1_method_16_code
def yX11_order : MethodName := ⟨RX11, "order", "(I)I"⟩
abbrev cX11_best : ByteArray := prog_1_method_17_code
def yX11_best : MethodName := ⟨RX11, "best", "(I)J"⟩
abbrev cX11_price : ByteArray := prog_1_method_18_code
def yX11_price : MethodName := ⟨RX11, "price", "()I"⟩
abbrev cX11_rule : ByteArray := prog_1_method_19_code
def yX11_rule : MethodName := ⟨RX11, "rule", "(I)I"⟩
abbrev cX11_chain : ByteArray := prog_1_method_20_code
def yX11_chain : MethodName := ⟨RX11, "chain", "(I)I"⟩
abbrev cX11_seen : ByteArray := prog_1_method_21_code
def yX11_seen : MethodName := ⟨RX11, "seen", "(II)I"⟩
abbrev cX11_forget : ByteArray := prog_1_method_22_code
def yX11_forget : MethodName := ⟨RX11, "forget", "()I"⟩
abbrev cX11_read : ByteArray := prog_1_method_23_code
def yX11_read : MethodName := ⟨RX11, "read", "(I)I"⟩
abbrev cX11_bribes : ByteArray := prog_1_method_24_code
def yX11_bribes : MethodName := ⟨RX11, "bribes", "()I"⟩
abbrev cX11_kinds : ByteArray := prog_1_method_25_code
def yX11_kinds : MethodName := ⟨RX11, "kinds", "(I)I"⟩
abbrev cX11_ask : ByteArray := prog_1_method_26_code
def yX11_ask : MethodName := ⟨RX11, "ask", "()I"⟩
abbrev cX11_gaols : ByteArray := prog_1_method_27_code
def yX11_gaols : MethodName := ⟨RX11, "gaols", "(III)I"⟩
abbrev cX11_sheet : ByteArray := prog_1_method_28_code
def yX11_sheet : MethodName := ⟨RX11, "sheet", "(III)I"⟩
abbrev cX11_lose : ByteArray := prog_1_method_29_code
def yX11_lose : MethodName := ⟨RX11, "lose", "(I)I"⟩
abbrev cX11_lay : ByteArray := prog_1_method_30_code
def yX11_lay : MethodName := ⟨RX11, "lay", "(IIII)I"⟩
abbrev cX11_get : ByteArray := prog_1_method_31_code
def yX11_get : MethodName := ⟨RX11, "get", "(III)I"⟩
abbrev cX11_copy : ByteArray := prog_1_method_32_code
def yX11_copy : MethodName := ⟨RX11, "copy", "(IIIII)I"⟩
abbrev cX11_write : ByteArray := prog_1_method_33_code
def yX11_write : MethodName := ⟨RX11, "write", "(I)I"⟩
abbrev cX11_count : ByteArray := prog_1_method_34_code
def yX11_count : MethodName := ⟨RX11, "count", "(I)I"⟩
abbrev cX11_digest : ByteArray := prog_1_method_35_code
def yX11_digest : MethodName := ⟨RX11, "digest", "()J"⟩
abbrev cX11_digestOfFelons : ByteArray := prog_1_method_36_code
def yX11_digestOfFelons : MethodName := ⟨RX11, "digestOfFelons", "(J)J"⟩
abbrev cX11_digestOfNames : ByteArray := prog_1_method_37_code
def yX11_digestOfNames : MethodName := ⟨RX11, "digestOfNames", "(J)J"⟩
abbrev cX11_digestOfPlans : ByteArray := prog_1_method_38_code
def yX11_digestOfPlans : MethodName := ⟨RX11, "digestOfPlans", "(J)J"⟩
abbrev cX11_isText : ByteArray := prog_1_method_39_code
def yX11_isText : MethodName := ⟨RX11, "isText", "(I)Z"⟩
abbrev cX11_isEither : ByteArray := prog_1_method_40_code
def yX11_isEither : MethodName := ⟨RX11, "isEither", "(I)Z"⟩
abbrev cX11_isSheet : ByteArray := prog_1_method_41_code
def yX11_isSheet : MethodName := ⟨RX11, "isSheet", "(I)Z"⟩
abbrev cX11_isForm : ByteArray := prog_1_method_42_code
def yX11_isForm : MethodName := ⟨RX11, "isForm", "(I)Z"⟩
abbrev cX11_longRefusal : ByteArray := prog_1_method_43_code
def yX11_longRefusal : MethodName := ⟨RX11, "longRefusal", "(I)J"⟩
abbrev cX11_isNumberOfNames : ByteArray := prog_1_method_44_code
def yX11_isNumberOfNames : MethodName := ⟨RX11, "isNumberOfNames", "(I)Z"⟩
abbrev cX11_textOf : ByteArray := prog_1_method_45_code
def yX11_textOf : MethodName := ⟨RX11, "textOf", "(I)LApproverWins$Text;"⟩
abbrev cX11_finding : ByteArray := prog_1_method_46_code
def yX11_finding : MethodName := ⟨RX11, "finding", "(I)I"⟩
abbrev cX11_readAnew : ByteArray := prog_1_method_47_code
def yX11_readAnew : MethodName := ⟨RX11, "readAnew", "(I)V"⟩
abbrev cX11_reckonAnew : ByteArray := prog_1_method_48_code
def yX11_reckonAnew : MethodName := ⟨RX11, "reckonAnew", "()V"⟩
abbrev cX11_tryBribe : ByteArray := prog_1_method_49_code
def yX11_tryBribe : MethodName := ⟨RX11, "tryBribe", "(I)V"⟩
abbrev cX11_tallyFates : ByteArray := prog_1_method_50_code
def yX11_tallyFates : MethodName := ⟨RX11, "tallyFates", "()V"⟩
abbrev cX11_mostAlike : ByteArray := prog_1_method_51_code
def yX11_mostAlike : MethodName := ⟨RX11, "mostAlike", "(I)I"⟩
def RX12 : String := "ApproverWinsModel"
def TX12 : u_T := fun k => match k with
  | 0 => ("ApproverWinsModel", "forms", "[I", true)
  | 1 => ("ApproverWinsModel", "sizes", "[I", true)
  | 2 => ("ApproverWinsModel", "items", "[I", true)
  | 3 => ("ApproverWinsModel", "moved", "[I", true)
  | 4 => ("ApproverWinsModel", "latest", "I", false)
  | 5 => ("ApproverWinsModel", "bytes", "[I", true)
  | 6 => ("ApproverWinsModel", "typed", "[I", true)
  | 7 => ("ApproverWinsModel", "felons", "I", false)
  | 8 => ("ApproverWinsModel", "felon", "[I", true)
  | 9 => ("ApproverWinsModel", "names", "I", false)
  | 10 => ("ApproverWinsModel", "name", "[I", true)
  | 11 => ("ApproverWinsModel", "settings", "[I", true)
  | 12 => ("ApproverWinsModel", "comes", "[I", true)
  | 13 => ("ApproverWinsModel", "chances", "[I", true)
  | 14 => ("ApproverWinsModel", "strong", "[I", true)
  | 15 => ("ApproverWinsModel", "wins", "[I", true)
  | 16 => ("ApproverWinsModel", "row", "[I", true)
  | 17 => ("ApproverWinsModel", "rowStrong", "[I", true)
  | 18 => ("ApproverWinsModel", "rowWins", "[I", true)
  | 19 => ("ApproverWinsModel", "rowChance", "[J", true)
  | 20 => ("ApproverWinsModel", "bestRow", "[I", true)
  | 21 => ("ApproverWinsModel", "bestMany", "I", false)
  | 22 => ("ApproverWinsModel", "bestChance", "J", false)
  | 23 => ("ApproverWinsModel", "sights", "I", false)
  | 24 => ("ApproverWinsModel", "sight", "[I", true)
  | 25 => ("ApproverWinsModel", "alike", "[I", true)
  | _ => ("ApproverWinsModel", "drawn", "I", false)
def tyX12 : Nat → FieldType := fun k => match k with
  | 0 => .array .int
  | 1 => .array .int
  | 2 => .array .int
  | 3 => .array .int
  | 4 => .int
  | 5 => .array .int
  | 6 => .array .int
  | 7 => .int
  | 8 => .array .int
  | 9 => .int
  | 10 => .array .int
  | 11 => .array .int
  | 12 => .array .int
  | 13 => .array .int
  | 14 => .array .int
  | 15 => .array .int
  | 16 => .array .int
  | 17 => .array .int
  | 18 => .array .int
  | 19 => .array .long
  | 20 => .array .int
  | 21 => .int
  | 22 => .long
  | 23 => .int
  | 24 => .array .int
  | 25 => .array .int
  | _ => .int
theorem nmX12 : ∀ a, a < 27 → ∀ b, b < 27 → a ≠ b → (TX12 a).2.1 ≠ (TX12 b).2.1 := by decide +kernel
theorem tyX12_ok : ∀ k, k < 27 → parseFieldDescriptor (TX12 k).2.2.1 = some (tyX12 k) := by decide +kernel
abbrev cX12_init : ByteArray := prog_14_method_1_code
def yX12_init : MethodName := ⟨RX12, "<init>", "()V"⟩
abbrev cX12_in : ByteArray := prog_14_method_3_code
def yX12_in : MethodName := ⟨RX12, "in", "(JJJ)Z"⟩
abbrev cX12_no : ByteArray := prog_14_method_4_code
def yX12_no : MethodName := ⟨RX12, "no", "(I)J"⟩
abbrev cX12_isTwo : ByteArray := prog_14_method_5_code
def yX12_isTwo : MethodName := ⟨RX12, "isTwo", "(I)Z"⟩
abbrev cX12_isIn : ByteArray := prog_14_method_6_code
def yX12_isIn : MethodName := ⟨RX12, "isIn", "(II)Z"⟩
abbrev cX12_lesser : ByteArray := prog_14_method_7_code
def yX12_lesser : MethodName := ⟨RX12, "lesser", "(II)I"⟩
abbrev cX12_greater : ByteArray := prog_14_method_8_code
def yX12_greater : MethodName := ⟨RX12, "greater", "(II)I"⟩
abbrev cX12_part : ByteArray := prog_14_method_9_code
def yX12_part : MethodName := ⟨RX12, "part", "(JJI)J"⟩
abbrev cX12_finds : ByteArray := prog_14_method_10_code
def yX12_finds : MethodName := ⟨RX12, "finds", "(I)I"⟩
abbrev cX12_isSheet : ByteArray := prog_14_method_11_code
def yX12_isSheet : MethodName := ⟨RX12, "isSheet", "(I)Z"⟩
abbrev cX12_sheet : ByteArray := prog_14_method_12_code
def yX12_sheet : MethodName := ⟨RX12, "sheet", "(III)I"⟩
abbrev cX12_lose : ByteArray := prog_14_method_13_code
def yX12_lose : MethodName := ⟨RX12, "lose", "(I)I"⟩
abbrev cX12_lacks : ByteArray := prog_14_method_14_code
def yX12_lacks : MethodName := ⟨RX12, "lacks", "(III)I"⟩
abbrev cX12_cut : ByteArray := prog_14_method_15_code
def yX12_cut : MethodName := ⟨RX12, "cut", "(II)I"⟩
abbrev cX12_lay : ByteArray := prog_14_method_16_code
def yX12_lay : MethodName := ⟨RX12, "lay", "(IIII)I"⟩
abbrev cX12_get : ByteArray := prog_14_method_17_code
def yX12_get : MethodName := ⟨RX12, "get", "(III)I"⟩
abbrev cX12_copy : ByteArray := prog_14_method_18_code
def yX12_copy : MethodName := ⟨RX12, "copy", "(IIIII)I"⟩
abbrev cX12_type : ByteArray := prog_14_method_19_code
def yX12_type : MethodName := ⟨RX12, "type", "(II)I"⟩
abbrev cX12_wipe : ByteArray := prog_14_method_20_code
def yX12_wipe : MethodName := ⟨RX12, "wipe", "(I)I"⟩
abbrev cX12_undo : ByteArray := prog_14_method_21_code
def yX12_undo : MethodName := ⟨RX12, "undo", "(I)I"⟩
abbrev cX12_figureOf : ByteArray := prog_14_method_22_code
def yX12_figureOf : MethodName := ⟨RX12, "figureOf", "(II)I"⟩
abbrev cX12_felonOf : ByteArray := prog_14_method_23_code
def yX12_felonOf : MethodName := ⟨RX12, "felonOf", "(II)I"⟩
abbrev cX12_readsFelons : ByteArray := prog_14_method_24_code
def yX12_readsFelons : MethodName := ⟨RX12, "readsFelons", "()I"⟩
abbrev cX12_readsNames : ByteArray := prog_14_method_25_code
def yX12_readsNames : MethodName := ⟨RX12, "readsNames", "()I"⟩
abbrev cX12_fault : ByteArray := prog_14_method_26_code
def yX12_fault : MethodName := ⟨RX12, "fault", "(I)I"⟩
abbrev cX12_isFelon : ByteArray := prog_14_method_27_code
def yX12_isFelon : MethodName := ⟨RX12, "isFelon", "(I)Z"⟩
abbrev cX12_felon : ByteArray := prog_14_method_28_code
def yX12_felon : MethodName := ⟨RX12, "felon", "(II)I"⟩
abbrev cX12_name : ByteArray := prog_14_method_29_code
def yX12_name : MethodName := ⟨RX12, "name", "(I)I"⟩
abbrev cX12_set : ByteArray := prog_14_method_30_code
def yX12_set : MethodName := ⟨RX12, "set", "(II)I"⟩
abbrev cX12_endOf : ByteArray := prog_14_method_31_code
def yX12_endOf : MethodName := ⟨RX12, "endOf", "(I)I"⟩
abbrev cX12_winsBy : ByteArray := prog_14_method_32_code
def yX12_winsBy : MethodName := ⟨RX12, "winsBy", "(II)I"⟩
abbrev cX12_strongBehind : ByteArray := prog_14_method_33_code
def yX12_strongBehind : MethodName := ⟨RX12, "strongBehind", "(II)I"⟩
abbrev cX12_goes : ByteArray := prog_14_method_34_code
def yX12_goes : MethodName := ⟨RX12, "goes", "()V"⟩
abbrev cX12_find : ByteArray := prog_14_method_35_code
def yX12_find : MethodName := ⟨RX12, "find", "()V"⟩
abbrev cX12_comes : ByteArray := prog_14_method_36_code
def yX12_comes : MethodName := ⟨RX12, "comes", "(II)I"⟩
abbrev cX12_behindOf : ByteArray := prog_14_method_37_code
def yX12_behindOf : MethodName := ⟨RX12, "behindOf", "(II)I"⟩
abbrev cX12_behind : ByteArray := prog_14_method_38_code
def yX12_behind : MethodName := ⟨RX12, "behind", "(II)I"⟩
abbrev cX12_aliveOf : ByteArray := prog_14_method_39_code
def yX12_aliveOf : MethodName := ⟨RX12, "aliveOf", "(I)J"⟩
abbrev cX12_tells : ByteArray := prog_14_method_40_code
def yX12_tells : MethodName := ⟨RX12, "tells", "(JI)J"⟩
abbrev cX12_alive : ByteArray := prog_14_method_41_code
def yX12_alive : MethodName := ⟨RX12, "alive", "(II)J"⟩
abbrev cX12_livesNow : ByteArray := prog_14_method_42_code
def yX12_livesNow : MethodName := ⟨RX12, "livesNow", "()J"⟩
abbrev cX12_lives : ByteArray := prog_14_method_43_code
def yX12_lives : MethodName := ⟨RX12, "lives", "(I)J"⟩
abbrev cX12_isHarmed : ByteArray := prog_14_method_44_code
def yX12_isHarmed : MethodName := ⟨RX12, "isHarmed", "(I)Z"⟩
abbrev cX12_harmNow : ByteArray := prog_14_method_45_code
def yX12_harmNow : MethodName := ⟨RX12, "harmNow", "()J"⟩
abbrev cX12_harm : ByteArray := prog_14_method_46_code
def yX12_harm : MethodName := ⟨RX12, "harm", "(I)J"⟩
abbrev cX12_worstNow : ByteArray := prog_14_method_47_code
def yX12_worstNow : MethodName := ⟨RX12, "worstNow", "()I"⟩
abbrev cX12_worst : ByteArray := prog_14_method_48_code
def yX12_worst : MethodName := ⟨RX12, "worst", "()I"⟩
abbrev cX12_fateOf : ByteArray := prog_14_method_49_code
def yX12_fateOf : MethodName := ⟨RX12, "fateOf", "(I)I"⟩
abbrev cX12_fate : ByteArray := prog_14_method_50_code
def yX12_fate : MethodName := ⟨RX12, "fate", "(I)I"⟩
abbrev cX12_adds : ByteArray := prog_14_method_51_code
def yX12_adds : MethodName := ⟨RX12, "adds", "(II)V"⟩
abbrev cX12_keeps : ByteArray := prog_14_method_52_code
def yX12_keeps : MethodName := ⟨RX12, "keeps", "(I)V"⟩
abbrev cX12_findOrder : ByteArray := prog_14_method_53_code
def yX12_findOrder : MethodName := ⟨RX12, "findOrder", "()V"⟩
abbrev cX12_orderBy : ByteArray := prog_14_method_54_code
def yX12_orderBy : MethodName := ⟨RX12, "orderBy", "(I)I"⟩
abbrev cX12_order : ByteArray := prog_14_method_55_code
def yX12_order : MethodName := ⟨RX12, "order", "(I)I"⟩
abbrev cX12_best : ByteArray := prog_14_method_56_code
def yX12_best : MethodName := ⟨RX12, "best", "(I)J"⟩
abbrev cX12_priceNow : ByteArray := prog_14_method_57_code
def yX12_priceNow : MethodName := ⟨RX12, "priceNow", "()I"⟩
abbrev cX12_price : ByteArray := prog_14_method_58_code
def yX12_price : MethodName := ⟨RX12, "price", "()I"⟩
abbrev cX12_ruleOf : ByteArray := prog_14_method_59_code
def yX12_ruleOf : MethodName := ⟨RX12, "ruleOf", "(I)I"⟩
abbrev cX12_rule : ByteArray := prog_14_method_60_code
def yX12_rule : MethodName := ⟨RX12, "rule", "(I)I"⟩
abbrev cX12_chainOf : ByteArray := prog_14_method_61_code
def yX12_chainOf : MethodName := ⟨RX12, "chainOf", "(I)I"⟩
abbrev cX12_chain : ByteArray := prog_14_method_62_code
def yX12_chain : MethodName := ⟨RX12, "chain", "(I)I"⟩
abbrev cX12_seen : ByteArray := prog_14_method_63_code
def yX12_seen : MethodName := ⟨RX12, "seen", "(II)I"⟩
abbrev cX12_forget : ByteArray := prog_14_method_64_code
def yX12_forget : MethodName := ⟨RX12, "forget", "()I"⟩
abbrev cX12_read : ByteArray := prog_14_method_65_code
def yX12_read : MethodName := ⟨RX12, "read", "(I)I"⟩
abbrev cX12_isSeen : ByteArray := prog_14_method_66_code
def yX12_isSeen : MethodName := ⟨RX12, "isSeen", "()Z"⟩
abbrev cX12_bribesNow : ByteArray := prog_14_method_67_code
def yX12_bribesNow : MethodName := ⟨RX12, "bribesNow", "()I"⟩
abbrev cX12_bribes : ByteArray := prog_14_method_68_code
def yX12_bribes : MethodName := ⟨RX12, "bribes", "()I"⟩
abbrev cX12_kindsOf : ByteArray := prog_14_method_69_code
def yX12_kindsOf : MethodName := ⟨RX12, "kindsOf", "(I)I"⟩
abbrev cX12_kinds : ByteArray := prog_14_method_70_code
def yX12_kinds : MethodName := ⟨RX12, "kinds", "(I)I"⟩
abbrev cX12_askNow : ByteArray := prog_14_method_71_code
def yX12_askNow : MethodName := ⟨RX12, "askNow", "()I"⟩
abbrev cX12_ask : ByteArray := prog_14_method_72_code
def yX12_ask : MethodName := ⟨RX12, "ask", "()I"⟩
abbrev cX12_lot : ByteArray := prog_14_method_73_code
def yX12_lot : MethodName := ⟨RX12, "lot", "(I)I"⟩
abbrev cX12_gaolsOf : ByteArray := prog_14_method_74_code
def yX12_gaolsOf : MethodName := ⟨RX12, "gaolsOf", "(III)I"⟩
abbrev cX12_gaols : ByteArray := prog_14_method_75_code
def yX12_gaols : MethodName := ⟨RX12, "gaols", "(III)I"⟩
abbrev cX12_write : ByteArray := prog_14_method_76_code
def yX12_write : MethodName := ⟨RX12, "write", "(I)I"⟩
abbrev cX12_fights : ByteArray := prog_14_method_77_code
def yX12_fights : MethodName := ⟨RX12, "fights", "()I"⟩
abbrev cX12_named : ByteArray := prog_14_method_78_code
def yX12_named : MethodName := ⟨RX12, "named", "()I"⟩
abbrev cX12_count : ByteArray := prog_14_method_79_code
def yX12_count : MethodName := ⟨RX12, "count", "(I)I"⟩
abbrev cX12_tellsBoth : ByteArray := prog_14_method_80_code
def yX12_tellsBoth : MethodName := ⟨RX12, "tellsBoth", "(JJ)J"⟩
abbrev cX12_digest : ByteArray := prog_14_method_81_code
def yX12_digest : MethodName := ⟨RX12, "digest", "()J"⟩
def RJ6 : String := "java/lang/Integer"
def TJ6 : u_T := fun k => match k with
  | _ => ("", "", "", false)
def tyJ6 : Nat → FieldType := fun k => match k with
  | _ => .int
theorem nmJ6 : ∀ a, a < 0 → ∀ b, b < 0 → a ≠ b → (TJ6 a).2.1 ≠ (TJ6 b).2.1 := by decide +kernel
theorem tyJ6_ok : ∀ k, k < 0 → parseFieldDescriptor (TJ6 k).2.2.1 = some (tyJ6 k) := by decide +kernel
abbrev cJ6_bitCount_0f7a4 : ByteArray := prog_15_method_49_code
def yJ6_bitCount_0f7a4 : MethodName := ⟨RJ6, "bitCount", "(I)I"⟩
def RJ9 : String := "java/lang/Math"
def TJ9 : u_T := fun k => match k with
  | _ => ("", "", "", false)
def tyJ9 : Nat → FieldType := fun k => match k with
  | _ => .int
theorem nmJ9 : ∀ a, a < 0 → ∀ b, b < 0 → a ≠ b → (TJ9 a).2.1 ≠ (TJ9 b).2.1 := by decide +kernel
theorem tyJ9_ok : ∀ k, k < 0 → parseFieldDescriptor (TJ9 k).2.2.1 = some (tyJ9 k) := by decide +kernel
abbrev cJ9_max_7cf53 : ByteArray := prog_16_method_65_code
def yJ9_max_7cf53 : MethodName := ⟨RJ9, "max", "(II)I"⟩
abbrev cJ9_max_f86c9 : ByteArray := prog_16_method_66_code
def yJ9_max_f86c9 : MethodName := ⟨RJ9, "max", "(JJ)J"⟩
abbrev cJ9_min_7cf53 : ByteArray := prog_16_method_69_code
def yJ9_min_7cf53 : MethodName := ⟨RJ9, "min", "(II)I"⟩
def RJ10 : String := "java/lang/System"
def TJ10 : u_T := fun k => match k with
  | _ => ("", "", "", false)
def tyJ10 : Nat → FieldType := fun k => match k with
  | _ => .int
theorem nmJ10 : ∀ a, a < 0 → ∀ b, b < 0 → a ≠ b → (TJ10 a).2.1 ≠ (TJ10 b).2.1 := by decide +kernel
theorem tyJ10_ok : ∀ k, k < 0 → parseFieldDescriptor (TJ10 k).2.2.1 = some (tyJ10 k) := by decide +kernel
def RL : String := "ApproverWinsLaw"
abbrev cL_law : ByteArray := code
def yL_law : MethodName := ⟨RL, "law", "([I)Z"⟩
abbrev vwCl : List vw_C := [(RX0, TX0, 10), (RX2, TX2, 3), (RX3, TX3, 1), (RX4, TX4, 3), (RX5, TX5, 11), (RX6, TX6, 4), (RX7, TX7, 3), (RX9, TX9, 3), (RX10, TX10, 2), (RX11, TX11, 12), (RX12, TX12, 27)]
end
section
def tb : List Cond := lw_tbl.filter goodWord
theorem tb_in {w : Cond} (h : w ∈ lw_tbl) (hg : goodWord w = true) : w ∈ tb := List.mem_filter.mpr ⟨h, hg⟩
theorem tb_out {w : Cond} (h : w ∈ tb) : w ∈ lw_tbl ∧ goodWord w = true := List.mem_filter.mp h
theorem tl_0 {w : Cond} (i : Nat) (h : (k2_sels lw_privs)[i]? = some w) (hg : goodWord w = true) : w ∈ tb := tb_in (List.mem_append_left _ (List.mem_of_getElem? h)) hg
theorem tl_1 {w : Cond} (i : Nat) (h : tables_1_1[i]? = some w) (hg : goodWord w = true) : w ∈ tb := tb_in (List.mem_append_right _ (List.mem_append_left _ (List.mem_of_getElem? h))) hg
theorem tm_1 {w : Cond} (i : Nat) (h : tables_1_1[i]? = some w) : w ∈ lw_tbl := List.mem_append_right _ (List.mem_append_left _ (List.mem_of_getElem? h))
theorem tl_2 {w : Cond} (i : Nat) (h : tables_1_2[i]? = some w) (hg : goodWord w = true) : w ∈ tb := tb_in (List.mem_append_right _ (List.mem_append_right _ (List.mem_append_left _ (List.mem_of_getElem? h)))) hg
theorem tm_2 {w : Cond} (i : Nat) (h : tables_1_2[i]? = some w) : w ∈ lw_tbl := List.mem_append_right _ (List.mem_append_right _ (List.mem_append_left _ (List.mem_of_getElem? h)))
theorem tl_3 {w : Cond} (i : Nat) (h : tables_1_3[i]? = some w) (hg : goodWord w = true) : w ∈ tb := tb_in (List.mem_append_right _ (List.mem_append_right _ (List.mem_append_right _ (List.mem_append_left _ (List.mem_of_getElem? h))))) hg
theorem tm_3 {w : Cond} (i : Nat) (h : tables_1_3[i]? = some w) : w ∈ lw_tbl := List.mem_append_right _ (List.mem_append_right _ (List.mem_append_right _ (List.mem_append_left _ (List.mem_of_getElem? h))))
theorem tl_4 {w : Cond} (i : Nat) (h : tables_1_4[i]? = some w) (hg : goodWord w = true) : w ∈ tb := tb_in (List.mem_append_right _ (List.mem_append_right _ (List.mem_append_right _ (List.mem_append_right _ (List.mem_append_left _ (List.mem_of_getElem? h)))))) hg
theorem tm_4 {w : Cond} (i : Nat) (h : tables_1_4[i]? = some w) : w ∈ lw_tbl := List.mem_append_right _ (List.mem_append_right _ (List.mem_append_right _ (List.mem_append_right _ (List.mem_append_left _ (List.mem_of_getElem? h)))))
theorem tl_5 {w : Cond} (i : Nat) (h : tables_1_5[i]? = some w) (hg : goodWord w = true) : w ∈ tb := tb_in (List.mem_append_right _ (List.mem_append_right _ (List.mem_append_right _ (List.mem_append_right _ (List.mem_append_right _ (List.mem_of_getElem? h)))))) hg
theorem tm_5 {w : Cond} (i : Nat) (h : tables_1_5[i]? = some w) : w ∈ lw_tbl := List.mem_append_right _ (List.mem_append_right _ (List.mem_append_right _ (List.mem_append_right _ (List.mem_append_right _ (List.mem_of_getElem? h)))))
def tyT : Nat → Nat → FieldType := fun c => match c with
  | 0 => tyX0
  | 1 => tyX2
  | 2 => tyX3
  | 3 => tyX4
  | 4 => tyX5
  | 5 => tyX6
  | 6 => tyX7
  | 7 => tyX9
  | 8 => tyX10
  | 9 => tyX11
  | _ => tyX12
theorem uw_0 : ∀ w ∈ u_ws RX0 TX0 10, w ∈ tb := by decide +kernel
theorem uw_1 : ∀ w ∈ u_ws RX2 TX2 3, w ∈ tb := by decide +kernel
theorem uw_2 : ∀ w ∈ u_ws RX3 TX3 1, w ∈ tb := by decide +kernel
theorem uw_3 : ∀ w ∈ u_ws RX4 TX4 3, w ∈ tb := by decide +kernel
theorem uw_4 : ∀ w ∈ u_ws RX5 TX5 11, w ∈ tb := by decide +kernel
theorem uw_5 : ∀ w ∈ u_ws RX6 TX6 4, w ∈ tb := by decide +kernel
theorem uw_6 : ∀ w ∈ u_ws RX7 TX7 3, w ∈ tb := by decide +kernel
theorem uw_7 : ∀ w ∈ u_ws RX9 TX9 3, w ∈ tb := by decide +kernel
theorem uw_8 : ∀ w ∈ u_ws RX10 TX10 2, w ∈ tb := by decide +kernel
theorem uw_9 : ∀ w ∈ u_ws RX11 TX11 12, w ∈ tb := by decide +kernel
theorem uw_10 : ∀ w ∈ u_ws RX12 TX12 27, w ∈ tb := by decide +kernel
theorem ck : ∀ (i : Nat) (C : String) (T : u_T) (N : Nat), vwCl[i]? = some (C, T, N) → (∀ w ∈ u_ws C T N, w ∈ tb) ∧ (∀ k, k < N → parseFieldDescriptor (T k).2.2.1 = some (tyT i k)) ∧ (∀ a, a < N → ∀ b, b < N → a ≠ b → (T a).2.1 ≠ (T b).2.1) := by
  intro i C T N h
  match i, h with
  | 0, h => cases h; exact ⟨uw_0, tyX0_ok, nmX0⟩
  | 1, h => cases h; exact ⟨uw_1, tyX2_ok, nmX2⟩
  | 2, h => cases h; exact ⟨uw_2, tyX3_ok, nmX3⟩
  | 3, h => cases h; exact ⟨uw_3, tyX4_ok, nmX4⟩
  | 4, h => cases h; exact ⟨uw_4, tyX5_ok, nmX5⟩
  | 5, h => cases h; exact ⟨uw_5, tyX6_ok, nmX6⟩
  | 6, h => cases h; exact ⟨uw_6, tyX7_ok, nmX7⟩
  | 7, h => cases h; exact ⟨uw_7, tyX9_ok, nmX9⟩
  | 8, h => cases h; exact ⟨uw_8, tyX10_ok, nmX10⟩
  | 9, h => cases h; exact ⟨uw_9, tyX11_ok, nmX11⟩
  | 10, h => cases h; exact ⟨uw_10, tyX12_ok, nmX12⟩
  | k + 11, h => simp [vwCl] at h
def FL (own : String) (idx ci k : Nat) : Prop := ∃ (C : String) (T : u_T) (N : Nat), vwCl[ci]? = some (C, T, N) ∧ k < N ∧ (T k).1 = C ∧ Cond.fieldLink own idx (T k).1 (T k).2.1 (T k).2.2.1 ∈ tb
abbrev MD : Type := MethodName × ByteArray × Nat × Option FieldType × Room
def rmK (k mc ms : Nat) : Room := { frames := k, cells := mc, slots := ms, locals := 42 * k }
abbrev wCode (M : MD) : Cond := .code M.1 M.2.1 M.2.2.1 M.2.2.2.1
def CB (M : MD) (n : Nat) : Prop := plainName M.1.cls = true ∧ (M.1.cls ≠ "java/lang/invoke/MethodHandle" ∧ M.1.cls ≠ "java/lang/invoke/VarHandle" ∧ (parseMethodDescriptor M.1.desc).map (fun d => d.parameters.length) = some n) ∧ wCode M ∈ tb ∧ Cond.initialized M.1.cls ∈ tb
def CS (M : MD) (n : Nat) : Prop := CB M n ∧ Cond.static M.1 ∈ tb
def CV (M : MD) (n : Nat) : Prop := CB M n ∧ Cond.instanceMethod M.1 ∈ tb ∧ Cond.selects M.1.cls M.1 M.1 ∈ tb
def CI (M : MD) (n : Nat) : Prop := CB M n ∧ Cond.instanceMethod M.1 ∈ tb ∧ M.1.name = "<init>"
theorem in_L : Cond.initialized RL ∈ tb := tl_1 0 rfl rfl
theorem in_X11 : Cond.initialized RX11 ∈ tb := tl_1 1 rfl rfl
theorem in_X10 : Cond.initialized RX10 ∈ tb := tl_1 2 rfl rfl
theorem in_J9 : Cond.initialized RJ9 ∈ tb := tl_1 3 rfl rfl
theorem in_X2 : Cond.initialized RX2 ∈ tb := tl_1 4 rfl rfl
theorem in_X4 : Cond.initialized RX4 ∈ tb := tl_1 5 rfl rfl
theorem in_X9 : Cond.initialized RX9 ∈ tb := tl_1 6 rfl rfl
theorem in_X0 : Cond.initialized RX0 ∈ tb := tl_1 7 rfl rfl
theorem in_X5 : Cond.initialized RX5 ∈ tb := tl_1 8 rfl rfl
theorem in_X7 : Cond.initialized RX7 ∈ tb := tl_1 9 rfl rfl
theorem in_X6 : Cond.initialized RX6 ∈ tb := tl_1 10 rfl rfl
theorem in_X12 : Cond.initialized RX12 ∈ tb := tl_1 11 rfl rfl
theorem in_X8 : Cond.initialized RX8 ∈ tb := tl_1 12 rfl rfl
theorem in_X1 : Cond.initialized RX1 ∈ tb := tl_1 13 rfl rfl
theorem in_J6 : Cond.initialized RJ6 ∈ tb := tl_1 14 rfl rfl
theorem in_X3 : Cond.initialized RX3 ∈ tb := tl_1 15 rfl rfl
theorem in_J10 : Cond.initialized RJ10 ∈ tb := tl_1 16 rfl rfl
theorem it_X11 : Cond.instantiable RX11 12 ∈ tb := tl_1 18 rfl rfl
theorem it_X10 : Cond.instantiable RX10 2 ∈ tb := tl_1 26 rfl rfl
theorem ac_int : Cond.arrayClass .int ∈ tb := tl_1 44 rfl rfl
theorem it_X2 : Cond.instantiable RX2 3 ∈ tb := tl_1 46 rfl rfl
theorem it_X4 : Cond.instantiable RX4 3 ∈ tb := tl_1 65 rfl rfl
theorem it_X9 : Cond.instantiable RX9 3 ∈ tb := tl_1 84 rfl rfl
theorem it_X0 : Cond.instantiable RX0 10 ∈ tb := tl_1 106 rfl rfl
theorem ac_long : Cond.arrayClass .long ∈ tb := tl_1 151 rfl rfl
theorem it_X5 : Cond.instantiable RX5 11 ∈ tb := tl_1 153 rfl rfl
theorem it_X7 : Cond.instantiable RX7 3 ∈ tb := tl_1 197 rfl rfl
theorem it_X6 : Cond.instantiable RX6 4 ∈ tb := tl_1 215 rfl rfl
theorem it_X3 : Cond.instantiable RX3 1 ∈ tb := tl_3 125 rfl rfl
theorem it_X12 : Cond.instantiable RX12 27 ∈ tb := tl_4 5 rfl rfl
theorem clL_7 : Cond.classLink RL 7 RX11 ∈ tb := tl_1 17 rfl rfl
theorem lL_9 : Cond.methodLink RL 9 yX11_init ∈ tb := tl_1 19 rfl rfl
theorem lX11_1 : Cond.methodLink RX11 1 objectInit ∈ tb := tl_1 22 rfl rfl
theorem clX11_7 : Cond.classLink RX11 7 RX10 ∈ tb := tl_1 25 rfl rfl
theorem lX11_11 : Cond.methodLink RX11 11 yX10_init ∈ tb := tl_1 27 rfl rfl
theorem lX10_3 : Cond.methodLink RX10 3 objectInit ∈ tb := tl_1 30 rfl rfl
theorem lX10_9 : Cond.methodLink RX10 9 yJ9_max_7cf53 ∈ tb := tl_1 31 rfl rfl
theorem fX10_15 : FL RX10 15 8 0 := ⟨_, _, _, rfl, by decide, rfl, tl_1 34 rfl rfl⟩
theorem fX10_21 : FL RX10 21 8 1 := ⟨_, _, _, rfl, by decide, rfl, tl_1 35 rfl rfl⟩
theorem fX4_19 : FL RX4 19 8 1 := ⟨_, _, _, rfl, by decide, rfl, tl_1 36 rfl rfl⟩
theorem fX2_23 : FL RX2 23 8 1 := ⟨_, _, _, rfl, by decide, rfl, tl_1 37 rfl rfl⟩
theorem fX11_106 : FL RX11 106 8 1 := ⟨_, _, _, rfl, by decide, rfl, tl_1 38 rfl rfl⟩
theorem clX11_21 : Cond.classLink RX11 21 RX2 ∈ tb := tl_1 45 rfl rfl
theorem lX11_23 : Cond.methodLinkNest RX11 23 yX2_init "ApproverWins" ∈ lw_tbl := tm_1 47 rfl
theorem lX2_3 : Cond.methodLink RX2 3 objectInit ∈ tb := tl_1 50 rfl rfl
theorem fX2_9 : FL RX2 9 1 0 := ⟨_, _, _, rfl, by decide, rfl, tl_1 51 rfl rfl⟩
theorem fX5_29 : FL RX5 29 1 1 := ⟨_, _, _, rfl, by decide, rfl, tl_1 52 rfl rfl⟩
theorem fX2_34 : FL RX2 34 1 1 := ⟨_, _, _, rfl, by decide, rfl, tl_1 53 rfl rfl⟩
theorem fX11_238 : FL RX11 238 1 1 := ⟨_, _, _, rfl, by decide, rfl, tl_1 54 rfl rfl⟩
theorem fX2_15 : FL RX2 15 1 2 := ⟨_, _, _, rfl, by decide, rfl, tl_1 55 rfl rfl⟩
theorem fX11_109 : FL RX11 109 1 2 := ⟨_, _, _, rfl, by decide, rfl, tl_1 56 rfl rfl⟩
theorem clX11_28 : Cond.classLink RX11 28 RX4 ∈ tb := tl_1 64 rfl rfl
theorem lX11_30 : Cond.methodLinkNest RX11 30 yX4_init "ApproverWins" ∈ lw_tbl := tm_1 66 rfl
theorem lX4_3 : Cond.methodLink RX4 3 objectInit ∈ tb := tl_1 69 rfl rfl
theorem fX4_9 : FL RX4 9 3 0 := ⟨_, _, _, rfl, by decide, rfl, tl_1 70 rfl rfl⟩
theorem fX4_30 : FL RX4 30 3 1 := ⟨_, _, _, rfl, by decide, rfl, tl_1 71 rfl rfl⟩
theorem fX0_49 : FL RX0 49 3 1 := ⟨_, _, _, rfl, by decide, rfl, tl_1 72 rfl rfl⟩
theorem fX11_134 : FL RX11 134 3 1 := ⟨_, _, _, rfl, by decide, rfl, tl_1 73 rfl rfl⟩
theorem fX4_15 : FL RX4 15 3 2 := ⟨_, _, _, rfl, by decide, rfl, tl_1 74 rfl rfl⟩
theorem fX11_112 : FL RX11 112 3 2 := ⟨_, _, _, rfl, by decide, rfl, tl_1 75 rfl rfl⟩
theorem clX11_35 : Cond.classLink RX11 35 RX9 ∈ tb := tl_1 83 rfl rfl
theorem lX11_37 : Cond.methodLinkNest RX11 37 yX9_init "ApproverWins" ∈ lw_tbl := tm_1 85 rfl
theorem lX9_3 : Cond.methodLink RX9 3 objectInit ∈ tb := tl_1 88 rfl rfl
theorem fX9_9 : FL RX9 9 7 0 := ⟨_, _, _, rfl, by decide, rfl, tl_1 89 rfl rfl⟩
theorem fX11_77 : FL RX11 77 7 0 := ⟨_, _, _, rfl, by decide, rfl, tl_1 90 rfl rfl⟩
theorem fX5_44 : FL RX5 44 7 0 := ⟨_, _, _, rfl, by decide, rfl, tl_1 91 rfl rfl⟩
theorem fX9_15 : FL RX9 15 7 1 := ⟨_, _, _, rfl, by decide, rfl, tl_1 92 rfl rfl⟩
theorem fX11_81 : FL RX11 81 7 1 := ⟨_, _, _, rfl, by decide, rfl, tl_1 93 rfl rfl⟩
theorem fX5_55 : FL RX5 55 7 1 := ⟨_, _, _, rfl, by decide, rfl, tl_1 94 rfl rfl⟩
theorem fX9_18 : FL RX9 18 7 2 := ⟨_, _, _, rfl, by decide, rfl, tl_1 95 rfl rfl⟩
theorem fX5_64 : FL RX5 64 7 2 := ⟨_, _, _, rfl, by decide, rfl, tl_1 96 rfl rfl⟩
theorem fX11_201 : FL RX11 201 7 2 := ⟨_, _, _, rfl, by decide, rfl, tl_1 97 rfl rfl⟩
theorem clX11_42 : Cond.classLink RX11 42 RX0 ∈ tb := tl_1 105 rfl rfl
theorem lX11_44 : Cond.methodLinkNest RX11 44 yX0_init "ApproverWins" ∈ lw_tbl := tm_1 107 rfl
theorem lX0_3 : Cond.methodLink RX0 3 objectInit ∈ tb := tl_1 110 rfl rfl
theorem fX0_9 : FL RX0 9 0 0 := ⟨_, _, _, rfl, by decide, rfl, tl_1 111 rfl rfl⟩
theorem fX11_138 : FL RX11 138 0 0 := ⟨_, _, _, rfl, by decide, rfl, tl_1 112 rfl rfl⟩
theorem fX0_15 : FL RX0 15 0 1 := ⟨_, _, _, rfl, by decide, rfl, tl_1 113 rfl rfl⟩
theorem fX11_141 : FL RX11 141 0 1 := ⟨_, _, _, rfl, by decide, rfl, tl_1 114 rfl rfl⟩
theorem fX0_18 : FL RX0 18 0 2 := ⟨_, _, _, rfl, by decide, rfl, tl_1 115 rfl rfl⟩
theorem fX11_147 : FL RX11 147 0 2 := ⟨_, _, _, rfl, by decide, rfl, tl_1 116 rfl rfl⟩
theorem fX0_21 : FL RX0 21 0 3 := ⟨_, _, _, rfl, by decide, rfl, tl_1 117 rfl rfl⟩
theorem fX11_149 : FL RX11 149 0 3 := ⟨_, _, _, rfl, by decide, rfl, tl_1 118 rfl rfl⟩
theorem fX0_24 : FL RX0 24 0 4 := ⟨_, _, _, rfl, by decide, rfl, tl_1 119 rfl rfl⟩
theorem fX11_156 : FL RX11 156 0 4 := ⟨_, _, _, rfl, by decide, rfl, tl_1 120 rfl rfl⟩
theorem fX0_28 : FL RX0 28 0 5 := ⟨_, _, _, rfl, by decide, rfl, tl_1 121 rfl rfl⟩
theorem fX11_249 : FL RX11 249 0 5 := ⟨_, _, _, rfl, by decide, rfl, tl_1 122 rfl rfl⟩
theorem fX0_31 : FL RX0 31 0 6 := ⟨_, _, _, rfl, by decide, rfl, tl_1 123 rfl rfl⟩
theorem fX0_34 : FL RX0 34 0 7 := ⟨_, _, _, rfl, by decide, rfl, tl_1 124 rfl rfl⟩
theorem fX11_252 : FL RX11 252 0 7 := ⟨_, _, _, rfl, by decide, rfl, tl_1 125 rfl rfl⟩
theorem fX0_38 : FL RX0 38 0 8 := ⟨_, _, _, rfl, by decide, rfl, tl_1 126 rfl rfl⟩
theorem fX11_170 : FL RX11 170 0 8 := ⟨_, _, _, rfl, by decide, rfl, tl_1 127 rfl rfl⟩
theorem fX0_41 : FL RX0 41 0 9 := ⟨_, _, _, rfl, by decide, rfl, tl_1 128 rfl rfl⟩
theorem fX11_173 : FL RX11 173 0 9 := ⟨_, _, _, rfl, by decide, rfl, tl_1 129 rfl rfl⟩
theorem clX11_52 : Cond.classLink RX11 52 RX5 ∈ tb := tl_1 152 rfl rfl
theorem lX11_54 : Cond.methodLinkNest RX11 54 yX5_init "ApproverWins" ∈ lw_tbl := tm_1 154 rfl
theorem lX5_3 : Cond.methodLink RX5 3 objectInit ∈ tb := tl_1 157 rfl rfl
theorem fX5_11 : FL RX5 11 4 0 := ⟨_, _, _, rfl, by decide, rfl, tl_1 158 rfl rfl⟩
theorem fX5_15 : FL RX5 15 4 1 := ⟨_, _, _, rfl, by decide, rfl, tl_1 159 rfl rfl⟩
theorem fX5_19 : FL RX5 19 4 2 := ⟨_, _, _, rfl, by decide, rfl, tl_1 160 rfl rfl⟩
theorem fX5_22 : FL RX5 22 4 3 := ⟨_, _, _, rfl, by decide, rfl, tl_1 161 rfl rfl⟩
theorem fX11_191 : FL RX11 191 4 3 := ⟨_, _, _, rfl, by decide, rfl, tl_1 162 rfl rfl⟩
theorem fX5_41 : FL RX5 41 4 4 := ⟨_, _, _, rfl, by decide, rfl, tl_1 163 rfl rfl⟩
theorem fX5_61 : FL RX5 61 4 5 := ⟨_, _, _, rfl, by decide, rfl, tl_1 164 rfl rfl⟩
theorem fX5_52 : FL RX5 52 4 6 := ⟨_, _, _, rfl, by decide, rfl, tl_1 165 rfl rfl⟩
theorem fX5_58 : FL RX5 58 4 7 := ⟨_, _, _, rfl, by decide, rfl, tl_1 166 rfl rfl⟩
theorem fX5_84 : FL RX5 84 4 8 := ⟨_, _, _, rfl, by decide, rfl, tl_1 167 rfl rfl⟩
theorem fX11_188 : FL RX11 188 4 8 := ⟨_, _, _, rfl, by decide, rfl, tl_1 168 rfl rfl⟩
theorem fX5_80 : FL RX5 80 4 9 := ⟨_, _, _, rfl, by decide, rfl, tl_1 169 rfl rfl⟩
theorem fX11_194 : FL RX11 194 4 9 := ⟨_, _, _, rfl, by decide, rfl, tl_1 170 rfl rfl⟩
theorem fX5_25 : FL RX5 25 4 10 := ⟨_, _, _, rfl, by decide, rfl, tl_1 171 rfl rfl⟩
theorem fX11_378 : FL RX11 378 4 10 := ⟨_, _, _, rfl, by decide, rfl, tl_1 172 rfl rfl⟩
theorem clX11_59 : Cond.classLink RX11 59 RX7 ∈ tb := tl_1 196 rfl rfl
theorem lX11_61 : Cond.methodLinkNest RX11 61 yX7_init "ApproverWins" ∈ lw_tbl := tm_1 198 rfl
theorem lX7_3 : Cond.methodLink RX7 3 objectInit ∈ tb := tl_1 201 rfl rfl
theorem fX7_9 : FL RX7 9 6 0 := ⟨_, _, _, rfl, by decide, rfl, tl_1 202 rfl rfl⟩
theorem fX7_15 : FL RX7 15 6 1 := ⟨_, _, _, rfl, by decide, rfl, tl_1 203 rfl rfl⟩
theorem fX7_18 : FL RX7 18 6 2 := ⟨_, _, _, rfl, by decide, rfl, tl_1 204 rfl rfl⟩
theorem fX11_215 : FL RX11 215 6 2 := ⟨_, _, _, rfl, by decide, rfl, tl_1 205 rfl rfl⟩
theorem clX11_66 : Cond.classLink RX11 66 RX6 ∈ tb := tl_1 213 rfl rfl
theorem lX11_76 : Cond.methodLinkNest RX11 76 yX6_init "ApproverWins" ∈ lw_tbl := tm_1 216 rfl
theorem lX6_3 : Cond.methodLink RX6 3 objectInit ∈ tb := tl_1 219 rfl rfl
theorem fX6_9 : FL RX6 9 5 0 := ⟨_, _, _, rfl, by decide, rfl, tl_1 220 rfl rfl⟩
theorem fX11_227 : FL RX11 227 5 0 := ⟨_, _, _, rfl, by decide, rfl, tl_1 221 rfl rfl⟩
theorem fX6_15 : FL RX6 15 5 1 := ⟨_, _, _, rfl, by decide, rfl, tl_1 222 rfl rfl⟩
theorem fX11_219 : FL RX11 219 5 1 := ⟨_, _, _, rfl, by decide, rfl, tl_1 223 rfl rfl⟩
theorem fX6_19 : FL RX6 19 5 2 := ⟨_, _, _, rfl, by decide, rfl, tl_1 224 rfl rfl⟩
theorem fX11_272 : FL RX11 272 5 2 := ⟨_, _, _, rfl, by decide, rfl, tl_1 225 rfl rfl⟩
theorem fX6_32 : FL RX6 32 5 3 := ⟨_, _, _, rfl, by decide, rfl, tl_1 226 rfl rfl⟩
theorem fX11_226 : FL RX11 226 5 3 := ⟨_, _, _, rfl, by decide, rfl, tl_1 227 rfl rfl⟩
theorem lX11_84 : Cond.methodLink RX11 84 yX0_setOut ∈ tb := tl_1 237 rfl rfl
theorem fX11_14 : FL RX11 14 9 0 := ⟨_, _, _, rfl, by decide, rfl, tl_2 1 rfl rfl⟩
theorem fX11_18 : FL RX11 18 9 1 := ⟨_, _, _, rfl, by decide, rfl, tl_2 2 rfl rfl⟩
theorem fX11_24 : FL RX11 24 9 2 := ⟨_, _, _, rfl, by decide, rfl, tl_2 3 rfl rfl⟩
theorem fX11_31 : FL RX11 31 9 3 := ⟨_, _, _, rfl, by decide, rfl, tl_2 4 rfl rfl⟩
theorem fX11_38 : FL RX11 38 9 4 := ⟨_, _, _, rfl, by decide, rfl, tl_2 5 rfl rfl⟩
theorem fX11_45 : FL RX11 45 9 5 := ⟨_, _, _, rfl, by decide, rfl, tl_2 6 rfl rfl⟩
theorem fX11_49 : FL RX11 49 9 6 := ⟨_, _, _, rfl, by decide, rfl, tl_2 7 rfl rfl⟩
theorem fX11_55 : FL RX11 55 9 7 := ⟨_, _, _, rfl, by decide, rfl, tl_2 8 rfl rfl⟩
theorem fX11_62 : FL RX11 62 9 8 := ⟨_, _, _, rfl, by decide, rfl, tl_2 9 rfl rfl⟩
theorem fX11_68 : FL RX11 68 9 9 := ⟨_, _, _, rfl, by decide, rfl, tl_2 10 rfl rfl⟩
theorem fX11_72 : FL RX11 72 9 10 := ⟨_, _, _, rfl, by decide, rfl, tl_2 11 rfl rfl⟩
theorem fX11_269 : FL RX11 269 9 11 := ⟨_, _, _, rfl, by decide, rfl, tl_2 12 rfl rfl⟩
theorem lL_13 : Cond.methodLink RL 13 yX11_type ∈ tb := tl_2 38 rfl rfl
theorem lX11_88 : Cond.methodLink RX11 88 yX11_isText ∈ tb := tl_2 42 rfl rfl
theorem lX11_92 : Cond.methodLink RX11 92 yX11_textOf ∈ tb := tl_2 45 rfl rfl
theorem lX11_96 : Cond.methodLink RX11 96 yX10_isFull ∈ tb := tl_2 49 rfl rfl
theorem lX11_100 : Cond.methodLink RX11 100 yX10_push ∈ tb := tl_2 53 rfl rfl
theorem lX11_103 : Cond.methodLink RX11 103 yX11_readAnew ∈ tb := tl_2 57 rfl rfl
theorem lX11_373 : Cond.methodLink RX11 373 yX2_parse ∈ tb := tl_2 61 rfl rfl
theorem lX2_19 : Cond.methodLink RX2 19 yX2_placeOfFault ∈ tb := tl_2 65 rfl rfl
theorem lX2_35 : Cond.methodLink RX2 35 yX10_byteAt ∈ tb := tl_2 68 rfl rfl
theorem lX2_42 : Cond.methodLink RX2 42 yX2_fits ∈ tb := tl_2 72 rfl rfl
theorem lX2_39 : Cond.methodLink RX2 39 yX2_kindOf ∈ tb := tl_2 75 rfl rfl
theorem lX2_28 : Cond.methodLink RX2 28 yJ9_min_7cf53 ∈ tb := tl_2 78 rfl rfl
theorem lX11_377 : Cond.methodLink RX11 377 yX4_parse ∈ tb := tl_2 81 rfl rfl
theorem lX4_24 : Cond.methodLink RX4 24 yJ9_min_7cf53 ∈ tb := tl_2 85 rfl rfl
theorem lX4_31 : Cond.methodLink RX4 31 yX10_byteAt ∈ tb := tl_2 86 rfl rfl
theorem lX11_131 : Cond.methodLink RX11 131 yX11_reckonAnew ∈ tb := tl_2 87 rfl rfl
theorem lX11_204 : Cond.methodLink RX11 204 yX0_walk ∈ tb := tl_2 91 rfl rfl
theorem lX0_45 : Cond.methodLink RX0 45 yX0_setOut ∈ tb := tl_2 95 rfl rfl
theorem lX0_54 : Cond.methodLink RX0 54 yX4_whoAt ∈ tb := tl_2 96 rfl rfl
theorem lX0_58 : Cond.methodLink RX0 58 yX2_has ∈ tb := tl_2 100 rfl rfl
theorem lX0_64 : Cond.methodLink RX0 64 yX0_fateOf ∈ tb := tl_2 104 rfl rfl
theorem lX0_67 : Cond.methodLink RX0 67 yX2_answerOf ∈ tb := tl_2 108 rfl rfl
theorem lX2_50 : Cond.methodLink RX2 50 yX2_part ∈ tb := tl_2 112 rfl rfl
theorem lX0_71 : Cond.methodLink RX0 71 yX0_markFate ∈ tb := tl_2 116 rfl rfl
theorem lX0_74 : Cond.methodLink RX0 74 yX2_part ∈ tb := tl_2 120 rfl rfl
theorem lX0_77 : Cond.methodLink RX0 77 yX0_stepBehind ∈ tb := tl_2 121 rfl rfl
theorem lX0_81 : Cond.methodLink RX0 81 yX8_sixteenths ∈ tb := tl_2 125 rfl rfl
theorem lX8_11 : Cond.methodLink RX8 11 yJ9_min_7cf53 ∈ tb := tl_2 128 rfl rfl
theorem lX8_17 : Cond.methodLink RX8 17 yJ9_max_7cf53 ∈ tb := tl_2 129 rfl rfl
theorem lX0_86 : Cond.methodLink RX0 86 yX8_strongBehind ∈ tb := tl_2 130 rfl rfl
theorem lX0_89 : Cond.methodLink RX0 89 yX8_isWin ∈ tb := tl_2 133 rfl rfl
theorem lL_18 : Cond.methodLink RL 18 yX11_wipe ∈ tb := tl_2 136 rfl rfl
theorem lL_23 : Cond.methodLink RL 23 yX11_undo ∈ tb := tl_2 140 rfl rfl
theorem lL_27 : Cond.methodLink RL 27 yX11_fault ∈ tb := tl_2 144 rfl rfl
theorem lL_31 : Cond.methodLink RL 31 yX11_felon ∈ tb := tl_2 148 rfl rfl
theorem lX11_113 : Cond.methodLink RX11 113 yX2_has ∈ tb := tl_2 152 rfl rfl
theorem lX11_116 : Cond.methodLink RX11 116 yX2_part ∈ tb := tl_2 153 rfl rfl
theorem lL_35 : Cond.methodLink RL 35 yX11_name ∈ tb := tl_2 154 rfl rfl
theorem lX11_120 : Cond.methodLink RX11 120 yX4_whoAt ∈ tb := tl_2 158 rfl rfl
theorem lL_39 : Cond.methodLink RL 39 yX11_set ∈ tb := tl_2 159 rfl rfl
theorem lX11_124 : Cond.methodLink RX11 124 yX9_allows ∈ tb := tl_2 163 rfl rfl
theorem lX11_128 : Cond.methodLink RX11 128 yX9_change ∈ tb := tl_2 166 rfl rfl
theorem lL_43 : Cond.methodLink RL 43 yX11_comes ∈ tb := tl_2 170 rfl rfl
theorem lX11_135 : Cond.methodLink RX11 135 yX11_isEither ∈ tb := tl_2 174 rfl rfl
theorem lL_47 : Cond.methodLink RL 47 yX11_behind ∈ tb := tl_2 177 rfl rfl
theorem lX11_144 : Cond.methodLink RX11 144 yX11_isNumberOfNames ∈ tb := tl_2 181 rfl rfl
theorem lL_51 : Cond.methodLink RL 51 yX11_alive ∈ tb := tl_2 185 rfl rfl
theorem lX11_152 : Cond.methodLink RX11 152 yX11_longRefusal ∈ tb := tl_2 189 rfl rfl
theorem kX11_371 : Cond.constantLong RX11 371 (-9223372036854775808) ∈ tb := tl_2 192 rfl rfl
theorem lX11_162 : Cond.methodLink RX11 162 yX1_told ∈ tb := tl_2 193 rfl rfl
theorem lL_56 : Cond.methodLink RL 56 yX11_lives ∈ tb := tl_2 196 rfl rfl
theorem lX11_166 : Cond.methodLink RX11 166 yX0_livesAbove ∈ tb := tl_2 200 rfl rfl
theorem lX0_94 : Cond.methodLink RX0 94 yX0_hasAllWins ∈ tb := tl_2 204 rfl rfl
theorem lL_61 : Cond.methodLink RL 61 yX11_harm ∈ tb := tl_2 208 rfl rfl
theorem lL_65 : Cond.methodLink RL 65 yX11_worst ∈ tb := tl_2 212 rfl rfl
theorem lX11_177 : Cond.methodLink RX11 177 yX0_fewestSixteenths ∈ tb := tl_2 216 rfl rfl
theorem lL_70 : Cond.methodLink RL 70 yX11_fate ∈ tb := tl_2 220 rfl rfl
theorem lX11_181 : Cond.methodLink RX11 181 yX0_fateOf ∈ tb := tl_2 224 rfl rfl
theorem lL_74 : Cond.methodLink RL 74 yX11_order ∈ tb := tl_2 225 rfl rfl
theorem lX11_184 : Cond.methodLink RX11 184 yX5_makeOnce ∈ tb := tl_2 229 rfl rfl
theorem lX5_35 : Cond.methodLink RX5 35 yJ9_min_7cf53 ∈ tb := tl_2 233 rfl rfl
theorem lX5_49 : Cond.methodLink RX5 49 yJ9_max_7cf53 ∈ tb := tl_2 234 rfl rfl
theorem lX5_67 : Cond.methodLink RX5 67 yX2_answerOf ∈ tb := tl_2 235 rfl rfl
theorem lX5_70 : Cond.methodLink RX5 70 yX2_part ∈ tb := tl_2 236 rfl rfl
theorem lX5_73 : Cond.methodLink RX5 73 yX5_prepare ∈ tb := tl_2 237 rfl rfl
theorem lX5_90 : Cond.methodLink RX5 90 yX8_isWin ∈ tb := tl_3 1 rfl rfl
theorem lX5_96 : Cond.methodLink RX5 96 yX8_sixteenths ∈ tb := tl_3 2 rfl rfl
theorem lX5_100 : Cond.methodLink RX5 100 yX8_strongBehind ∈ tb := tl_3 3 rfl rfl
theorem lX5_77 : Cond.methodLink RX5 77 yX5_fillValues ∈ tb := tl_3 4 rfl rfl
theorem lX5_108 : Cond.methodLink RX5 108 yX5_winsOf ∈ tb := tl_3 8 rfl rfl
theorem lX5_102 : Cond.methodLink RX5 102 yJ6_bitCount_0f7a4 ∈ tb := tl_3 12 rfl rfl
theorem kJ6_265 : Cond.constant RJ6 265 (1431655765) ∈ tb := tl_3 15 rfl rfl
theorem kJ6_266 : Cond.constant RJ6 266 (858993459) ∈ tb := tl_3 16 rfl rfl
theorem kJ6_267 : Cond.constant RJ6 267 (252645135) ∈ tb := tl_3 17 rfl rfl
theorem lX5_111 : Cond.methodLink RX5 111 yX5_mostBehind ∈ tb := tl_3 18 rfl rfl
theorem lX5_115 : Cond.methodLink RX5 115 yX5_valueIfNext ∈ tb := tl_3 22 rfl rfl
theorem lX5_119 : Cond.methodLink RX5 119 yJ9_max_f86c9 ∈ tb := tl_3 26 rfl rfl
theorem lX5_87 : Cond.methodLink RX5 87 yX5_layRow ∈ tb := tl_3 29 rfl rfl
theorem lX5_122 : Cond.methodLink RX5 122 yX5_leastNext ∈ tb := tl_3 33 rfl rfl
theorem lL_78 : Cond.methodLink RL 78 yX11_best ∈ tb := tl_3 37 rfl rfl
theorem lL_82 : Cond.methodLink RL 82 yX11_price ∈ tb := tl_3 41 rfl rfl
theorem kX11_196 : Cond.constantLong RX11 196 (-1) ∈ tb := tl_3 45 rfl rfl
theorem lX11_198 : Cond.methodLink RX11 198 yX11_tryBribe ∈ tb := tl_3 46 rfl rfl
theorem lL_86 : Cond.methodLink RL 86 yX11_rule ∈ tb := tl_3 50 rfl rfl
theorem kX11_208 : Cond.constantLong RX11 208 (16) ∈ tb := tl_3 54 rfl rfl
theorem lL_90 : Cond.methodLink RL 90 yX11_chain ∈ tb := tl_3 55 rfl rfl
theorem lL_94 : Cond.methodLink RL 94 yX11_seen ∈ tb := tl_3 59 rfl rfl
theorem lX11_210 : Cond.methodLink RX11 210 yX7_allows ∈ tb := tl_3 63 rfl rfl
theorem lX11_211 : Cond.methodLink RX11 211 yX7_isFull ∈ tb := tl_3 66 rfl rfl
theorem lX11_212 : Cond.methodLink RX11 212 yX7_add ∈ tb := tl_3 70 rfl rfl
theorem lL_98 : Cond.methodLink RL 98 yX11_forget ∈ tb := tl_3 74 rfl rfl
theorem lL_102 : Cond.methodLink RL 102 yX11_read ∈ tb := tl_3 78 rfl rfl
theorem lX11_216 : Cond.methodLink RX11 216 yX11_isSheet ∈ tb := tl_3 82 rfl rfl
theorem lX11_223 : Cond.methodLink RX11 223 yX11_finding ∈ tb := tl_3 85 rfl rfl
theorem lL_106 : Cond.methodLink RL 106 yX11_bribes ∈ tb := tl_3 89 rfl rfl
theorem lX11_228 : Cond.methodLink RX11 228 yX7_comeOutBy ∈ tb := tl_3 93 rfl rfl
theorem lX7_22 : Cond.methodLink RX7 22 yX0_fateOf ∈ tb := tl_3 97 rfl rfl
theorem lL_110 : Cond.methodLink RL 110 yX11_kinds ∈ tb := tl_3 98 rfl rfl
theorem lX11_232 : Cond.methodLink RX11 232 yX2_putKind ∈ tb := tl_3 102 rfl rfl
theorem lX2_46 : Cond.methodLink RX2 46 yX2_has ∈ tb := tl_3 106 rfl rfl
theorem lL_114 : Cond.methodLink RL 114 yX11_ask ∈ tb := tl_3 107 rfl rfl
theorem lX11_235 : Cond.methodLink RX11 235 yX11_tallyFates ∈ tb := tl_3 111 rfl rfl
theorem lX11_239 : Cond.methodLink RX11 239 yX11_mostAlike ∈ tb := tl_3 115 rfl rfl
theorem lX11_381 : Cond.methodLink RX11 381 yJ9_max_7cf53 ∈ tb := tl_3 119 rfl rfl
theorem lL_118 : Cond.methodLink RL 118 yX11_gaols ∈ tb := tl_3 120 rfl rfl
theorem clX11_242 : Cond.classLink RX11 242 RX3 ∈ tb := tl_3 124 rfl rfl
theorem lX11_244 : Cond.methodLink RX11 244 yX3_init ∈ tb := tl_3 126 rfl rfl
theorem lX3_1 : Cond.methodLink RX3 1 objectInit ∈ tb := tl_3 129 rfl rfl
theorem fX3_7 : FL RX3 7 2 0 := ⟨_, _, _, rfl, by decide, rfl, tl_3 130 rfl rfl⟩
theorem lX11_245 : Cond.methodLink RX11 245 yX0_playTill ∈ tb := tl_3 134 rfl rfl
theorem lX0_98 : Cond.methodLink RX0 98 yX3_draw ∈ tb := tl_3 138 rfl rfl
theorem kX3_13 : Cond.constant RX3 13 (1103515245) ∈ tb := tl_3 142 rfl rfl
theorem lX11_253 : Cond.methodLink RX11 253 yX0_hasAllWins ∈ tb := tl_3 143 rfl rfl
theorem lL_123 : Cond.methodLink RL 123 yX11_sheet ∈ tb := tl_3 144 rfl rfl
theorem lX11_256 : Cond.methodLink RX11 256 yX11_isForm ∈ tb := tl_3 148 rfl rfl
theorem lX11_259 : Cond.methodLink RX11 259 yX6_renew ∈ tb := tl_3 151 rfl rfl
theorem lX6_23 : Cond.methodLink RX6 23 yJ9_min_7cf53 ∈ tb := tl_3 155 rfl rfl
theorem lX6_29 : Cond.methodLink RX6 29 yJ9_max_7cf53 ∈ tb := tl_3 156 rfl rfl
theorem lL_127 : Cond.methodLink RL 127 yX11_lose ∈ tb := tl_3 157 rfl rfl
theorem lL_131 : Cond.methodLink RL 131 yX11_lay ∈ tb := tl_3 161 rfl rfl
theorem lX11_262 : Cond.methodLink RX11 262 yX6_findingAt ∈ tb := tl_3 165 rfl rfl
theorem lX11_265 : Cond.methodLink RX11 265 yX6_put ∈ tb := tl_3 169 rfl rfl
theorem lL_136 : Cond.methodLink RL 136 yX11_get ∈ tb := tl_3 173 rfl rfl
theorem kX11_268 : Cond.constant RX11 268 (-2147483648) ∈ tb := tl_3 177 rfl rfl
theorem lL_140 : Cond.methodLink RL 140 yX11_copy ∈ tb := tl_3 178 rfl rfl
theorem lX11_275 : Cond.methodLink RX11 275 yX6_hasStretch ∈ tb := tl_3 182 rfl rfl
theorem lX11_278 : Cond.methodLink RX11 278 arraycopyName ∈ tb := tl_3 186 rfl rfl
theorem lL_145 : Cond.methodLink RL 145 yX11_write ∈ tb := tl_3 189 rfl rfl
theorem lX11_284 : Cond.methodLink RX11 284 yJ9_min_7cf53 ∈ tb := tl_3 193 rfl rfl
theorem lL_149 : Cond.methodLink RL 149 yX11_count ∈ tb := tl_3 194 rfl rfl
theorem lX11_289 : Cond.methodLink RX11 289 yX0_numberOfFights ∈ tb := tl_3 198 rfl rfl
theorem lX11_292 : Cond.methodLink RX11 292 yX0_numberNotVoid ∈ tb := tl_3 202 rfl rfl
theorem lL_153 : Cond.methodLink RL 153 yX11_digest ∈ tb := tl_3 206 rfl rfl
theorem kX11_295 : Cond.constantLong RX11 295 (17) ∈ tb := tl_3 210 rfl rfl
theorem kX11_297 : Cond.constantLong RX11 297 (31) ∈ tb := tl_3 211 rfl rfl
theorem lX11_299 : Cond.methodLink RX11 299 yX11_count ∈ tb := tl_3 212 rfl rfl
theorem lX11_302 : Cond.methodLink RX11 302 yX11_fault ∈ tb := tl_3 213 rfl rfl
theorem lX11_305 : Cond.methodLink RX11 305 yX11_digestOfFelons ∈ tb := tl_3 214 rfl rfl
theorem lX11_325 : Cond.methodLink RX11 325 yX11_felon ∈ tb := tl_3 218 rfl rfl
theorem lX11_328 : Cond.methodLink RX11 328 yX11_fate ∈ tb := tl_3 219 rfl rfl
theorem lX11_331 : Cond.methodLink RX11 331 yX11_chain ∈ tb := tl_3 220 rfl rfl
theorem lX11_334 : Cond.methodLink RX11 334 yX11_kinds ∈ tb := tl_3 221 rfl rfl
theorem lX11_309 : Cond.methodLink RX11 309 yX11_digestOfNames ∈ tb := tl_3 222 rfl rfl
theorem lX11_337 : Cond.methodLink RX11 337 yX11_name ∈ tb := tl_3 226 rfl rfl
theorem lX11_340 : Cond.methodLink RX11 340 yX11_comes ∈ tb := tl_3 227 rfl rfl
theorem lX11_343 : Cond.methodLink RX11 343 yX11_behind ∈ tb := tl_3 228 rfl rfl
theorem lX11_346 : Cond.methodLink RX11 346 yX11_alive ∈ tb := tl_3 229 rfl rfl
theorem lX11_312 : Cond.methodLink RX11 312 yX11_digestOfPlans ∈ tb := tl_3 230 rfl rfl
theorem lX11_350 : Cond.methodLink RX11 350 yX11_lives ∈ tb := tl_3 234 rfl rfl
theorem lX11_353 : Cond.methodLink RX11 353 yX11_harm ∈ tb := tl_3 235 rfl rfl
theorem lX11_356 : Cond.methodLink RX11 356 yX11_worst ∈ tb := tl_3 236 rfl rfl
theorem lX11_359 : Cond.methodLink RX11 359 yX11_order ∈ tb := tl_3 237 rfl rfl
theorem lX11_362 : Cond.methodLink RX11 362 yX11_best ∈ tb := tl_3 238 rfl rfl
theorem lX11_365 : Cond.methodLink RX11 365 yX11_price ∈ tb := tl_3 239 rfl rfl
theorem lX11_368 : Cond.methodLink RX11 368 yX11_rule ∈ tb := tl_4 0 rfl rfl
theorem lX11_315 : Cond.methodLink RX11 315 yX11_bribes ∈ tb := tl_4 1 rfl rfl
theorem lX11_318 : Cond.methodLink RX11 318 yX11_ask ∈ tb := tl_4 2 rfl rfl
theorem lX11_321 : Cond.methodLink RX11 321 yX11_gaols ∈ tb := tl_4 3 rfl rfl
theorem clL_10 : Cond.classLink RL 10 RX12 ∈ tb := tl_4 4 rfl rfl
theorem lL_12 : Cond.methodLink RL 12 yX12_init ∈ tb := tl_4 6 rfl rfl
theorem lX12_1 : Cond.methodLink RX12 1 objectInit ∈ tb := tl_4 9 rfl rfl
theorem fX12_7 : FL RX12 7 10 0 := ⟨_, _, _, rfl, by decide, rfl, tl_4 10 rfl rfl⟩
theorem fX12_13 : FL RX12 13 10 1 := ⟨_, _, _, rfl, by decide, rfl, tl_4 11 rfl rfl⟩
theorem fX12_16 : FL RX12 16 10 2 := ⟨_, _, _, rfl, by decide, rfl, tl_4 12 rfl rfl⟩
theorem fX12_19 : FL RX12 19 10 3 := ⟨_, _, _, rfl, by decide, rfl, tl_4 13 rfl rfl⟩
theorem fX12_77 : FL RX12 77 10 4 := ⟨_, _, _, rfl, by decide, rfl, tl_4 14 rfl rfl⟩
theorem fX12_22 : FL RX12 22 10 5 := ⟨_, _, _, rfl, by decide, rfl, tl_4 15 rfl rfl⟩
theorem fX12_25 : FL RX12 25 10 6 := ⟨_, _, _, rfl, by decide, rfl, tl_4 16 rfl rfl⟩
theorem fX12_112 : FL RX12 112 10 7 := ⟨_, _, _, rfl, by decide, rfl, tl_4 17 rfl rfl⟩
theorem fX12_28 : FL RX12 28 10 8 := ⟨_, _, _, rfl, by decide, rfl, tl_4 18 rfl rfl⟩
theorem fX12_118 : FL RX12 118 10 9 := ⟨_, _, _, rfl, by decide, rfl, tl_4 19 rfl rfl⟩
theorem fX12_31 : FL RX12 31 10 10 := ⟨_, _, _, rfl, by decide, rfl, tl_4 20 rfl rfl⟩
theorem fX12_34 : FL RX12 34 10 11 := ⟨_, _, _, rfl, by decide, rfl, tl_4 21 rfl rfl⟩
theorem fX12_37 : FL RX12 37 10 12 := ⟨_, _, _, rfl, by decide, rfl, tl_4 22 rfl rfl⟩
theorem fX12_40 : FL RX12 40 10 13 := ⟨_, _, _, rfl, by decide, rfl, tl_4 23 rfl rfl⟩
theorem fX12_43 : FL RX12 43 10 14 := ⟨_, _, _, rfl, by decide, rfl, tl_4 24 rfl rfl⟩
theorem fX12_46 : FL RX12 46 10 15 := ⟨_, _, _, rfl, by decide, rfl, tl_4 25 rfl rfl⟩
theorem fX12_49 : FL RX12 49 10 16 := ⟨_, _, _, rfl, by decide, rfl, tl_4 26 rfl rfl⟩
theorem fX12_52 : FL RX12 52 10 17 := ⟨_, _, _, rfl, by decide, rfl, tl_4 27 rfl rfl⟩
theorem fX12_55 : FL RX12 55 10 18 := ⟨_, _, _, rfl, by decide, rfl, tl_4 28 rfl rfl⟩
theorem fX12_58 : FL RX12 58 10 19 := ⟨_, _, _, rfl, by decide, rfl, tl_4 29 rfl rfl⟩
theorem fX12_62 : FL RX12 62 10 20 := ⟨_, _, _, rfl, by decide, rfl, tl_4 30 rfl rfl⟩
theorem fX12_210 : FL RX12 210 10 21 := ⟨_, _, _, rfl, by decide, rfl, tl_4 31 rfl rfl⟩
theorem fX12_206 : FL RX12 206 10 22 := ⟨_, _, _, rfl, by decide, rfl, tl_4 32 rfl rfl⟩
theorem fX12_240 : FL RX12 240 10 23 := ⟨_, _, _, rfl, by decide, rfl, tl_4 33 rfl rfl⟩
theorem fX12_65 : FL RX12 65 10 24 := ⟨_, _, _, rfl, by decide, rfl, tl_4 34 rfl rfl⟩
theorem fX12_68 : FL RX12 68 10 25 := ⟨_, _, _, rfl, by decide, rfl, tl_4 35 rfl rfl⟩
theorem fX12_260 : FL RX12 260 10 26 := ⟨_, _, _, rfl, by decide, rfl, tl_4 36 rfl rfl⟩
theorem lL_126 : Cond.methodLink RL 126 yX12_sheet ∈ tb := tl_4 92 rfl rfl
theorem lX12_83 : Cond.methodLink RX12 83 yX12_isSheet ∈ tb := tl_4 96 rfl rfl
theorem kX12_81 : Cond.constantLong RX12 81 (3) ∈ tb := tl_4 99 rfl rfl
theorem lX12_73 : Cond.methodLink RX12 73 yX12_in ∈ tb := tl_4 100 rfl rfl
theorem kX12_87 : Cond.constantLong RX12 87 (2) ∈ tb := tl_4 103 rfl rfl
theorem lX12_89 : Cond.methodLink RX12 89 yX12_finds ∈ tb := tl_4 104 rfl rfl
theorem lL_130 : Cond.methodLink RL 130 yX12_lose ∈ tb := tl_4 108 rfl rfl
theorem lL_135 : Cond.methodLink RL 135 yX12_lay ∈ tb := tl_4 112 rfl rfl
theorem lX12_93 : Cond.methodLink RX12 93 yX12_lacks ∈ tb := tl_4 116 rfl rfl
theorem lX12_97 : Cond.methodLink RX12 97 yX12_cut ∈ tb := tl_4 120 rfl rfl
theorem lL_139 : Cond.methodLink RL 139 yX12_get ∈ tb := tl_4 123 rfl rfl
theorem kX12_101 : Cond.constant RX12 101 (-2147483648) ∈ tb := tl_4 127 rfl rfl
theorem lL_144 : Cond.methodLink RL 144 yX12_copy ∈ tb := tl_4 128 rfl rfl
theorem lL_17 : Cond.methodLink RL 17 yX12_type ∈ tb := tl_4 132 rfl rfl
theorem lX12_102 : Cond.methodLink RX12 102 yX12_isTwo ∈ tb := tl_4 136 rfl rfl
theorem kX12_105 : Cond.constantLong RX12 105 (255) ∈ tb := tl_4 139 rfl rfl
theorem lL_22 : Cond.methodLink RL 22 yX12_wipe ∈ tb := tl_4 140 rfl rfl
theorem lL_26 : Cond.methodLink RL 26 yX12_undo ∈ tb := tl_4 144 rfl rfl
theorem lL_30 : Cond.methodLink RL 30 yX12_fault ∈ tb := tl_4 148 rfl rfl
theorem lX12_125 : Cond.methodLink RX12 125 yX12_readsFelons ∈ tb := tl_4 152 rfl rfl
theorem lX12_115 : Cond.methodLink RX12 115 yX12_felonOf ∈ tb := tl_4 156 rfl rfl
theorem lX12_109 : Cond.methodLink RX12 109 yX12_figureOf ∈ tb := tl_4 159 rfl rfl
theorem kX12_107 : Cond.constantLong RX12 107 (48) ∈ tb := tl_4 162 rfl rfl
theorem lX12_129 : Cond.methodLink RX12 129 yX12_readsNames ∈ tb := tl_4 163 rfl rfl
theorem kX12_121 : Cond.constantLong RX12 121 (97) ∈ tb := tl_4 167 rfl rfl
theorem kX12_123 : Cond.constantLong RX12 123 (104) ∈ tb := tl_4 168 rfl rfl
theorem lL_34 : Cond.methodLink RL 34 yX12_felon ∈ tb := tl_4 169 rfl rfl
theorem lX12_132 : Cond.methodLink RX12 132 yX12_isFelon ∈ tb := tl_4 173 rfl rfl
theorem kX12_135 : Cond.constantLong RX12 135 (4) ∈ tb := tl_4 177 rfl rfl
theorem lL_38 : Cond.methodLink RL 38 yX12_name ∈ tb := tl_4 178 rfl rfl
theorem kX12_137 : Cond.constantLong RX12 137 (11) ∈ tb := tl_4 182 rfl rfl
theorem lL_42 : Cond.methodLink RL 42 yX12_set ∈ tb := tl_4 183 rfl rfl
theorem kX12_139 : Cond.constantLong RX12 139 (8) ∈ tb := tl_4 187 rfl rfl
theorem kX12_141 : Cond.constantLong RX12 141 (9) ∈ tb := tl_4 188 rfl rfl
theorem lL_46 : Cond.methodLink RL 46 yX12_comes ∈ tb := tl_4 189 rfl rfl
theorem lX12_165 : Cond.methodLink RX12 165 yX12_find ∈ tb := tl_4 193 rfl rfl
theorem lX12_162 : Cond.methodLink RX12 162 yX12_goes ∈ tb := tl_4 197 rfl rfl
theorem lX12_149 : Cond.methodLink RX12 149 yX12_isIn ∈ tb := tl_4 201 rfl rfl
theorem lX12_153 : Cond.methodLink RX12 153 yX12_endOf ∈ tb := tl_4 204 rfl rfl
theorem lX12_156 : Cond.methodLink RX12 156 yX12_winsBy ∈ tb := tl_4 208 rfl rfl
theorem lX12_143 : Cond.methodLink RX12 143 yX12_greater ∈ tb := tl_4 212 rfl rfl
theorem lX12_146 : Cond.methodLink RX12 146 yX12_lesser ∈ tb := tl_4 215 rfl rfl
theorem lX12_159 : Cond.methodLink RX12 159 yX12_strongBehind ∈ tb := tl_4 218 rfl rfl
theorem lL_50 : Cond.methodLink RL 50 yX12_behind ∈ tb := tl_4 222 rfl rfl
theorem lX12_168 : Cond.methodLink RX12 168 yX12_behindOf ∈ tb := tl_4 226 rfl rfl
theorem lL_55 : Cond.methodLink RL 55 yX12_alive ∈ tb := tl_4 230 rfl rfl
theorem lX12_177 : Cond.methodLink RX12 177 yX12_aliveOf ∈ tb := tl_4 234 rfl rfl
theorem lX12_181 : Cond.methodLink RX12 181 yX12_tells ∈ tb := tl_4 238 rfl rfl
theorem kX12_171 : Cond.constantLong RX12 171 (4294967296) ∈ tb := tl_5 1 rfl rfl
theorem lX12_173 : Cond.methodLink RX12 173 yX12_part ∈ tb := tl_5 2 rfl rfl
theorem lX12_185 : Cond.methodLink RX12 185 yX12_no ∈ tb := tl_5 5 rfl rfl
theorem kX12_71 : Cond.constantLong RX12 71 (-9223372036854775808) ∈ tb := tl_5 8 rfl rfl
theorem lL_60 : Cond.methodLink RL 60 yX12_lives ∈ tb := tl_5 9 rfl rfl
theorem lX12_188 : Cond.methodLink RX12 188 yX12_livesNow ∈ tb := tl_5 13 rfl rfl
theorem lL_64 : Cond.methodLink RL 64 yX12_harm ∈ tb := tl_5 17 rfl rfl
theorem lX12_195 : Cond.methodLink RX12 195 yX12_harmNow ∈ tb := tl_5 21 rfl rfl
theorem lX12_192 : Cond.methodLink RX12 192 yX12_isHarmed ∈ tb := tl_5 25 rfl rfl
theorem lL_69 : Cond.methodLink RL 69 yX12_worst ∈ tb := tl_5 29 rfl rfl
theorem lX12_198 : Cond.methodLink RX12 198 yX12_worstNow ∈ tb := tl_5 33 rfl rfl
theorem lL_73 : Cond.methodLink RL 73 yX12_fate ∈ tb := tl_5 37 rfl rfl
theorem lX12_201 : Cond.methodLink RX12 201 yX12_fateOf ∈ tb := tl_5 41 rfl rfl
theorem lL_77 : Cond.methodLink RL 77 yX12_order ∈ tb := tl_5 45 rfl rfl
theorem kX12_221 : Cond.constantLong RX12 221 (-1) ∈ tb := tl_5 49 rfl rfl
theorem kX12_223 : Cond.constantLong RX12 223 (7) ∈ tb := tl_5 50 rfl rfl
theorem lX12_225 : Cond.methodLink RX12 225 yX12_findOrder ∈ tb := tl_5 51 rfl rfl
theorem lX12_213 : Cond.methodLink RX12 213 yX12_adds ∈ tb := tl_5 55 rfl rfl
theorem kX12_204 : Cond.constantLong RX12 204 (16) ∈ tb := tl_5 59 rfl rfl
theorem lX12_217 : Cond.methodLink RX12 217 yX12_keeps ∈ tb := tl_5 60 rfl rfl
theorem lX12_228 : Cond.methodLink RX12 228 yX12_orderBy ∈ tb := tl_5 64 rfl rfl
theorem lL_81 : Cond.methodLink RL 81 yX12_best ∈ tb := tl_5 68 rfl rfl
theorem lL_85 : Cond.methodLink RL 85 yX12_price ∈ tb := tl_5 72 rfl rfl
theorem lX12_231 : Cond.methodLink RX12 231 yX12_priceNow ∈ tb := tl_5 76 rfl rfl
theorem lL_89 : Cond.methodLink RL 89 yX12_rule ∈ tb := tl_5 80 rfl rfl
theorem lX12_234 : Cond.methodLink RX12 234 yX12_ruleOf ∈ tb := tl_5 84 rfl rfl
theorem lL_93 : Cond.methodLink RL 93 yX12_chain ∈ tb := tl_5 88 rfl rfl
theorem lX12_237 : Cond.methodLink RX12 237 yX12_chainOf ∈ tb := tl_5 92 rfl rfl
theorem lL_97 : Cond.methodLink RL 97 yX12_seen ∈ tb := tl_5 96 rfl rfl
theorem lL_101 : Cond.methodLink RL 101 yX12_forget ∈ tb := tl_5 100 rfl rfl
theorem lL_105 : Cond.methodLink RL 105 yX12_read ∈ tb := tl_5 104 rfl rfl
theorem lX12_243 : Cond.methodLink RX12 243 yX12_seen ∈ tb := tl_5 108 rfl rfl
theorem lL_109 : Cond.methodLink RL 109 yX12_bribes ∈ tb := tl_5 109 rfl rfl
theorem lX12_250 : Cond.methodLink RX12 250 yX12_bribesNow ∈ tb := tl_5 113 rfl rfl
theorem lX12_246 : Cond.methodLink RX12 246 yX12_isSeen ∈ tb := tl_5 117 rfl rfl
theorem lL_113 : Cond.methodLink RL 113 yX12_kinds ∈ tb := tl_5 121 rfl rfl
theorem lX12_253 : Cond.methodLink RX12 253 yX12_kindsOf ∈ tb := tl_5 125 rfl rfl
theorem lL_117 : Cond.methodLink RL 117 yX12_ask ∈ tb := tl_5 129 rfl rfl
theorem lX12_256 : Cond.methodLink RX12 256 yX12_askNow ∈ tb := tl_5 133 rfl rfl
theorem lL_122 : Cond.methodLink RL 122 yX12_gaols ∈ tb := tl_5 137 rfl rfl
theorem kX12_266 : Cond.constantLong RX12 266 (99) ∈ tb := tl_5 141 rfl rfl
theorem lX12_268 : Cond.methodLink RX12 268 yX12_gaolsOf ∈ tb := tl_5 142 rfl rfl
theorem lX12_263 : Cond.methodLink RX12 263 yX12_lot ∈ tb := tl_5 146 rfl rfl
theorem kX12_259 : Cond.constant RX12 259 (1103515245) ∈ tb := tl_5 150 rfl rfl
theorem lL_148 : Cond.methodLink RL 148 yX12_write ∈ tb := tl_5 151 rfl rfl
theorem lL_152 : Cond.methodLink RL 152 yX12_count ∈ tb := tl_5 155 rfl rfl
theorem lX12_271 : Cond.methodLink RX12 271 yX12_fights ∈ tb := tl_5 159 rfl rfl
theorem lX12_274 : Cond.methodLink RX12 274 yX12_named ∈ tb := tl_5 163 rfl rfl
theorem lL_157 : Cond.methodLink RL 157 yX12_digest ∈ tb := tl_5 167 rfl rfl
theorem kX12_279 : Cond.constantLong RX12 279 (17) ∈ tb := tl_5 171 rfl rfl
theorem kX12_277 : Cond.constantLong RX12 277 (31) ∈ tb := tl_5 172 rfl rfl
theorem lX12_281 : Cond.methodLink RX12 281 yX12_count ∈ tb := tl_5 173 rfl rfl
theorem lX12_284 : Cond.methodLink RX12 284 yX12_tellsBoth ∈ tb := tl_5 174 rfl rfl
def MX0_init : MD := (yX0_init, cX0_init, 1, none, rmK 1 7 84)
theorem bX0_init : CB MX0_init 0 := ⟨by decide +kernel, by decide +kernel, tl_1 109 rfl rfl, in_X0⟩
theorem sX0_init : CI MX0_init 0 := ⟨bX0_init, tl_1 108 rfl rfl, rfl⟩
def MX0_setOut : MD := (yX0_setOut, cX0_setOut, 4, none, rmK 0 0 0)
theorem bX0_setOut : CB MX0_setOut 2 := ⟨by decide +kernel, by decide +kernel, tl_2 0 rfl rfl, in_X0⟩
theorem sX0_setOut : CV MX0_setOut 2 := ⟨bX0_setOut, tl_1 238 rfl rfl, tl_1 239 rfl rfl⟩
def MX0_walk : MD := (yX0_walk, cX0_walk, 9, none, rmK 3 0 0)
theorem bX0_walk : CB MX0_walk 5 := ⟨by decide +kernel, by decide +kernel, tl_2 94 rfl rfl, in_X0⟩
theorem sX0_walk : CV MX0_walk 5 := ⟨bX0_walk, tl_2 92 rfl rfl, tl_2 93 rfl rfl⟩
def MX0_markFate : MD := (yX0_markFate, cX0_markFate, 3, none, rmK 0 0 0)
theorem bX0_markFate : CB MX0_markFate 2 := ⟨by decide +kernel, by decide +kernel, tl_2 119 rfl rfl, in_X0⟩
theorem sX0_markFate : CV MX0_markFate 2 := ⟨bX0_markFate, tl_2 118 rfl rfl, tl_0 3 rfl rfl⟩
def MX0_stepBehind : MD := (yX0_stepBehind, cX0_stepBehind, 5, none, rmK 2 0 0)
theorem bX0_stepBehind : CB MX0_stepBehind 3 := ⟨by decide +kernel, by decide +kernel, tl_2 124 rfl rfl, in_X0⟩
theorem sX0_stepBehind : CV MX0_stepBehind 3 := ⟨bX0_stepBehind, tl_2 123 rfl rfl, tl_0 4 rfl rfl⟩
def MX0_fateOf : MD := (yX0_fateOf, cX0_fateOf, 2, (some (FieldType.int)), rmK 0 0 0)
theorem bX0_fateOf : CB MX0_fateOf 1 := ⟨by decide +kernel, by decide +kernel, tl_2 107 rfl rfl, in_X0⟩
theorem sX0_fateOf : CV MX0_fateOf 1 := ⟨bX0_fateOf, tl_2 105 rfl rfl, tl_2 106 rfl rfl⟩
def MX0_hasAllWins : MD := (yX0_hasAllWins, cX0_hasAllWins, 1, (some (FieldType.boolean)), rmK 0 0 0)
theorem bX0_hasAllWins : CB MX0_hasAllWins 0 := ⟨by decide +kernel, by decide +kernel, tl_2 207 rfl rfl, in_X0⟩
theorem sX0_hasAllWins : CV MX0_hasAllWins 0 := ⟨bX0_hasAllWins, tl_2 205 rfl rfl, tl_2 206 rfl rfl⟩
def MX0_livesAbove : MD := (yX0_livesAbove, cX0_livesAbove, 1, (some (FieldType.long)), rmK 1 0 0)
theorem bX0_livesAbove : CB MX0_livesAbove 0 := ⟨by decide +kernel, by decide +kernel, tl_2 203 rfl rfl, in_X0⟩
theorem sX0_livesAbove : CV MX0_livesAbove 0 := ⟨bX0_livesAbove, tl_2 201 rfl rfl, tl_2 202 rfl rfl⟩
def MX0_fewestSixteenths : MD := (yX0_fewestSixteenths, cX0_fewestSixteenths, 4, (some (FieldType.int)), rmK 0 0 0)
theorem bX0_fewestSixteenths : CB MX0_fewestSixteenths 0 := ⟨by decide +kernel, by decide +kernel, tl_2 219 rfl rfl, in_X0⟩
theorem sX0_fewestSixteenths : CV MX0_fewestSixteenths 0 := ⟨bX0_fewestSixteenths, tl_2 217 rfl rfl, tl_2 218 rfl rfl⟩
def MX0_numberOfFights : MD := (yX0_numberOfFights, cX0_numberOfFights, 3, (some (FieldType.int)), rmK 0 0 0)
theorem bX0_numberOfFights : CB MX0_numberOfFights 0 := ⟨by decide +kernel, by decide +kernel, tl_3 201 rfl rfl, in_X0⟩
theorem sX0_numberOfFights : CV MX0_numberOfFights 0 := ⟨bX0_numberOfFights, tl_3 199 rfl rfl, tl_3 200 rfl rfl⟩
def MX0_numberNotVoid : MD := (yX0_numberNotVoid, cX0_numberNotVoid, 4, (some (FieldType.int)), rmK 1 0 0)
theorem bX0_numberNotVoid : CB MX0_numberNotVoid 1 := ⟨by decide +kernel, by decide +kernel, tl_3 205 rfl rfl, in_X0⟩
theorem sX0_numberNotVoid : CV MX0_numberNotVoid 1 := ⟨bX0_numberNotVoid, tl_3 203 rfl rfl, tl_3 204 rfl rfl⟩
def MX0_playTill : MD := (yX0_playTill, cX0_playTill, 3, (some (FieldType.int)), rmK 1 0 0)
theorem bX0_playTill : CB MX0_playTill 1 := ⟨by decide +kernel, by decide +kernel, tl_3 137 rfl rfl, in_X0⟩
theorem sX0_playTill : CV MX0_playTill 1 := ⟨bX0_playTill, tl_3 135 rfl rfl, tl_3 136 rfl rfl⟩
def MX1_told : MD := (yX1_told, cX1_told, 7, (some (FieldType.long)), rmK 0 0 0)
theorem bX1_told : CB MX1_told 3 := ⟨by decide +kernel, by decide +kernel, tl_2 195 rfl rfl, in_X1⟩
theorem sX1_told : CS MX1_told 3 := ⟨bX1_told, tl_2 194 rfl rfl⟩
def MX2_init : MD := (yX2_init, cX2_init, 1, none, rmK 1 1 40)
theorem bX2_init : CB MX2_init 0 := ⟨by decide +kernel, by decide +kernel, tl_1 49 rfl rfl, in_X2⟩
theorem sX2_init : CI MX2_init 0 := ⟨bX2_init, tl_1 48 rfl rfl, rfl⟩
def MX2_parse : MD := (yX2_parse, cX2_parse, 5, none, rmK 3 0 0)
theorem bX2_parse : CB MX2_parse 1 := ⟨by decide +kernel, by decide +kernel, tl_2 64 rfl rfl, in_X2⟩
theorem sX2_parse : CV MX2_parse 1 := ⟨bX2_parse, tl_2 62 rfl rfl, tl_2 63 rfl rfl⟩
def MX2_placeOfFault : MD := (yX2_placeOfFault, cX2_placeOfFault, 2, (some (FieldType.int)), rmK 2 0 0)
theorem bX2_placeOfFault : CB MX2_placeOfFault 1 := ⟨by decide +kernel, by decide +kernel, tl_2 67 rfl rfl, in_X2⟩
theorem sX2_placeOfFault : CS MX2_placeOfFault 1 := ⟨bX2_placeOfFault, tl_2 66 rfl rfl⟩
def MX2_fits : MD := (yX2_fits, cX2_fits, 2, (some (FieldType.boolean)), rmK 1 0 0)
theorem bX2_fits : CB MX2_fits 2 := ⟨by decide +kernel, by decide +kernel, tl_2 74 rfl rfl, in_X2⟩
theorem sX2_fits : CS MX2_fits 2 := ⟨bX2_fits, tl_2 73 rfl rfl⟩
def MX2_kindOf : MD := (yX2_kindOf, cX2_kindOf, 1, (some (FieldType.int)), rmK 0 0 0)
theorem bX2_kindOf : CB MX2_kindOf 1 := ⟨by decide +kernel, by decide +kernel, tl_2 77 rfl rfl, in_X2⟩
theorem sX2_kindOf : CS MX2_kindOf 1 := ⟨bX2_kindOf, tl_2 76 rfl rfl⟩
def MX2_has : MD := (yX2_has, cX2_has, 2, (some (FieldType.boolean)), rmK 0 0 0)
theorem bX2_has : CB MX2_has 1 := ⟨by decide +kernel, by decide +kernel, tl_2 103 rfl rfl, in_X2⟩
theorem sX2_has : CV MX2_has 1 := ⟨bX2_has, tl_2 101 rfl rfl, tl_2 102 rfl rfl⟩
def MX2_part : MD := (yX2_part, cX2_part, 4, (some (FieldType.int)), rmK 0 0 0)
theorem bX2_part : CB MX2_part 2 := ⟨by decide +kernel, by decide +kernel, tl_2 115 rfl rfl, in_X2⟩
theorem sX2_part : CV MX2_part 2 := ⟨bX2_part, tl_2 113 rfl rfl, tl_2 114 rfl rfl⟩
def MX2_putKind : MD := (yX2_putKind, cX2_putKind, 3, none, rmK 1 0 0)
theorem bX2_putKind : CB MX2_putKind 2 := ⟨by decide +kernel, by decide +kernel, tl_3 105 rfl rfl, in_X2⟩
theorem sX2_putKind : CV MX2_putKind 2 := ⟨bX2_putKind, tl_3 103 rfl rfl, tl_3 104 rfl rfl⟩
def MX2_answerOf : MD := (yX2_answerOf, cX2_answerOf, 4, (some (FieldType.int)), rmK 1 0 0)
theorem bX2_answerOf : CB MX2_answerOf 2 := ⟨by decide +kernel, by decide +kernel, tl_2 111 rfl rfl, in_X2⟩
theorem sX2_answerOf : CV MX2_answerOf 2 := ⟨bX2_answerOf, tl_2 109 rfl rfl, tl_2 110 rfl rfl⟩
def MX3_init : MD := (yX3_init, cX3_init, 2, none, rmK 1 0 0)
theorem bX3_init : CB MX3_init 1 := ⟨by decide +kernel, by decide +kernel, tl_3 128 rfl rfl, in_X3⟩
theorem sX3_init : CI MX3_init 1 := ⟨bX3_init, tl_3 127 rfl rfl, rfl⟩
def MX3_draw : MD := (yX3_draw, cX3_draw, 2, (some (FieldType.int)), rmK 0 0 0)
theorem bX3_draw : CB MX3_draw 1 := ⟨by decide +kernel, by decide +kernel, tl_3 141 rfl rfl, in_X3⟩
theorem sX3_draw : CV MX3_draw 1 := ⟨bX3_draw, tl_3 139 rfl rfl, tl_3 140 rfl rfl⟩
def MX4_init : MD := (yX4_init, cX4_init, 1, none, rmK 1 1 12)
theorem bX4_init : CB MX4_init 0 := ⟨by decide +kernel, by decide +kernel, tl_1 68 rfl rfl, in_X4⟩
theorem sX4_init : CI MX4_init 0 := ⟨bX4_init, tl_1 67 rfl rfl, rfl⟩
def MX4_parse : MD := (yX4_parse, cX4_parse, 4, none, rmK 1 0 0)
theorem bX4_parse : CB MX4_parse 1 := ⟨by decide +kernel, by decide +kernel, tl_2 84 rfl rfl, in_X4⟩
theorem sX4_parse : CV MX4_parse 1 := ⟨bX4_parse, tl_2 82 rfl rfl, tl_2 83 rfl rfl⟩
def MX4_whoAt : MD := (yX4_whoAt, cX4_whoAt, 2, (some (FieldType.int)), rmK 0 0 0)
theorem bX4_whoAt : CB MX4_whoAt 1 := ⟨by decide +kernel, by decide +kernel, tl_2 99 rfl rfl, in_X4⟩
theorem sX4_whoAt : CV MX4_whoAt 1 := ⟨bX4_whoAt, tl_2 97 rfl rfl, tl_2 98 rfl rfl⟩
def MX5_init : MD := (yX5_init, cX5_init, 1, none, rmK 1 4 2728)
theorem bX5_init : CB MX5_init 0 := ⟨by decide +kernel, by decide +kernel, tl_1 156 rfl rfl, in_X5⟩
theorem sX5_init : CI MX5_init 0 := ⟨bX5_init, tl_1 155 rfl rfl, rfl⟩
def MX5_makeOnce : MD := (yX5_makeOnce, cX5_makeOnce, 4, none, rmK 3 0 0)
theorem bX5_makeOnce : CB MX5_makeOnce 2 := ⟨by decide +kernel, by decide +kernel, tl_2 232 rfl rfl, in_X5⟩
theorem sX5_makeOnce : CV MX5_makeOnce 2 := ⟨bX5_makeOnce, tl_2 230 rfl rfl, tl_2 231 rfl rfl⟩
def MX5_prepare : MD := (yX5_prepare, cX5_prepare, 7, none, rmK 2 0 0)
theorem bX5_prepare : CB MX5_prepare 3 := ⟨by decide +kernel, by decide +kernel, tl_3 0 rfl rfl, in_X5⟩
theorem sX5_prepare : CV MX5_prepare 3 := ⟨bX5_prepare, tl_2 239 rfl rfl, tl_0 6 rfl rfl⟩
def MX5_winsOf : MD := (yX5_winsOf, cX5_winsOf, 2, (some (FieldType.int)), rmK 1 0 0)
theorem bX5_winsOf : CB MX5_winsOf 1 := ⟨by decide +kernel, by decide +kernel, tl_3 11 rfl rfl, in_X5⟩
theorem sX5_winsOf : CV MX5_winsOf 1 := ⟨bX5_winsOf, tl_3 10 rfl rfl, tl_0 8 rfl rfl⟩
def MX5_fillValues : MD := (yX5_fillValues, cX5_fillValues, 4, none, rmK 2 0 0)
theorem bX5_fillValues : CB MX5_fillValues 0 := ⟨by decide +kernel, by decide +kernel, tl_3 7 rfl rfl, in_X5⟩
theorem sX5_fillValues : CV MX5_fillValues 0 := ⟨bX5_fillValues, tl_3 6 rfl rfl, tl_0 7 rfl rfl⟩
def MX5_mostBehind : MD := (yX5_mostBehind, cX5_mostBehind, 6, (some (FieldType.long)), rmK 1 0 0)
theorem bX5_mostBehind : CB MX5_mostBehind 2 := ⟨by decide +kernel, by decide +kernel, tl_3 21 rfl rfl, in_X5⟩
theorem sX5_mostBehind : CV MX5_mostBehind 2 := ⟨bX5_mostBehind, tl_3 20 rfl rfl, tl_0 9 rfl rfl⟩
def MX5_valueIfNext : MD := (yX5_valueIfNext, cX5_valueIfNext, 5, (some (FieldType.long)), rmK 0 0 0)
theorem bX5_valueIfNext : CB MX5_valueIfNext 3 := ⟨by decide +kernel, by decide +kernel, tl_3 25 rfl rfl, in_X5⟩
theorem sX5_valueIfNext : CV MX5_valueIfNext 3 := ⟨bX5_valueIfNext, tl_3 24 rfl rfl, tl_0 10 rfl rfl⟩
def MX5_layRow : MD := (yX5_layRow, cX5_layRow, 5, none, rmK 2 0 0)
theorem bX5_layRow : CB MX5_layRow 0 := ⟨by decide +kernel, by decide +kernel, tl_3 32 rfl rfl, in_X5⟩
theorem sX5_layRow : CV MX5_layRow 0 := ⟨bX5_layRow, tl_3 31 rfl rfl, tl_0 11 rfl rfl⟩
def MX5_leastNext : MD := (yX5_leastNext, cX5_leastNext, 6, (some (FieldType.int)), rmK 1 0 0)
theorem bX5_leastNext : CB MX5_leastNext 2 := ⟨by decide +kernel, by decide +kernel, tl_3 36 rfl rfl, in_X5⟩
theorem sX5_leastNext : CV MX5_leastNext 2 := ⟨bX5_leastNext, tl_3 35 rfl rfl, tl_0 12 rfl rfl⟩
def MX6_init : MD := (yX6_init, cX6_init, 1, none, rmK 1 1 60)
theorem bX6_init : CB MX6_init 0 := ⟨by decide +kernel, by decide +kernel, tl_1 218 rfl rfl, in_X6⟩
theorem sX6_init : CI MX6_init 0 := ⟨bX6_init, tl_1 217 rfl rfl, rfl⟩
def MX6_renew : MD := (yX6_renew, cX6_renew, 4, none, rmK 1 0 0)
theorem bX6_renew : CB MX6_renew 2 := ⟨by decide +kernel, by decide +kernel, tl_3 154 rfl rfl, in_X6⟩
theorem sX6_renew : CV MX6_renew 2 := ⟨bX6_renew, tl_3 152 rfl rfl, tl_3 153 rfl rfl⟩
def MX6_findingAt : MD := (yX6_findingAt, cX6_findingAt, 3, (some (FieldType.int)), rmK 0 0 0)
theorem bX6_findingAt : CB MX6_findingAt 2 := ⟨by decide +kernel, by decide +kernel, tl_3 168 rfl rfl, in_X6⟩
theorem sX6_findingAt : CV MX6_findingAt 2 := ⟨bX6_findingAt, tl_3 166 rfl rfl, tl_3 167 rfl rfl⟩
def MX6_put : MD := (yX6_put, cX6_put, 3, none, rmK 0 0 0)
theorem bX6_put : CB MX6_put 2 := ⟨by decide +kernel, by decide +kernel, tl_3 172 rfl rfl, in_X6⟩
theorem sX6_put : CV MX6_put 2 := ⟨bX6_put, tl_3 170 rfl rfl, tl_3 171 rfl rfl⟩
def MX6_hasStretch : MD := (yX6_hasStretch, cX6_hasStretch, 3, (some (FieldType.boolean)), rmK 0 0 0)
theorem bX6_hasStretch : CB MX6_hasStretch 2 := ⟨by decide +kernel, by decide +kernel, tl_3 185 rfl rfl, in_X6⟩
theorem sX6_hasStretch : CV MX6_hasStretch 2 := ⟨bX6_hasStretch, tl_3 183 rfl rfl, tl_3 184 rfl rfl⟩
def MX7_init : MD := (yX7_init, cX7_init, 1, none, rmK 1 2 16)
theorem bX7_init : CB MX7_init 0 := ⟨by decide +kernel, by decide +kernel, tl_1 200 rfl rfl, in_X7⟩
theorem sX7_init : CI MX7_init 0 := ⟨bX7_init, tl_1 199 rfl rfl, rfl⟩
def MX7_allows : MD := (yX7_allows, cX7_allows, 2, (some (FieldType.boolean)), rmK 0 0 0)
theorem bX7_allows : CB MX7_allows 2 := ⟨by decide +kernel, by decide +kernel, tl_3 65 rfl rfl, in_X7⟩
theorem sX7_allows : CS MX7_allows 2 := ⟨bX7_allows, tl_3 64 rfl rfl⟩
def MX7_isFull : MD := (yX7_isFull, cX7_isFull, 1, (some (FieldType.boolean)), rmK 0 0 0)
theorem bX7_isFull : CB MX7_isFull 0 := ⟨by decide +kernel, by decide +kernel, tl_3 69 rfl rfl, in_X7⟩
theorem sX7_isFull : CV MX7_isFull 0 := ⟨bX7_isFull, tl_3 67 rfl rfl, tl_3 68 rfl rfl⟩
def MX7_add : MD := (yX7_add, cX7_add, 3, none, rmK 0 0 0)
theorem bX7_add : CB MX7_add 2 := ⟨by decide +kernel, by decide +kernel, tl_3 73 rfl rfl, in_X7⟩
theorem sX7_add : CV MX7_add 2 := ⟨bX7_add, tl_3 71 rfl rfl, tl_3 72 rfl rfl⟩
def MX7_comeOutBy : MD := (yX7_comeOutBy, cX7_comeOutBy, 3, (some (FieldType.boolean)), rmK 1 0 0)
theorem bX7_comeOutBy : CB MX7_comeOutBy 1 := ⟨by decide +kernel, by decide +kernel, tl_3 96 rfl rfl, in_X7⟩
theorem sX7_comeOutBy : CV MX7_comeOutBy 1 := ⟨bX7_comeOutBy, tl_3 94 rfl rfl, tl_3 95 rfl rfl⟩
def MX8_isWin : MD := (yX8_isWin, cX8_isWin, 1, (some (FieldType.boolean)), rmK 0 0 0)
theorem bX8_isWin : CB MX8_isWin 1 := ⟨by decide +kernel, by decide +kernel, tl_2 135 rfl rfl, in_X8⟩
theorem sX8_isWin : CS MX8_isWin 1 := ⟨bX8_isWin, tl_2 134 rfl rfl⟩
def MX8_sixteenths : MD := (yX8_sixteenths, cX8_sixteenths, 3, (some (FieldType.int)), rmK 1 0 0)
theorem bX8_sixteenths : CB MX8_sixteenths 3 := ⟨by decide +kernel, by decide +kernel, tl_2 127 rfl rfl, in_X8⟩
theorem sX8_sixteenths : CS MX8_sixteenths 3 := ⟨bX8_sixteenths, tl_2 126 rfl rfl⟩
def MX8_strongBehind : MD := (yX8_strongBehind, cX8_strongBehind, 4, (some (FieldType.int)), rmK 0 0 0)
theorem bX8_strongBehind : CB MX8_strongBehind 3 := ⟨by decide +kernel, by decide +kernel, tl_2 132 rfl rfl, in_X8⟩
theorem sX8_strongBehind : CS MX8_strongBehind 3 := ⟨bX8_strongBehind, tl_2 131 rfl rfl⟩
def MX9_init : MD := (yX9_init, cX9_init, 1, none, rmK 1 0 0)
theorem bX9_init : CB MX9_init 0 := ⟨by decide +kernel, by decide +kernel, tl_1 87 rfl rfl, in_X9⟩
theorem sX9_init : CI MX9_init 0 := ⟨bX9_init, tl_1 86 rfl rfl, rfl⟩
def MX9_allows : MD := (yX9_allows, cX9_allows, 2, (some (FieldType.boolean)), rmK 0 0 0)
theorem bX9_allows : CB MX9_allows 2 := ⟨by decide +kernel, by decide +kernel, tl_2 165 rfl rfl, in_X9⟩
theorem sX9_allows : CS MX9_allows 2 := ⟨bX9_allows, tl_2 164 rfl rfl⟩
def MX9_change : MD := (yX9_change, cX9_change, 4, (some (FieldType.int)), rmK 0 0 0)
theorem bX9_change : CB MX9_change 2 := ⟨by decide +kernel, by decide +kernel, tl_2 169 rfl rfl, in_X9⟩
theorem sX9_change : CV MX9_change 2 := ⟨bX9_change, tl_2 167 rfl rfl, tl_2 168 rfl rfl⟩
def MX10_init : MD := (yX10_init, cX10_init, 2, none, rmK 1 1 47)
theorem bX10_init : CB MX10_init 1 := ⟨by decide +kernel, by decide +kernel, tl_1 29 rfl rfl, in_X10⟩
theorem sX10_init : CI MX10_init 1 := ⟨bX10_init, tl_1 28 rfl rfl, rfl⟩
def MX10_isFull : MD := (yX10_isFull, cX10_isFull, 1, (some (FieldType.boolean)), rmK 0 0 0)
theorem bX10_isFull : CB MX10_isFull 0 := ⟨by decide +kernel, by decide +kernel, tl_2 52 rfl rfl, in_X10⟩
theorem sX10_isFull : CV MX10_isFull 0 := ⟨bX10_isFull, tl_2 50 rfl rfl, tl_2 51 rfl rfl⟩
def MX10_push : MD := (yX10_push, cX10_push, 2, none, rmK 0 0 0)
theorem bX10_push : CB MX10_push 1 := ⟨by decide +kernel, by decide +kernel, tl_2 56 rfl rfl, in_X10⟩
theorem sX10_push : CV MX10_push 1 := ⟨bX10_push, tl_2 54 rfl rfl, tl_2 55 rfl rfl⟩
def MX10_byteAt : MD := (yX10_byteAt, cX10_byteAt, 2, (some (FieldType.int)), rmK 0 0 0)
theorem bX10_byteAt : CB MX10_byteAt 1 := ⟨by decide +kernel, by decide +kernel, tl_2 71 rfl rfl, in_X10⟩
theorem sX10_byteAt : CV MX10_byteAt 1 := ⟨bX10_byteAt, tl_2 69 rfl rfl, tl_2 70 rfl rfl⟩
def MX11_init : MD := (yX11_init, cX11_init, 2, none, rmK 2 43 3413)
theorem bX11_init : CB MX11_init 0 := ⟨by decide +kernel, by decide +kernel, tl_1 21 rfl rfl, in_X11⟩
theorem sX11_init : CI MX11_init 0 := ⟨bX11_init, tl_1 20 rfl rfl, rfl⟩
def MX11_type : MD := (yX11_type, cX11_type, 4, (some (FieldType.int)), rmK 6 0 0)
theorem bX11_type : CB MX11_type 2 := ⟨by decide +kernel, by decide +kernel, tl_2 41 rfl rfl, in_X11⟩
theorem sX11_type : CV MX11_type 2 := ⟨bX11_type, tl_2 39 rfl rfl, tl_2 40 rfl rfl⟩
def MX11_wipe : MD := (yX11_wipe, cX11_wipe, 4, (some (FieldType.int)), rmK 6 0 0)
theorem bX11_wipe : CB MX11_wipe 1 := ⟨by decide +kernel, by decide +kernel, tl_2 139 rfl rfl, in_X11⟩
theorem sX11_wipe : CV MX11_wipe 1 := ⟨bX11_wipe, tl_2 137 rfl rfl, tl_2 138 rfl rfl⟩
def MX11_undo : MD := (yX11_undo, cX11_undo, 3, (some (FieldType.int)), rmK 6 0 0)
theorem bX11_undo : CB MX11_undo 1 := ⟨by decide +kernel, by decide +kernel, tl_2 143 rfl rfl, in_X11⟩
theorem sX11_undo : CV MX11_undo 1 := ⟨bX11_undo, tl_2 141 rfl rfl, tl_2 142 rfl rfl⟩
def MX11_fault : MD := (yX11_fault, cX11_fault, 2, (some (FieldType.int)), rmK 1 0 0)
theorem bX11_fault : CB MX11_fault 1 := ⟨by decide +kernel, by decide +kernel, tl_2 147 rfl rfl, in_X11⟩
theorem sX11_fault : CV MX11_fault 1 := ⟨bX11_fault, tl_2 145 rfl rfl, tl_2 146 rfl rfl⟩
def MX11_felon : MD := (yX11_felon, cX11_felon, 3, (some (FieldType.int)), rmK 1 0 0)
theorem bX11_felon : CB MX11_felon 2 := ⟨by decide +kernel, by decide +kernel, tl_2 151 rfl rfl, in_X11⟩
theorem sX11_felon : CV MX11_felon 2 := ⟨bX11_felon, tl_2 149 rfl rfl, tl_2 150 rfl rfl⟩
def MX11_name : MD := (yX11_name, cX11_name, 2, (some (FieldType.int)), rmK 1 0 0)
theorem bX11_name : CB MX11_name 1 := ⟨by decide +kernel, by decide +kernel, tl_2 157 rfl rfl, in_X11⟩
theorem sX11_name : CV MX11_name 1 := ⟨bX11_name, tl_2 155 rfl rfl, tl_2 156 rfl rfl⟩
def MX11_set : MD := (yX11_set, cX11_set, 4, (some (FieldType.int)), rmK 5 0 0)
theorem bX11_set : CB MX11_set 2 := ⟨by decide +kernel, by decide +kernel, tl_2 162 rfl rfl, in_X11⟩
theorem sX11_set : CV MX11_set 2 := ⟨bX11_set, tl_2 160 rfl rfl, tl_2 161 rfl rfl⟩
def MX11_comes : MD := (yX11_comes, cX11_comes, 3, (some (FieldType.int)), rmK 1 0 0)
theorem bX11_comes : CB MX11_comes 2 := ⟨by decide +kernel, by decide +kernel, tl_2 173 rfl rfl, in_X11⟩
theorem sX11_comes : CV MX11_comes 2 := ⟨bX11_comes, tl_2 171 rfl rfl, tl_2 172 rfl rfl⟩
def MX11_behind : MD := (yX11_behind, cX11_behind, 3, (some (FieldType.int)), rmK 1 0 0)
theorem bX11_behind : CB MX11_behind 2 := ⟨by decide +kernel, by decide +kernel, tl_2 180 rfl rfl, in_X11⟩
theorem sX11_behind : CV MX11_behind 2 := ⟨bX11_behind, tl_2 178 rfl rfl, tl_2 179 rfl rfl⟩
def MX11_alive : MD := (yX11_alive, cX11_alive, 3, (some (FieldType.long)), rmK 1 0 0)
theorem bX11_alive : CB MX11_alive 2 := ⟨by decide +kernel, by decide +kernel, tl_2 188 rfl rfl, in_X11⟩
theorem sX11_alive : CV MX11_alive 2 := ⟨bX11_alive, tl_2 186 rfl rfl, tl_2 187 rfl rfl⟩
def MX11_lives : MD := (yX11_lives, cX11_lives, 2, (some (FieldType.long)), rmK 2 0 0)
theorem bX11_lives : CB MX11_lives 1 := ⟨by decide +kernel, by decide +kernel, tl_2 199 rfl rfl, in_X11⟩
theorem sX11_lives : CV MX11_lives 1 := ⟨bX11_lives, tl_2 197 rfl rfl, tl_2 198 rfl rfl⟩
def MX11_harm : MD := (yX11_harm, cX11_harm, 2, (some (FieldType.long)), rmK 1 0 0)
theorem bX11_harm : CB MX11_harm 1 := ⟨by decide +kernel, by decide +kernel, tl_2 211 rfl rfl, in_X11⟩
theorem sX11_harm : CV MX11_harm 1 := ⟨bX11_harm, tl_2 209 rfl rfl, tl_2 210 rfl rfl⟩
def MX11_worst : MD := (yX11_worst, cX11_worst, 1, (some (FieldType.int)), rmK 1 0 0)
theorem bX11_worst : CB MX11_worst 0 := ⟨by decide +kernel, by decide +kernel, tl_2 215 rfl rfl, in_X11⟩
theorem sX11_worst : CV MX11_worst 0 := ⟨bX11_worst, tl_2 213 rfl rfl, tl_2 214 rfl rfl⟩
def MX11_fate : MD := (yX11_fate, cX11_fate, 2, (some (FieldType.int)), rmK 1 0 0)
theorem bX11_fate : CB MX11_fate 1 := ⟨by decide +kernel, by decide +kernel, tl_2 223 rfl rfl, in_X11⟩
theorem sX11_fate : CV MX11_fate 1 := ⟨bX11_fate, tl_2 221 rfl rfl, tl_2 222 rfl rfl⟩
def MX11_order : MD := (yX11_order, cX11_order, 2, (some (FieldType.int)), rmK 4 0 0)
theorem bX11_order : CB MX11_order 1 := ⟨by decide +kernel, by decide +kernel, tl_2 228 rfl rfl, in_X11⟩
theorem sX11_order : CV MX11_order 1 := ⟨bX11_order, tl_2 226 rfl rfl, tl_2 227 rfl rfl⟩
def MX11_best : MD := (yX11_best, cX11_best, 2, (some (FieldType.long)), rmK 4 0 0)
theorem bX11_best : CB MX11_best 1 := ⟨by decide +kernel, by decide +kernel, tl_3 40 rfl rfl, in_X11⟩
theorem sX11_best : CV MX11_best 1 := ⟨bX11_best, tl_3 38 rfl rfl, tl_3 39 rfl rfl⟩
def MX11_price : MD := (yX11_price, cX11_price, 5, (some (FieldType.int)), rmK 5 0 0)
theorem bX11_price : CB MX11_price 0 := ⟨by decide +kernel, by decide +kernel, tl_3 44 rfl rfl, in_X11⟩
theorem sX11_price : CV MX11_price 0 := ⟨bX11_price, tl_3 42 rfl rfl, tl_3 43 rfl rfl⟩
def MX11_rule : MD := (yX11_rule, cX11_rule, 5, (some (FieldType.int)), rmK 4 0 0)
theorem bX11_rule : CB MX11_rule 1 := ⟨by decide +kernel, by decide +kernel, tl_3 53 rfl rfl, in_X11⟩
theorem sX11_rule : CV MX11_rule 1 := ⟨bX11_rule, tl_3 51 rfl rfl, tl_3 52 rfl rfl⟩
def MX11_chain : MD := (yX11_chain, cX11_chain, 5, (some (FieldType.int)), rmK 1 0 0)
theorem bX11_chain : CB MX11_chain 1 := ⟨by decide +kernel, by decide +kernel, tl_3 58 rfl rfl, in_X11⟩
theorem sX11_chain : CV MX11_chain 1 := ⟨bX11_chain, tl_3 56 rfl rfl, tl_3 57 rfl rfl⟩
def MX11_seen : MD := (yX11_seen, cX11_seen, 3, (some (FieldType.int)), rmK 1 0 0)
theorem bX11_seen : CB MX11_seen 2 := ⟨by decide +kernel, by decide +kernel, tl_3 62 rfl rfl, in_X11⟩
theorem sX11_seen : CV MX11_seen 2 := ⟨bX11_seen, tl_3 60 rfl rfl, tl_3 61 rfl rfl⟩
def MX11_forget : MD := (yX11_forget, cX11_forget, 2, (some (FieldType.int)), rmK 0 0 0)
theorem bX11_forget : CB MX11_forget 0 := ⟨by decide +kernel, by decide +kernel, tl_3 77 rfl rfl, in_X11⟩
theorem sX11_forget : CV MX11_forget 0 := ⟨bX11_forget, tl_3 75 rfl rfl, tl_3 76 rfl rfl⟩
def MX11_read : MD := (yX11_read, cX11_read, 7, (some (FieldType.int)), rmK 1 0 0)
theorem bX11_read : CB MX11_read 1 := ⟨by decide +kernel, by decide +kernel, tl_3 81 rfl rfl, in_X11⟩
theorem sX11_read : CV MX11_read 1 := ⟨bX11_read, tl_3 79 rfl rfl, tl_3 80 rfl rfl⟩
def MX11_bribes : MD := (yX11_bribes, cX11_bribes, 3, (some (FieldType.int)), rmK 5 0 0)
theorem bX11_bribes : CB MX11_bribes 0 := ⟨by decide +kernel, by decide +kernel, tl_3 92 rfl rfl, in_X11⟩
theorem sX11_bribes : CV MX11_bribes 0 := ⟨bX11_bribes, tl_3 90 rfl rfl, tl_3 91 rfl rfl⟩
def MX11_kinds : MD := (yX11_kinds, cX11_kinds, 5, (some (FieldType.int)), rmK 5 0 0)
theorem bX11_kinds : CB MX11_kinds 1 := ⟨by decide +kernel, by decide +kernel, tl_3 101 rfl rfl, in_X11⟩
theorem sX11_kinds : CV MX11_kinds 1 := ⟨bX11_kinds, tl_3 99 rfl rfl, tl_3 100 rfl rfl⟩
def MX11_ask : MD := (yX11_ask, cX11_ask, 5, (some (FieldType.int)), rmK 6 0 0)
theorem bX11_ask : CB MX11_ask 0 := ⟨by decide +kernel, by decide +kernel, tl_3 110 rfl rfl, in_X11⟩
theorem sX11_ask : CV MX11_ask 0 := ⟨bX11_ask, tl_3 108 rfl rfl, tl_3 109 rfl rfl⟩
def MX11_gaols : MD := (yX11_gaols, cX11_gaols, 9, (some (FieldType.int)), rmK 2 1 1)
theorem bX11_gaols : CB MX11_gaols 3 := ⟨by decide +kernel, by decide +kernel, tl_3 123 rfl rfl, in_X11⟩
theorem sX11_gaols : CV MX11_gaols 3 := ⟨bX11_gaols, tl_3 121 rfl rfl, tl_3 122 rfl rfl⟩
def MX11_sheet : MD := (yX11_sheet, cX11_sheet, 4, (some (FieldType.int)), rmK 2 0 0)
theorem bX11_sheet : CB MX11_sheet 3 := ⟨by decide +kernel, by decide +kernel, tl_3 147 rfl rfl, in_X11⟩
theorem sX11_sheet : CV MX11_sheet 3 := ⟨bX11_sheet, tl_3 145 rfl rfl, tl_3 146 rfl rfl⟩
def MX11_lose : MD := (yX11_lose, cX11_lose, 2, (some (FieldType.int)), rmK 1 0 0)
theorem bX11_lose : CB MX11_lose 1 := ⟨by decide +kernel, by decide +kernel, tl_3 160 rfl rfl, in_X11⟩
theorem sX11_lose : CV MX11_lose 1 := ⟨bX11_lose, tl_3 158 rfl rfl, tl_3 159 rfl rfl⟩
def MX11_lay : MD := (yX11_lay, cX11_lay, 6, (some (FieldType.int)), rmK 1 0 0)
theorem bX11_lay : CB MX11_lay 4 := ⟨by decide +kernel, by decide +kernel, tl_3 164 rfl rfl, in_X11⟩
theorem sX11_lay : CV MX11_lay 4 := ⟨bX11_lay, tl_3 162 rfl rfl, tl_3 163 rfl rfl⟩
def MX11_get : MD := (yX11_get, cX11_get, 5, (some (FieldType.int)), rmK 1 0 0)
theorem bX11_get : CB MX11_get 3 := ⟨by decide +kernel, by decide +kernel, tl_3 176 rfl rfl, in_X11⟩
theorem sX11_get : CV MX11_get 3 := ⟨bX11_get, tl_3 174 rfl rfl, tl_3 175 rfl rfl⟩
def MX11_copy : MD := (yX11_copy, cX11_copy, 8, (some (FieldType.int)), rmK 1 0 0)
theorem bX11_copy : CB MX11_copy 5 := ⟨by decide +kernel, by decide +kernel, tl_3 181 rfl rfl, in_X11⟩
theorem sX11_copy : CV MX11_copy 5 := ⟨bX11_copy, tl_3 179 rfl rfl, tl_3 180 rfl rfl⟩
def MX11_write : MD := (yX11_write, cX11_write, 5, (some (FieldType.int)), rmK 1 0 0)
theorem bX11_write : CB MX11_write 1 := ⟨by decide +kernel, by decide +kernel, tl_3 192 rfl rfl, in_X11⟩
theorem sX11_write : CV MX11_write 1 := ⟨bX11_write, tl_3 190 rfl rfl, tl_3 191 rfl rfl⟩
def MX11_count : MD := (yX11_count, cX11_count, 2, (some (FieldType.int)), rmK 2 0 0)
theorem bX11_count : CB MX11_count 1 := ⟨by decide +kernel, by decide +kernel, tl_3 197 rfl rfl, in_X11⟩
theorem sX11_count : CV MX11_count 1 := ⟨bX11_count, tl_3 195 rfl rfl, tl_3 196 rfl rfl⟩
def MX11_digest : MD := (yX11_digest, cX11_digest, 4, (some (FieldType.long)), rmK 7 2 2)
theorem bX11_digest : CB MX11_digest 0 := ⟨by decide +kernel, by decide +kernel, tl_3 209 rfl rfl, in_X11⟩
theorem sX11_digest : CV MX11_digest 0 := ⟨bX11_digest, tl_3 207 rfl rfl, tl_3 208 rfl rfl⟩
def MX11_digestOfFelons : MD := (yX11_digestOfFelons, cX11_digestOfFelons, 7, (some (FieldType.long)), rmK 6 0 0)
theorem bX11_digestOfFelons : CB MX11_digestOfFelons 1 := ⟨by decide +kernel, by decide +kernel, tl_3 217 rfl rfl, in_X11⟩
theorem sX11_digestOfFelons : CV MX11_digestOfFelons 1 := ⟨bX11_digestOfFelons, tl_3 216 rfl rfl, tl_0 17 rfl rfl⟩
def MX11_digestOfNames : MD := (yX11_digestOfNames, cX11_digestOfNames, 6, (some (FieldType.long)), rmK 2 0 0)
theorem bX11_digestOfNames : CB MX11_digestOfNames 1 := ⟨by decide +kernel, by decide +kernel, tl_3 225 rfl rfl, in_X11⟩
theorem sX11_digestOfNames : CV MX11_digestOfNames 1 := ⟨bX11_digestOfNames, tl_3 224 rfl rfl, tl_0 18 rfl rfl⟩
def MX11_digestOfPlans : MD := (yX11_digestOfPlans, cX11_digestOfPlans, 5, (some (FieldType.long)), rmK 6 0 0)
theorem bX11_digestOfPlans : CB MX11_digestOfPlans 1 := ⟨by decide +kernel, by decide +kernel, tl_3 233 rfl rfl, in_X11⟩
theorem sX11_digestOfPlans : CV MX11_digestOfPlans 1 := ⟨bX11_digestOfPlans, tl_3 232 rfl rfl, tl_0 19 rfl rfl⟩
def MX11_isText : MD := (yX11_isText, cX11_isText, 1, (some (FieldType.boolean)), rmK 0 0 0)
theorem bX11_isText : CB MX11_isText 1 := ⟨by decide +kernel, by decide +kernel, tl_2 44 rfl rfl, in_X11⟩
theorem sX11_isText : CS MX11_isText 1 := ⟨bX11_isText, tl_2 43 rfl rfl⟩
def MX11_isEither : MD := (yX11_isEither, cX11_isEither, 1, (some (FieldType.boolean)), rmK 0 0 0)
theorem bX11_isEither : CB MX11_isEither 1 := ⟨by decide +kernel, by decide +kernel, tl_2 176 rfl rfl, in_X11⟩
theorem sX11_isEither : CS MX11_isEither 1 := ⟨bX11_isEither, tl_2 175 rfl rfl⟩
def MX11_isSheet : MD := (yX11_isSheet, cX11_isSheet, 1, (some (FieldType.boolean)), rmK 0 0 0)
theorem bX11_isSheet : CB MX11_isSheet 1 := ⟨by decide +kernel, by decide +kernel, tl_3 84 rfl rfl, in_X11⟩
theorem sX11_isSheet : CS MX11_isSheet 1 := ⟨bX11_isSheet, tl_3 83 rfl rfl⟩
def MX11_isForm : MD := (yX11_isForm, cX11_isForm, 1, (some (FieldType.boolean)), rmK 0 0 0)
theorem bX11_isForm : CB MX11_isForm 1 := ⟨by decide +kernel, by decide +kernel, tl_3 150 rfl rfl, in_X11⟩
theorem sX11_isForm : CS MX11_isForm 1 := ⟨bX11_isForm, tl_3 149 rfl rfl⟩
def MX11_longRefusal : MD := (yX11_longRefusal, cX11_longRefusal, 1, (some (FieldType.long)), rmK 0 0 0)
theorem bX11_longRefusal : CB MX11_longRefusal 1 := ⟨by decide +kernel, by decide +kernel, tl_2 191 rfl rfl, in_X11⟩
theorem sX11_longRefusal : CS MX11_longRefusal 1 := ⟨bX11_longRefusal, tl_2 190 rfl rfl⟩
def MX11_isNumberOfNames : MD := (yX11_isNumberOfNames, cX11_isNumberOfNames, 2, (some (FieldType.boolean)), rmK 0 0 0)
theorem bX11_isNumberOfNames : CB MX11_isNumberOfNames 1 := ⟨by decide +kernel, by decide +kernel, tl_2 184 rfl rfl, in_X11⟩
theorem sX11_isNumberOfNames : CV MX11_isNumberOfNames 1 := ⟨bX11_isNumberOfNames, tl_2 183 rfl rfl, tl_0 5 rfl rfl⟩
def MX11_textOf : MD := (yX11_textOf, cX11_textOf, 2, (some ((FieldType.object "ApproverWins$Text"))), rmK 0 0 0)
theorem bX11_textOf : CB MX11_textOf 1 := ⟨by decide +kernel, by decide +kernel, tl_2 48 rfl rfl, in_X11⟩
theorem sX11_textOf : CV MX11_textOf 1 := ⟨bX11_textOf, tl_2 47 rfl rfl, tl_0 0 rfl rfl⟩
def MX11_finding : MD := (yX11_finding, cX11_finding, 2, (some (FieldType.int)), rmK 0 0 0)
theorem bX11_finding : CB MX11_finding 1 := ⟨by decide +kernel, by decide +kernel, tl_3 88 rfl rfl, in_X11⟩
theorem sX11_finding : CV MX11_finding 1 := ⟨bX11_finding, tl_3 87 rfl rfl, tl_0 14 rfl rfl⟩
def MX11_readAnew : MD := (yX11_readAnew, cX11_readAnew, 2, none, rmK 5 0 0)
theorem bX11_readAnew : CB MX11_readAnew 1 := ⟨by decide +kernel, by decide +kernel, tl_2 60 rfl rfl, in_X11⟩
theorem sX11_readAnew : CV MX11_readAnew 1 := ⟨bX11_readAnew, tl_2 59 rfl rfl, tl_0 1 rfl rfl⟩
def MX11_reckonAnew : MD := (yX11_reckonAnew, cX11_reckonAnew, 1, none, rmK 4 0 0)
theorem bX11_reckonAnew : CB MX11_reckonAnew 0 := ⟨by decide +kernel, by decide +kernel, tl_2 90 rfl rfl, in_X11⟩
theorem sX11_reckonAnew : CV MX11_reckonAnew 0 := ⟨bX11_reckonAnew, tl_2 89 rfl rfl, tl_0 2 rfl rfl⟩
def MX11_tryBribe : MD := (yX11_tryBribe, cX11_tryBribe, 2, none, rmK 4 0 0)
theorem bX11_tryBribe : CB MX11_tryBribe 1 := ⟨by decide +kernel, by decide +kernel, tl_3 49 rfl rfl, in_X11⟩
theorem sX11_tryBribe : CV MX11_tryBribe 1 := ⟨bX11_tryBribe, tl_3 48 rfl rfl, tl_0 13 rfl rfl⟩
def MX11_tallyFates : MD := (yX11_tallyFates, cX11_tallyFates, 3, none, rmK 5 0 0)
theorem bX11_tallyFates : CB MX11_tallyFates 0 := ⟨by decide +kernel, by decide +kernel, tl_3 114 rfl rfl, in_X11⟩
theorem sX11_tallyFates : CV MX11_tallyFates 0 := ⟨bX11_tallyFates, tl_3 113 rfl rfl, tl_0 15 rfl rfl⟩
def MX11_mostAlike : MD := (yX11_mostAlike, cX11_mostAlike, 4, (some (FieldType.int)), rmK 1 0 0)
theorem bX11_mostAlike : CB MX11_mostAlike 1 := ⟨by decide +kernel, by decide +kernel, tl_3 118 rfl rfl, in_X11⟩
theorem sX11_mostAlike : CV MX11_mostAlike 1 := ⟨bX11_mostAlike, tl_3 117 rfl rfl, tl_0 16 rfl rfl⟩
def MX12_init : MD := (yX12_init, cX12_init, 2, none, rmK 1 20 622)
theorem bX12_init : CB MX12_init 0 := ⟨by decide +kernel, by decide +kernel, tl_4 8 rfl rfl, in_X12⟩
theorem sX12_init : CI MX12_init 0 := ⟨bX12_init, tl_4 7 rfl rfl, rfl⟩
def MX12_in : MD := (yX12_in, cX12_in, 6, (some (FieldType.boolean)), rmK 0 0 0)
theorem bX12_in : CB MX12_in 3 := ⟨by decide +kernel, by decide +kernel, tl_4 102 rfl rfl, in_X12⟩
theorem sX12_in : CS MX12_in 3 := ⟨bX12_in, tl_4 101 rfl rfl⟩
def MX12_no : MD := (yX12_no, cX12_no, 1, (some (FieldType.long)), rmK 0 0 0)
theorem bX12_no : CB MX12_no 1 := ⟨by decide +kernel, by decide +kernel, tl_5 7 rfl rfl, in_X12⟩
theorem sX12_no : CS MX12_no 1 := ⟨bX12_no, tl_5 6 rfl rfl⟩
def MX12_isTwo : MD := (yX12_isTwo, cX12_isTwo, 1, (some (FieldType.boolean)), rmK 1 0 0)
theorem bX12_isTwo : CB MX12_isTwo 1 := ⟨by decide +kernel, by decide +kernel, tl_4 138 rfl rfl, in_X12⟩
theorem sX12_isTwo : CS MX12_isTwo 1 := ⟨bX12_isTwo, tl_4 137 rfl rfl⟩
def MX12_isIn : MD := (yX12_isIn, cX12_isIn, 2, (some (FieldType.boolean)), rmK 0 0 0)
theorem bX12_isIn : CB MX12_isIn 2 := ⟨by decide +kernel, by decide +kernel, tl_4 203 rfl rfl, in_X12⟩
theorem sX12_isIn : CS MX12_isIn 2 := ⟨bX12_isIn, tl_4 202 rfl rfl⟩
def MX12_lesser : MD := (yX12_lesser, cX12_lesser, 2, (some (FieldType.int)), rmK 0 0 0)
theorem bX12_lesser : CB MX12_lesser 2 := ⟨by decide +kernel, by decide +kernel, tl_4 217 rfl rfl, in_X12⟩
theorem sX12_lesser : CS MX12_lesser 2 := ⟨bX12_lesser, tl_4 216 rfl rfl⟩
def MX12_greater : MD := (yX12_greater, cX12_greater, 2, (some (FieldType.int)), rmK 0 0 0)
theorem bX12_greater : CB MX12_greater 2 := ⟨by decide +kernel, by decide +kernel, tl_4 214 rfl rfl, in_X12⟩
theorem sX12_greater : CS MX12_greater 2 := ⟨bX12_greater, tl_4 213 rfl rfl⟩
def MX12_part : MD := (yX12_part, cX12_part, 11, (some (FieldType.long)), rmK 0 0 0)
theorem bX12_part : CB MX12_part 3 := ⟨by decide +kernel, by decide +kernel, tl_5 4 rfl rfl, in_X12⟩
theorem sX12_part : CS MX12_part 3 := ⟨bX12_part, tl_5 3 rfl rfl⟩
def MX12_finds : MD := (yX12_finds, cX12_finds, 2, (some (FieldType.int)), rmK 0 0 0)
theorem bX12_finds : CB MX12_finds 1 := ⟨by decide +kernel, by decide +kernel, tl_4 107 rfl rfl, in_X12⟩
theorem sX12_finds : CV MX12_finds 1 := ⟨bX12_finds, tl_4 106 rfl rfl, tl_0 20 rfl rfl⟩
def MX12_isSheet : MD := (yX12_isSheet, cX12_isSheet, 1, (some (FieldType.boolean)), rmK 1 0 0)
theorem bX12_isSheet : CB MX12_isSheet 1 := ⟨by decide +kernel, by decide +kernel, tl_4 98 rfl rfl, in_X12⟩
theorem sX12_isSheet : CS MX12_isSheet 1 := ⟨bX12_isSheet, tl_4 97 rfl rfl⟩
def MX12_sheet : MD := (yX12_sheet, cX12_sheet, 5, (some (FieldType.int)), rmK 2 0 0)
theorem bX12_sheet : CB MX12_sheet 3 := ⟨by decide +kernel, by decide +kernel, tl_4 95 rfl rfl, in_X12⟩
theorem sX12_sheet : CV MX12_sheet 3 := ⟨bX12_sheet, tl_4 93 rfl rfl, tl_4 94 rfl rfl⟩
def MX12_lose : MD := (yX12_lose, cX12_lose, 2, (some (FieldType.int)), rmK 2 0 0)
theorem bX12_lose : CB MX12_lose 1 := ⟨by decide +kernel, by decide +kernel, tl_4 111 rfl rfl, in_X12⟩
theorem sX12_lose : CV MX12_lose 1 := ⟨bX12_lose, tl_4 109 rfl rfl, tl_4 110 rfl rfl⟩
def MX12_lacks : MD := (yX12_lacks, cX12_lacks, 4, (some (FieldType.int)), rmK 1 0 0)
theorem bX12_lacks : CB MX12_lacks 3 := ⟨by decide +kernel, by decide +kernel, tl_4 119 rfl rfl, in_X12⟩
theorem sX12_lacks : CV MX12_lacks 3 := ⟨bX12_lacks, tl_4 118 rfl rfl, tl_0 21 rfl rfl⟩
def MX12_cut : MD := (yX12_cut, cX12_cut, 2, (some (FieldType.int)), rmK 0 0 0)
theorem bX12_cut : CB MX12_cut 2 := ⟨by decide +kernel, by decide +kernel, tl_4 122 rfl rfl, in_X12⟩
theorem sX12_cut : CS MX12_cut 2 := ⟨bX12_cut, tl_4 121 rfl rfl⟩
def MX12_lay : MD := (yX12_lay, cX12_lay, 6, (some (FieldType.int)), rmK 2 0 0)
theorem bX12_lay : CB MX12_lay 4 := ⟨by decide +kernel, by decide +kernel, tl_4 115 rfl rfl, in_X12⟩
theorem sX12_lay : CV MX12_lay 4 := ⟨bX12_lay, tl_4 113 rfl rfl, tl_4 114 rfl rfl⟩
def MX12_get : MD := (yX12_get, cX12_get, 4, (some (FieldType.int)), rmK 2 0 0)
theorem bX12_get : CB MX12_get 3 := ⟨by decide +kernel, by decide +kernel, tl_4 126 rfl rfl, in_X12⟩
theorem sX12_get : CV MX12_get 3 := ⟨bX12_get, tl_4 124 rfl rfl, tl_4 125 rfl rfl⟩
def MX12_copy : MD := (yX12_copy, cX12_copy, 7, (some (FieldType.int)), rmK 2 0 0)
theorem bX12_copy : CB MX12_copy 5 := ⟨by decide +kernel, by decide +kernel, tl_4 131 rfl rfl, in_X12⟩
theorem sX12_copy : CV MX12_copy 5 := ⟨bX12_copy, tl_4 129 rfl rfl, tl_4 130 rfl rfl⟩
def MX12_type : MD := (yX12_type, cX12_type, 3, (some (FieldType.int)), rmK 2 0 0)
theorem bX12_type : CB MX12_type 2 := ⟨by decide +kernel, by decide +kernel, tl_4 135 rfl rfl, in_X12⟩
theorem sX12_type : CV MX12_type 2 := ⟨bX12_type, tl_4 133 rfl rfl, tl_4 134 rfl rfl⟩
def MX12_wipe : MD := (yX12_wipe, cX12_wipe, 3, (some (FieldType.int)), rmK 2 0 0)
theorem bX12_wipe : CB MX12_wipe 1 := ⟨by decide +kernel, by decide +kernel, tl_4 143 rfl rfl, in_X12⟩
theorem sX12_wipe : CV MX12_wipe 1 := ⟨bX12_wipe, tl_4 141 rfl rfl, tl_4 142 rfl rfl⟩
def MX12_undo : MD := (yX12_undo, cX12_undo, 2, (some (FieldType.int)), rmK 2 0 0)
theorem bX12_undo : CB MX12_undo 1 := ⟨by decide +kernel, by decide +kernel, tl_4 147 rfl rfl, in_X12⟩
theorem sX12_undo : CV MX12_undo 1 := ⟨bX12_undo, tl_4 145 rfl rfl, tl_4 146 rfl rfl⟩
def MX12_figureOf : MD := (yX12_figureOf, cX12_figureOf, 2, (some (FieldType.int)), rmK 1 0 0)
theorem bX12_figureOf : CB MX12_figureOf 2 := ⟨by decide +kernel, by decide +kernel, tl_4 161 rfl rfl, in_X12⟩
theorem sX12_figureOf : CS MX12_figureOf 2 := ⟨bX12_figureOf, tl_4 160 rfl rfl⟩
def MX12_felonOf : MD := (yX12_felonOf, cX12_felonOf, 2, (some (FieldType.int)), rmK 2 0 0)
theorem bX12_felonOf : CB MX12_felonOf 2 := ⟨by decide +kernel, by decide +kernel, tl_4 158 rfl rfl, in_X12⟩
theorem sX12_felonOf : CS MX12_felonOf 2 := ⟨bX12_felonOf, tl_4 157 rfl rfl⟩
def MX12_readsFelons : MD := (yX12_readsFelons, cX12_readsFelons, 5, (some (FieldType.int)), rmK 3 0 0)
theorem bX12_readsFelons : CB MX12_readsFelons 0 := ⟨by decide +kernel, by decide +kernel, tl_4 155 rfl rfl, in_X12⟩
theorem sX12_readsFelons : CV MX12_readsFelons 0 := ⟨bX12_readsFelons, tl_4 154 rfl rfl, tl_0 22 rfl rfl⟩
def MX12_readsNames : MD := (yX12_readsNames, cX12_readsNames, 3, (some (FieldType.int)), rmK 1 0 0)
theorem bX12_readsNames : CB MX12_readsNames 0 := ⟨by decide +kernel, by decide +kernel, tl_4 166 rfl rfl, in_X12⟩
theorem sX12_readsNames : CV MX12_readsNames 0 := ⟨bX12_readsNames, tl_4 165 rfl rfl, tl_0 23 rfl rfl⟩
def MX12_fault : MD := (yX12_fault, cX12_fault, 2, (some (FieldType.int)), rmK 4 0 0)
theorem bX12_fault : CB MX12_fault 1 := ⟨by decide +kernel, by decide +kernel, tl_4 151 rfl rfl, in_X12⟩
theorem sX12_fault : CV MX12_fault 1 := ⟨bX12_fault, tl_4 149 rfl rfl, tl_4 150 rfl rfl⟩
def MX12_isFelon : MD := (yX12_isFelon, cX12_isFelon, 2, (some (FieldType.boolean)), rmK 1 0 0)
theorem bX12_isFelon : CB MX12_isFelon 1 := ⟨by decide +kernel, by decide +kernel, tl_4 176 rfl rfl, in_X12⟩
theorem sX12_isFelon : CV MX12_isFelon 1 := ⟨bX12_isFelon, tl_4 175 rfl rfl, tl_0 24 rfl rfl⟩
def MX12_felon : MD := (yX12_felon, cX12_felon, 3, (some (FieldType.int)), rmK 4 0 0)
theorem bX12_felon : CB MX12_felon 2 := ⟨by decide +kernel, by decide +kernel, tl_4 172 rfl rfl, in_X12⟩
theorem sX12_felon : CV MX12_felon 2 := ⟨bX12_felon, tl_4 170 rfl rfl, tl_4 171 rfl rfl⟩
def MX12_name : MD := (yX12_name, cX12_name, 2, (some (FieldType.int)), rmK 2 0 0)
theorem bX12_name : CB MX12_name 1 := ⟨by decide +kernel, by decide +kernel, tl_4 181 rfl rfl, in_X12⟩
theorem sX12_name : CV MX12_name 1 := ⟨bX12_name, tl_4 179 rfl rfl, tl_4 180 rfl rfl⟩
def MX12_set : MD := (yX12_set, cX12_set, 4, (some (FieldType.int)), rmK 1 0 0)
theorem bX12_set : CB MX12_set 2 := ⟨by decide +kernel, by decide +kernel, tl_4 186 rfl rfl, in_X12⟩
theorem sX12_set : CV MX12_set 2 := ⟨bX12_set, tl_4 184 rfl rfl, tl_4 185 rfl rfl⟩
def MX12_endOf : MD := (yX12_endOf, cX12_endOf, 3, (some (FieldType.int)), rmK 0 0 0)
theorem bX12_endOf : CB MX12_endOf 1 := ⟨by decide +kernel, by decide +kernel, tl_4 207 rfl rfl, in_X12⟩
theorem sX12_endOf : CV MX12_endOf 1 := ⟨bX12_endOf, tl_4 206 rfl rfl, tl_0 27 rfl rfl⟩
def MX12_winsBy : MD := (yX12_winsBy, cX12_winsBy, 3, (some (FieldType.int)), rmK 1 0 0)
theorem bX12_winsBy : CB MX12_winsBy 2 := ⟨by decide +kernel, by decide +kernel, tl_4 211 rfl rfl, in_X12⟩
theorem sX12_winsBy : CV MX12_winsBy 2 := ⟨bX12_winsBy, tl_4 210 rfl rfl, tl_0 28 rfl rfl⟩
def MX12_strongBehind : MD := (yX12_strongBehind, cX12_strongBehind, 3, (some (FieldType.int)), rmK 1 0 0)
theorem bX12_strongBehind : CB MX12_strongBehind 2 := ⟨by decide +kernel, by decide +kernel, tl_4 221 rfl rfl, in_X12⟩
theorem sX12_strongBehind : CV MX12_strongBehind 2 := ⟨bX12_strongBehind, tl_4 220 rfl rfl, tl_0 29 rfl rfl⟩
def MX12_goes : MD := (yX12_goes, cX12_goes, 5, none, rmK 2 0 0)
theorem bX12_goes : CB MX12_goes 0 := ⟨by decide +kernel, by decide +kernel, tl_4 200 rfl rfl, in_X12⟩
theorem sX12_goes : CV MX12_goes 0 := ⟨bX12_goes, tl_4 199 rfl rfl, tl_0 26 rfl rfl⟩
def MX12_find : MD := (yX12_find, cX12_find, 1, none, rmK 4 0 0)
theorem bX12_find : CB MX12_find 0 := ⟨by decide +kernel, by decide +kernel, tl_4 196 rfl rfl, in_X12⟩
theorem sX12_find : CV MX12_find 0 := ⟨bX12_find, tl_4 195 rfl rfl, tl_0 25 rfl rfl⟩
def MX12_comes : MD := (yX12_comes, cX12_comes, 3, (some (FieldType.int)), rmK 5 0 0)
theorem bX12_comes : CB MX12_comes 2 := ⟨by decide +kernel, by decide +kernel, tl_4 192 rfl rfl, in_X12⟩
theorem sX12_comes : CV MX12_comes 2 := ⟨bX12_comes, tl_4 190 rfl rfl, tl_4 191 rfl rfl⟩
def MX12_behindOf : MD := (yX12_behindOf, cX12_behindOf, 3, (some (FieldType.int)), rmK 0 0 0)
theorem bX12_behindOf : CB MX12_behindOf 2 := ⟨by decide +kernel, by decide +kernel, tl_4 229 rfl rfl, in_X12⟩
theorem sX12_behindOf : CV MX12_behindOf 2 := ⟨bX12_behindOf, tl_4 228 rfl rfl, tl_0 30 rfl rfl⟩
def MX12_behind : MD := (yX12_behind, cX12_behind, 3, (some (FieldType.int)), rmK 5 0 0)
theorem bX12_behind : CB MX12_behind 2 := ⟨by decide +kernel, by decide +kernel, tl_4 225 rfl rfl, in_X12⟩
theorem sX12_behind : CV MX12_behind 2 := ⟨bX12_behind, tl_4 223 rfl rfl, tl_4 224 rfl rfl⟩
def MX12_aliveOf : MD := (yX12_aliveOf, cX12_aliveOf, 6, (some (FieldType.long)), rmK 0 0 0)
theorem bX12_aliveOf : CB MX12_aliveOf 1 := ⟨by decide +kernel, by decide +kernel, tl_4 237 rfl rfl, in_X12⟩
theorem sX12_aliveOf : CV MX12_aliveOf 1 := ⟨bX12_aliveOf, tl_4 236 rfl rfl, tl_0 31 rfl rfl⟩
def MX12_tells : MD := (yX12_tells, cX12_tells, 3, (some (FieldType.long)), rmK 1 0 0)
theorem bX12_tells : CB MX12_tells 2 := ⟨by decide +kernel, by decide +kernel, tl_5 0 rfl rfl, in_X12⟩
theorem sX12_tells : CS MX12_tells 2 := ⟨bX12_tells, tl_4 239 rfl rfl⟩
def MX12_alive : MD := (yX12_alive, cX12_alive, 3, (some (FieldType.long)), rmK 5 0 0)
theorem bX12_alive : CB MX12_alive 2 := ⟨by decide +kernel, by decide +kernel, tl_4 233 rfl rfl, in_X12⟩
theorem sX12_alive : CV MX12_alive 2 := ⟨bX12_alive, tl_4 231 rfl rfl, tl_4 232 rfl rfl⟩
def MX12_livesNow : MD := (yX12_livesNow, cX12_livesNow, 1, (some (FieldType.long)), rmK 1 0 0)
theorem bX12_livesNow : CB MX12_livesNow 0 := ⟨by decide +kernel, by decide +kernel, tl_5 16 rfl rfl, in_X12⟩
theorem sX12_livesNow : CV MX12_livesNow 0 := ⟨bX12_livesNow, tl_5 15 rfl rfl, tl_0 32 rfl rfl⟩
def MX12_lives : MD := (yX12_lives, cX12_lives, 2, (some (FieldType.long)), rmK 5 0 0)
theorem bX12_lives : CB MX12_lives 1 := ⟨by decide +kernel, by decide +kernel, tl_5 12 rfl rfl, in_X12⟩
theorem sX12_lives : CV MX12_lives 1 := ⟨bX12_lives, tl_5 10 rfl rfl, tl_5 11 rfl rfl⟩
def MX12_isHarmed : MD := (yX12_isHarmed, cX12_isHarmed, 2, (some (FieldType.boolean)), rmK 0 0 0)
theorem bX12_isHarmed : CB MX12_isHarmed 1 := ⟨by decide +kernel, by decide +kernel, tl_5 28 rfl rfl, in_X12⟩
theorem sX12_isHarmed : CV MX12_isHarmed 1 := ⟨bX12_isHarmed, tl_5 27 rfl rfl, tl_0 34 rfl rfl⟩
def MX12_harmNow : MD := (yX12_harmNow, cX12_harmNow, 4, (some (FieldType.long)), rmK 1 0 0)
theorem bX12_harmNow : CB MX12_harmNow 0 := ⟨by decide +kernel, by decide +kernel, tl_5 24 rfl rfl, in_X12⟩
theorem sX12_harmNow : CV MX12_harmNow 0 := ⟨bX12_harmNow, tl_5 23 rfl rfl, tl_0 33 rfl rfl⟩
def MX12_harm : MD := (yX12_harm, cX12_harm, 2, (some (FieldType.long)), rmK 5 0 0)
theorem bX12_harm : CB MX12_harm 1 := ⟨by decide +kernel, by decide +kernel, tl_5 20 rfl rfl, in_X12⟩
theorem sX12_harm : CV MX12_harm 1 := ⟨bX12_harm, tl_5 18 rfl rfl, tl_5 19 rfl rfl⟩
def MX12_worstNow : MD := (yX12_worstNow, cX12_worstNow, 3, (some (FieldType.int)), rmK 0 0 0)
theorem bX12_worstNow : CB MX12_worstNow 0 := ⟨by decide +kernel, by decide +kernel, tl_5 36 rfl rfl, in_X12⟩
theorem sX12_worstNow : CV MX12_worstNow 0 := ⟨bX12_worstNow, tl_5 35 rfl rfl, tl_0 35 rfl rfl⟩
def MX12_worst : MD := (yX12_worst, cX12_worst, 1, (some (FieldType.int)), rmK 5 0 0)
theorem bX12_worst : CB MX12_worst 0 := ⟨by decide +kernel, by decide +kernel, tl_5 32 rfl rfl, in_X12⟩
theorem sX12_worst : CV MX12_worst 0 := ⟨bX12_worst, tl_5 30 rfl rfl, tl_5 31 rfl rfl⟩
def MX12_fateOf : MD := (yX12_fateOf, cX12_fateOf, 3, (some (FieldType.int)), rmK 0 0 0)
theorem bX12_fateOf : CB MX12_fateOf 1 := ⟨by decide +kernel, by decide +kernel, tl_5 44 rfl rfl, in_X12⟩
theorem sX12_fateOf : CV MX12_fateOf 1 := ⟨bX12_fateOf, tl_5 43 rfl rfl, tl_0 36 rfl rfl⟩
def MX12_fate : MD := (yX12_fate, cX12_fate, 2, (some (FieldType.int)), rmK 5 0 0)
theorem bX12_fate : CB MX12_fate 1 := ⟨by decide +kernel, by decide +kernel, tl_5 40 rfl rfl, in_X12⟩
theorem sX12_fate : CV MX12_fate 1 := ⟨bX12_fate, tl_5 38 rfl rfl, tl_5 39 rfl rfl⟩
def MX12_adds : MD := (yX12_adds, cX12_adds, 4, none, rmK 2 0 0)
theorem bX12_adds : CB MX12_adds 2 := ⟨by decide +kernel, by decide +kernel, tl_5 58 rfl rfl, in_X12⟩
theorem sX12_adds : CV MX12_adds 2 := ⟨bX12_adds, tl_5 57 rfl rfl, tl_0 38 rfl rfl⟩
def MX12_keeps : MD := (yX12_keeps, cX12_keeps, 3, none, rmK 0 0 0)
theorem bX12_keeps : CB MX12_keeps 1 := ⟨by decide +kernel, by decide +kernel, tl_5 63 rfl rfl, in_X12⟩
theorem sX12_keeps : CV MX12_keeps 1 := ⟨bX12_keeps, tl_5 62 rfl rfl, tl_0 39 rfl rfl⟩
def MX12_findOrder : MD := (yX12_findOrder, cX12_findOrder, 4, none, rmK 3 0 0)
theorem bX12_findOrder : CB MX12_findOrder 0 := ⟨by decide +kernel, by decide +kernel, tl_5 54 rfl rfl, in_X12⟩
theorem sX12_findOrder : CV MX12_findOrder 0 := ⟨bX12_findOrder, tl_5 53 rfl rfl, tl_0 37 rfl rfl⟩
def MX12_orderBy : MD := (yX12_orderBy, cX12_orderBy, 2, (some (FieldType.int)), rmK 0 0 0)
theorem bX12_orderBy : CB MX12_orderBy 1 := ⟨by decide +kernel, by decide +kernel, tl_5 67 rfl rfl, in_X12⟩
theorem sX12_orderBy : CV MX12_orderBy 1 := ⟨bX12_orderBy, tl_5 66 rfl rfl, tl_0 40 rfl rfl⟩
def MX12_order : MD := (yX12_order, cX12_order, 2, (some (FieldType.int)), rmK 5 0 0)
theorem bX12_order : CB MX12_order 1 := ⟨by decide +kernel, by decide +kernel, tl_5 48 rfl rfl, in_X12⟩
theorem sX12_order : CV MX12_order 1 := ⟨bX12_order, tl_5 46 rfl rfl, tl_5 47 rfl rfl⟩
def MX12_best : MD := (yX12_best, cX12_best, 2, (some (FieldType.long)), rmK 5 0 0)
theorem bX12_best : CB MX12_best 1 := ⟨by decide +kernel, by decide +kernel, tl_5 71 rfl rfl, in_X12⟩
theorem sX12_best : CV MX12_best 1 := ⟨bX12_best, tl_5 69 rfl rfl, tl_5 70 rfl rfl⟩
def MX12_priceNow : MD := (yX12_priceNow, cX12_priceNow, 9, (some (FieldType.int)), rmK 3 0 0)
theorem bX12_priceNow : CB MX12_priceNow 0 := ⟨by decide +kernel, by decide +kernel, tl_5 79 rfl rfl, in_X12⟩
theorem sX12_priceNow : CV MX12_priceNow 0 := ⟨bX12_priceNow, tl_5 78 rfl rfl, tl_0 41 rfl rfl⟩
def MX12_price : MD := (yX12_price, cX12_price, 1, (some (FieldType.int)), rmK 5 0 0)
theorem bX12_price : CB MX12_price 0 := ⟨by decide +kernel, by decide +kernel, tl_5 75 rfl rfl, in_X12⟩
theorem sX12_price : CV MX12_price 0 := ⟨bX12_price, tl_5 73 rfl rfl, tl_5 74 rfl rfl⟩
def MX12_ruleOf : MD := (yX12_ruleOf, cX12_ruleOf, 5, (some (FieldType.int)), rmK 3 0 0)
theorem bX12_ruleOf : CB MX12_ruleOf 1 := ⟨by decide +kernel, by decide +kernel, tl_5 87 rfl rfl, in_X12⟩
theorem sX12_ruleOf : CV MX12_ruleOf 1 := ⟨bX12_ruleOf, tl_5 86 rfl rfl, tl_0 42 rfl rfl⟩
def MX12_rule : MD := (yX12_rule, cX12_rule, 2, (some (FieldType.int)), rmK 5 0 0)
theorem bX12_rule : CB MX12_rule 1 := ⟨by decide +kernel, by decide +kernel, tl_5 83 rfl rfl, in_X12⟩
theorem sX12_rule : CV MX12_rule 1 := ⟨bX12_rule, tl_5 81 rfl rfl, tl_5 82 rfl rfl⟩
def MX12_chainOf : MD := (yX12_chainOf, cX12_chainOf, 4, (some (FieldType.int)), rmK 2 0 0)
theorem bX12_chainOf : CB MX12_chainOf 1 := ⟨by decide +kernel, by decide +kernel, tl_5 95 rfl rfl, in_X12⟩
theorem sX12_chainOf : CV MX12_chainOf 1 := ⟨bX12_chainOf, tl_5 94 rfl rfl, tl_0 43 rfl rfl⟩
def MX12_chain : MD := (yX12_chain, cX12_chain, 2, (some (FieldType.int)), rmK 5 0 0)
theorem bX12_chain : CB MX12_chain 1 := ⟨by decide +kernel, by decide +kernel, tl_5 91 rfl rfl, in_X12⟩
theorem sX12_chain : CV MX12_chain 1 := ⟨bX12_chain, tl_5 89 rfl rfl, tl_5 90 rfl rfl⟩
def MX12_seen : MD := (yX12_seen, cX12_seen, 3, (some (FieldType.int)), rmK 1 0 0)
theorem bX12_seen : CB MX12_seen 2 := ⟨by decide +kernel, by decide +kernel, tl_5 99 rfl rfl, in_X12⟩
theorem sX12_seen : CV MX12_seen 2 := ⟨bX12_seen, tl_5 97 rfl rfl, tl_5 98 rfl rfl⟩
def MX12_forget : MD := (yX12_forget, cX12_forget, 2, (some (FieldType.int)), rmK 0 0 0)
theorem bX12_forget : CB MX12_forget 0 := ⟨by decide +kernel, by decide +kernel, tl_5 103 rfl rfl, in_X12⟩
theorem sX12_forget : CV MX12_forget 0 := ⟨bX12_forget, tl_5 101 rfl rfl, tl_5 102 rfl rfl⟩
def MX12_read : MD := (yX12_read, cX12_read, 4, (some (FieldType.int)), rmK 2 0 0)
theorem bX12_read : CB MX12_read 1 := ⟨by decide +kernel, by decide +kernel, tl_5 107 rfl rfl, in_X12⟩
theorem sX12_read : CV MX12_read 1 := ⟨bX12_read, tl_5 105 rfl rfl, tl_5 106 rfl rfl⟩
def MX12_isSeen : MD := (yX12_isSeen, cX12_isSeen, 3, (some (FieldType.boolean)), rmK 3 0 0)
theorem bX12_isSeen : CB MX12_isSeen 0 := ⟨by decide +kernel, by decide +kernel, tl_5 120 rfl rfl, in_X12⟩
theorem sX12_isSeen : CV MX12_isSeen 0 := ⟨bX12_isSeen, tl_5 119 rfl rfl, tl_0 45 rfl rfl⟩
def MX12_bribesNow : MD := (yX12_bribesNow, cX12_bribesNow, 4, (some (FieldType.int)), rmK 4 0 0)
theorem bX12_bribesNow : CB MX12_bribesNow 0 := ⟨by decide +kernel, by decide +kernel, tl_5 116 rfl rfl, in_X12⟩
theorem sX12_bribesNow : CV MX12_bribesNow 0 := ⟨bX12_bribesNow, tl_5 115 rfl rfl, tl_0 44 rfl rfl⟩
def MX12_bribes : MD := (yX12_bribes, cX12_bribes, 1, (some (FieldType.int)), rmK 5 0 0)
theorem bX12_bribes : CB MX12_bribes 0 := ⟨by decide +kernel, by decide +kernel, tl_5 112 rfl rfl, in_X12⟩
theorem sX12_bribes : CV MX12_bribes 0 := ⟨bX12_bribes, tl_5 110 rfl rfl, tl_5 111 rfl rfl⟩
def MX12_kindsOf : MD := (yX12_kindsOf, cX12_kindsOf, 5, (some (FieldType.int)), rmK 4 0 0)
theorem bX12_kindsOf : CB MX12_kindsOf 1 := ⟨by decide +kernel, by decide +kernel, tl_5 128 rfl rfl, in_X12⟩
theorem sX12_kindsOf : CV MX12_kindsOf 1 := ⟨bX12_kindsOf, tl_5 127 rfl rfl, tl_0 46 rfl rfl⟩
def MX12_kinds : MD := (yX12_kinds, cX12_kinds, 2, (some (FieldType.int)), rmK 5 0 0)
theorem bX12_kinds : CB MX12_kinds 1 := ⟨by decide +kernel, by decide +kernel, tl_5 124 rfl rfl, in_X12⟩
theorem sX12_kinds : CV MX12_kinds 1 := ⟨bX12_kinds, tl_5 122 rfl rfl, tl_5 123 rfl rfl⟩
def MX12_askNow : MD := (yX12_askNow, cX12_askNow, 8, (some (FieldType.int)), rmK 5 0 0)
theorem bX12_askNow : CB MX12_askNow 0 := ⟨by decide +kernel, by decide +kernel, tl_5 136 rfl rfl, in_X12⟩
theorem sX12_askNow : CV MX12_askNow 0 := ⟨bX12_askNow, tl_5 135 rfl rfl, tl_0 47 rfl rfl⟩
def MX12_ask : MD := (yX12_ask, cX12_ask, 1, (some (FieldType.int)), rmK 6 0 0)
theorem bX12_ask : CB MX12_ask 0 := ⟨by decide +kernel, by decide +kernel, tl_5 132 rfl rfl, in_X12⟩
theorem sX12_ask : CV MX12_ask 0 := ⟨bX12_ask, tl_5 130 rfl rfl, tl_5 131 rfl rfl⟩
def MX12_lot : MD := (yX12_lot, cX12_lot, 2, (some (FieldType.int)), rmK 0 0 0)
theorem bX12_lot : CB MX12_lot 1 := ⟨by decide +kernel, by decide +kernel, tl_5 149 rfl rfl, in_X12⟩
theorem sX12_lot : CV MX12_lot 1 := ⟨bX12_lot, tl_5 148 rfl rfl, tl_0 49 rfl rfl⟩
def MX12_gaolsOf : MD := (yX12_gaolsOf, cX12_gaolsOf, 8, (some (FieldType.int)), rmK 1 0 0)
theorem bX12_gaolsOf : CB MX12_gaolsOf 3 := ⟨by decide +kernel, by decide +kernel, tl_5 145 rfl rfl, in_X12⟩
theorem sX12_gaolsOf : CV MX12_gaolsOf 3 := ⟨bX12_gaolsOf, tl_5 144 rfl rfl, tl_0 48 rfl rfl⟩
def MX12_gaols : MD := (yX12_gaols, cX12_gaols, 4, (some (FieldType.int)), rmK 5 0 0)
theorem bX12_gaols : CB MX12_gaols 3 := ⟨by decide +kernel, by decide +kernel, tl_5 140 rfl rfl, in_X12⟩
theorem sX12_gaols : CV MX12_gaols 3 := ⟨bX12_gaols, tl_5 138 rfl rfl, tl_5 139 rfl rfl⟩
def MX12_write : MD := (yX12_write, cX12_write, 4, (some (FieldType.int)), rmK 5 0 0)
theorem bX12_write : CB MX12_write 1 := ⟨by decide +kernel, by decide +kernel, tl_5 154 rfl rfl, in_X12⟩
theorem sX12_write : CV MX12_write 1 := ⟨bX12_write, tl_5 152 rfl rfl, tl_5 153 rfl rfl⟩
def MX12_fights : MD := (yX12_fights, cX12_fights, 3, (some (FieldType.int)), rmK 0 0 0)
theorem bX12_fights : CB MX12_fights 0 := ⟨by decide +kernel, by decide +kernel, tl_5 162 rfl rfl, in_X12⟩
theorem sX12_fights : CV MX12_fights 0 := ⟨bX12_fights, tl_5 161 rfl rfl, tl_0 50 rfl rfl⟩
def MX12_named : MD := (yX12_named, cX12_named, 3, (some (FieldType.int)), rmK 1 0 0)
theorem bX12_named : CB MX12_named 0 := ⟨by decide +kernel, by decide +kernel, tl_5 166 rfl rfl, in_X12⟩
theorem sX12_named : CV MX12_named 0 := ⟨bX12_named, tl_5 165 rfl rfl, tl_0 51 rfl rfl⟩
def MX12_count : MD := (yX12_count, cX12_count, 2, (some (FieldType.int)), rmK 5 0 0)
theorem bX12_count : CB MX12_count 1 := ⟨by decide +kernel, by decide +kernel, tl_5 158 rfl rfl, in_X12⟩
theorem sX12_count : CV MX12_count 1 := ⟨bX12_count, tl_5 156 rfl rfl, tl_5 157 rfl rfl⟩
def MX12_tellsBoth : MD := (yX12_tellsBoth, cX12_tellsBoth, 4, (some (FieldType.long)), rmK 2 0 0)
theorem bX12_tellsBoth : CB MX12_tellsBoth 2 := ⟨by decide +kernel, by decide +kernel, tl_5 176 rfl rfl, in_X12⟩
theorem sX12_tellsBoth : CS MX12_tellsBoth 2 := ⟨bX12_tellsBoth, tl_5 175 rfl rfl⟩
def MX12_digest : MD := (yX12_digest, cX12_digest, 5, (some (FieldType.long)), rmK 6 0 0)
theorem bX12_digest : CB MX12_digest 0 := ⟨by decide +kernel, by decide +kernel, tl_5 170 rfl rfl, in_X12⟩
theorem sX12_digest : CV MX12_digest 0 := ⟨bX12_digest, tl_5 168 rfl rfl, tl_5 169 rfl rfl⟩
def MJ6_bitCount_0f7a4 : MD := (yJ6_bitCount_0f7a4, cJ6_bitCount_0f7a4, 1, (some (FieldType.int)), rmK 0 0 0)
theorem bJ6_bitCount_0f7a4 : CB MJ6_bitCount_0f7a4 1 := ⟨by decide +kernel, by decide +kernel, tl_3 14 rfl rfl, in_J6⟩
theorem sJ6_bitCount_0f7a4 : CS MJ6_bitCount_0f7a4 1 := ⟨bJ6_bitCount_0f7a4, tl_3 13 rfl rfl⟩
theorem sJ9_max_7cf53 : Cond.static yJ9_max_7cf53 ∈ tb := tl_1 32 rfl rfl
theorem wJ9_max_7cf53 : Cond.code yJ9_max_7cf53 cJ9_max_7cf53 2 (some (FieldType.int)) ∈ tb := tl_1 33 rfl rfl
theorem sJ9_max_f86c9 : Cond.static yJ9_max_f86c9 ∈ tb := tl_3 27 rfl rfl
theorem wJ9_max_f86c9 : Cond.code yJ9_max_f86c9 cJ9_max_f86c9 4 (some (FieldType.long)) ∈ tb := tl_3 28 rfl rfl
theorem sJ9_min_7cf53 : Cond.static yJ9_min_7cf53 ∈ tb := tl_2 79 rfl rfl
theorem wJ9_min_7cf53 : Cond.code yJ9_min_7cf53 cJ9_min_7cf53 2 (some (FieldType.int)) ∈ tb := tl_2 80 rfl rfl
end
section
theorem dX0_init_0 : decode cX0_init 0 = .ok (.aload_n 0, 1) := by decide +kernel
theorem dX0_init_1 : decode cX0_init 1 = .ok (.invokespecial 3, 3) := by decide +kernel
theorem dX0_init_4 : decode cX0_init 4 = .ok (.aload_n 0, 1) := by decide +kernel
theorem dX0_init_5 : decode cX0_init 5 = .ok (.bipush 12, 2) := by decide +kernel
theorem dX0_init_7 : decode cX0_init 7 = .ok (.newarray .int, 2) := by decide +kernel
theorem dX0_init_9 : decode cX0_init 9 = .ok (.putfield 9, 3) := by decide +kernel
theorem dX0_init_12 : decode cX0_init 12 = .ok (.aload_n 0, 1) := by decide +kernel
theorem dX0_init_13 : decode cX0_init 13 = .ok (.bipush 12, 2) := by decide +kernel
theorem dX0_init_15 : decode cX0_init 15 = .ok (.newarray .int, 2) := by decide +kernel
theorem dX0_init_17 : decode cX0_init 17 = .ok (.putfield 15, 3) := by decide +kernel
theorem dX0_init_20 : decode cX0_init 20 = .ok (.aload_n 0, 1) := by decide +kernel
theorem dX0_init_21 : decode cX0_init 21 = .ok (.bipush 13, 2) := by decide +kernel
theorem dX0_init_23 : decode cX0_init 23 = .ok (.newarray .int, 2) := by decide +kernel
theorem dX0_init_25 : decode cX0_init 25 = .ok (.putfield 18, 3) := by decide +kernel
theorem dX0_init_28 : decode cX0_init 28 = .ok (.aload_n 0, 1) := by decide +kernel
theorem dX0_init_29 : decode cX0_init 29 = .ok (.bipush 13, 2) := by decide +kernel
theorem dX0_init_31 : decode cX0_init 31 = .ok (.newarray .int, 2) := by decide +kernel
theorem dX0_init_33 : decode cX0_init 33 = .ok (.putfield 21, 3) := by decide +kernel
theorem dX0_init_36 : decode cX0_init 36 = .ok (.aload_n 0, 1) := by decide +kernel
theorem dX0_init_37 : decode cX0_init 37 = .ok (.bipush 13, 2) := by decide +kernel
theorem dX0_init_39 : decode cX0_init 39 = .ok (.newarray .long, 2) := by decide +kernel
theorem dX0_init_41 : decode cX0_init 41 = .ok (.putfield 24, 3) := by decide +kernel
theorem dX0_init_44 : decode cX0_init 44 = .ok (.aload_n 0, 1) := by decide +kernel
theorem dX0_init_45 : decode cX0_init 45 = .ok (.bipush 13, 2) := by decide +kernel
theorem dX0_init_47 : decode cX0_init 47 = .ok (.newarray .int, 2) := by decide +kernel
theorem dX0_init_49 : decode cX0_init 49 = .ok (.putfield 28, 3) := by decide +kernel
theorem dX0_init_52 : decode cX0_init 52 = .ok (.aload_n 0, 1) := by decide +kernel
theorem dX0_init_53 : decode cX0_init 53 = .ok (.bipush 8, 2) := by decide +kernel
theorem dX0_init_55 : decode cX0_init 55 = .ok (.newarray .int, 2) := by decide +kernel
theorem dX0_init_57 : decode cX0_init 57 = .ok (.putfield 31, 3) := by decide +kernel
theorem dX0_init_60 : decode cX0_init 60 = .ok (.return_, 1) := by decide +kernel
theorem dX0_setOut_0 : decode cX0_setOut 0 = .ok (.aload_n 0, 1) := by decide +kernel
theorem dX0_setOut_1 : decode cX0_setOut 1 = .ok (.iconst 0, 1) := by decide +kernel
theorem dX0_setOut_2 : decode cX0_setOut 2 = .ok (.putfield 34, 3) := by decide +kernel
theorem dX0_setOut_5 : decode cX0_setOut 5 = .ok (.aload_n 0, 1) := by decide +kernel
theorem dX0_setOut_6 : decode cX0_setOut 6 = .ok (.iload_n 2, 1) := by decide +kernel
theorem dX0_setOut_7 : decode cX0_setOut 7 = .ok (.putfield 38, 3) := by decide +kernel
theorem dX0_setOut_10 : decode cX0_setOut 10 = .ok (.aload_n 0, 1) := by decide +kernel
theorem dX0_setOut_11 : decode cX0_setOut 11 = .ok (.lconst 0, 1) := by decide +kernel
theorem dX0_setOut_12 : decode cX0_setOut 12 = .ok (.putfield 41, 3) := by decide +kernel
theorem dX0_setOut_15 : decode cX0_setOut 15 = .ok (.aload_n 0, 1) := by decide +kernel
theorem dX0_setOut_16 : decode cX0_setOut 16 = .ok (.getfield 18, 3) := by decide +kernel
theorem dX0_setOut_19 : decode cX0_setOut 19 = .ok (.iconst 0, 1) := by decide +kernel
theorem dX0_setOut_20 : decode cX0_setOut 20 = .ok (.iload_n 1, 1) := by decide +kernel
theorem dX0_setOut_21 : decode cX0_setOut 21 = .ok (.iastore, 1) := by decide +kernel
theorem dX0_setOut_22 : decode cX0_setOut 22 = .ok (.aload_n 0, 1) := by decide +kernel
theorem dX0_setOut_23 : decode cX0_setOut 23 = .ok (.getfield 21, 3) := by decide +kernel
theorem dX0_setOut_26 : decode cX0_setOut 26 = .ok (.iconst 0, 1) := by decide +kernel
theorem dX0_setOut_27 : decode cX0_setOut 27 = .ok (.iconst 0, 1) := by decide +kernel
theorem dX0_setOut_28 : decode cX0_setOut 28 = .ok (.iastore, 1) := by decide +kernel
theorem dX0_setOut_29 : decode cX0_setOut 29 = .ok (.aload_n 0, 1) := by decide +kernel
theorem dX0_setOut_30 : decode cX0_setOut 30 = .ok (.getfield 24, 3) := by decide +kernel
theorem dX0_setOut_33 : decode cX0_setOut 33 = .ok (.iconst 0, 1) := by decide +kernel
theorem dX0_setOut_34 : decode cX0_setOut 34 = .ok (.lconst 1, 1) := by decide +kernel
theorem dX0_setOut_35 : decode cX0_setOut 35 = .ok (.lastore, 1) := by decide +kernel
theorem dX0_setOut_36 : decode cX0_setOut 36 = .ok (.aload_n 0, 1) := by decide +kernel
theorem dX0_setOut_37 : decode cX0_setOut 37 = .ok (.getfield 28, 3) := by decide +kernel
theorem dX0_setOut_40 : decode cX0_setOut 40 = .ok (.iconst 0, 1) := by decide +kernel
theorem dX0_setOut_41 : decode cX0_setOut 41 = .ok (.iconst 0, 1) := by decide +kernel
theorem dX0_setOut_42 : decode cX0_setOut 42 = .ok (.iastore, 1) := by decide +kernel
theorem dX0_setOut_43 : decode cX0_setOut 43 = .ok (.iconst 0, 1) := by decide +kernel
theorem dX0_setOut_44 : decode cX0_setOut 44 = .ok (.istore_n 3, 1) := by decide +kernel
theorem dX0_setOut_45 : decode cX0_setOut 45 = .ok (.iload_n 3, 1) := by decide +kernel
theorem dX0_setOut_46 : decode cX0_setOut 46 = .ok (.bipush 8, 2) := by decide +kernel
theorem dX0_setOut_48 : decode cX0_setOut 48 = .ok (.if_icmp .ge 16, 3) := by decide +kernel
theorem dX0_setOut_51 : decode cX0_setOut 51 = .ok (.aload_n 0, 1) := by decide +kernel
theorem dX0_setOut_52 : decode cX0_setOut 52 = .ok (.getfield 31, 3) := by decide +kernel
theorem dX0_setOut_55 : decode cX0_setOut 55 = .ok (.iload_n 3, 1) := by decide +kernel
theorem dX0_setOut_56 : decode cX0_setOut 56 = .ok (.iconst (-1), 1) := by decide +kernel
theorem dX0_setOut_57 : decode cX0_setOut 57 = .ok (.iastore, 1) := by decide +kernel
theorem dX0_setOut_58 : decode cX0_setOut 58 = .ok (.iinc 3 1, 3) := by decide +kernel
theorem dX0_setOut_61 : decode cX0_setOut 61 = .ok (.goto (-16), 3) := by decide +kernel
theorem dX0_setOut_64 : decode cX0_setOut 64 = .ok (.return_, 1) := by decide +kernel
theorem dX0_walk_0 : decode cX0_walk 0 = .ok (.aload_n 0, 1) := by decide +kernel
theorem dX0_walk_1 : decode cX0_walk 1 = .ok (.iload_n 3, 1) := by decide +kernel
theorem dX0_walk_2 : decode cX0_walk 2 = .ok (.iload 4, 2) := by decide +kernel
theorem dX0_walk_4 : decode cX0_walk 4 = .ok (.invokevirtual 45, 3) := by decide +kernel
theorem dX0_walk_7 : decode cX0_walk 7 = .ok (.aload_n 0, 1) := by decide +kernel
theorem dX0_walk_8 : decode cX0_walk 8 = .ok (.aload_n 2, 1) := by decide +kernel
theorem dX0_walk_9 : decode cX0_walk 9 = .ok (.getfield 49, 3) := by decide +kernel
theorem dX0_walk_12 : decode cX0_walk 12 = .ok (.putfield 34, 3) := by decide +kernel
theorem dX0_walk_15 : decode cX0_walk 15 = .ok (.iconst 0, 1) := by decide +kernel
theorem dX0_walk_16 : decode cX0_walk 16 = .ok (.istore 6, 2) := by decide +kernel
theorem dX0_walk_18 : decode cX0_walk 18 = .ok (.iload 6, 2) := by decide +kernel
theorem dX0_walk_20 : decode cX0_walk 20 = .ok (.aload_n 0, 1) := by decide +kernel
theorem dX0_walk_21 : decode cX0_walk 21 = .ok (.getfield 34, 3) := by decide +kernel
theorem dX0_walk_24 : decode cX0_walk 24 = .ok (.if_icmp .ge 122, 3) := by decide +kernel
theorem dX0_walk_27 : decode cX0_walk 27 = .ok (.aload_n 2, 1) := by decide +kernel
theorem dX0_walk_28 : decode cX0_walk 28 = .ok (.iload 6, 2) := by decide +kernel
theorem dX0_walk_30 : decode cX0_walk 30 = .ok (.invokevirtual 54, 3) := by decide +kernel
theorem dX0_walk_33 : decode cX0_walk 33 = .ok (.istore 7, 2) := by decide +kernel
theorem dX0_walk_35 : decode cX0_walk 35 = .ok (.aload_n 0, 1) := by decide +kernel
theorem dX0_walk_36 : decode cX0_walk 36 = .ok (.getfield 21, 3) := by decide +kernel
theorem dX0_walk_39 : decode cX0_walk 39 = .ok (.iload 6, 2) := by decide +kernel
theorem dX0_walk_41 : decode cX0_walk 41 = .ok (.iaload, 1) := by decide +kernel
theorem dX0_walk_42 : decode cX0_walk 42 = .ok (.aload_n 0, 1) := by decide +kernel
theorem dX0_walk_43 : decode cX0_walk 43 = .ok (.getfield 38, 3) := by decide +kernel
theorem dX0_walk_46 : decode cX0_walk 46 = .ok (.if_icmp .ge 22, 3) := by decide +kernel
theorem dX0_walk_49 : decode cX0_walk 49 = .ok (.aload_n 1, 1) := by decide +kernel
theorem dX0_walk_50 : decode cX0_walk 50 = .ok (.iload 7, 2) := by decide +kernel
theorem dX0_walk_52 : decode cX0_walk 52 = .ok (.invokevirtual 58, 3) := by decide +kernel
theorem dX0_walk_55 : decode cX0_walk 55 = .ok (.ifCond .eq 13, 3) := by decide +kernel
theorem dX0_walk_58 : decode cX0_walk 58 = .ok (.aload_n 0, 1) := by decide +kernel
theorem dX0_walk_59 : decode cX0_walk 59 = .ok (.iload 7, 2) := by decide +kernel
theorem dX0_walk_61 : decode cX0_walk 61 = .ok (.invokevirtual 64, 3) := by decide +kernel
theorem dX0_walk_64 : decode cX0_walk 64 = .ok (.iconst (-1), 1) := by decide +kernel
theorem dX0_walk_65 : decode cX0_walk 65 = .ok (.if_icmp .eq 7, 3) := by decide +kernel
theorem dX0_walk_68 : decode cX0_walk 68 = .ok (.iconst 1, 1) := by decide +kernel
theorem dX0_walk_69 : decode cX0_walk 69 = .ok (.goto 4, 3) := by decide +kernel
theorem dX0_walk_72 : decode cX0_walk 72 = .ok (.iconst 0, 1) := by decide +kernel
theorem dX0_walk_73 : decode cX0_walk 73 = .ok (.istore 8, 2) := by decide +kernel
theorem dX0_walk_75 : decode cX0_walk 75 = .ok (.aload_n 0, 1) := by decide +kernel
theorem dX0_walk_76 : decode cX0_walk 76 = .ok (.getfield 9, 3) := by decide +kernel
theorem dX0_walk_79 : decode cX0_walk 79 = .ok (.iload 6, 2) := by decide +kernel
theorem dX0_walk_81 : decode cX0_walk 81 = .ok (.iload 8, 2) := by decide +kernel
theorem dX0_walk_83 : decode cX0_walk 83 = .ok (.ifCond .eq 7, 3) := by decide +kernel
theorem dX0_walk_86 : decode cX0_walk 86 = .ok (.iconst 0, 1) := by decide +kernel
theorem dX0_walk_87 : decode cX0_walk 87 = .ok (.goto 11, 3) := by decide +kernel
theorem dX0_walk_90 : decode cX0_walk 90 = .ok (.aload_n 1, 1) := by decide +kernel
theorem dX0_walk_91 : decode cX0_walk 91 = .ok (.iload 7, 2) := by decide +kernel
theorem dX0_walk_93 : decode cX0_walk 93 = .ok (.iload 5, 2) := by decide +kernel
theorem dX0_walk_95 : decode cX0_walk 95 = .ok (.invokevirtual 67, 3) := by decide +kernel
theorem dX0_walk_98 : decode cX0_walk 98 = .ok (.iastore, 1) := by decide +kernel
theorem dX0_walk_99 : decode cX0_walk 99 = .ok (.aload_n 0, 1) := by decide +kernel
theorem dX0_walk_100 : decode cX0_walk 100 = .ok (.iload 7, 2) := by decide +kernel
theorem dX0_walk_102 : decode cX0_walk 102 = .ok (.aload_n 0, 1) := by decide +kernel
theorem dX0_walk_103 : decode cX0_walk 103 = .ok (.getfield 9, 3) := by decide +kernel
theorem dX0_walk_106 : decode cX0_walk 106 = .ok (.iload 6, 2) := by decide +kernel
theorem dX0_walk_108 : decode cX0_walk 108 = .ok (.iaload, 1) := by decide +kernel
theorem dX0_walk_109 : decode cX0_walk 109 = .ok (.invokevirtual 71, 3) := by decide +kernel
theorem dX0_walk_112 : decode cX0_walk 112 = .ok (.aload_n 0, 1) := by decide +kernel
theorem dX0_walk_113 : decode cX0_walk 113 = .ok (.iload 6, 2) := by decide +kernel
theorem dX0_walk_115 : decode cX0_walk 115 = .ok (.aload_n 1, 1) := by decide +kernel
theorem dX0_walk_116 : decode cX0_walk 116 = .ok (.iload 7, 2) := by decide +kernel
theorem dX0_walk_118 : decode cX0_walk 118 = .ok (.iconst 1, 1) := by decide +kernel
theorem dX0_walk_119 : decode cX0_walk 119 = .ok (.invokevirtual 74, 3) := by decide +kernel
theorem dX0_walk_122 : decode cX0_walk 122 = .ok (.aload_n 1, 1) := by decide +kernel
theorem dX0_walk_123 : decode cX0_walk 123 = .ok (.iload 7, 2) := by decide +kernel
theorem dX0_walk_125 : decode cX0_walk 125 = .ok (.iconst 3, 1) := by decide +kernel
theorem dX0_walk_126 : decode cX0_walk 126 = .ok (.invokevirtual 74, 3) := by decide +kernel
theorem dX0_walk_129 : decode cX0_walk 129 = .ok (.ifCond .ne 7, 3) := by decide +kernel
theorem dX0_walk_132 : decode cX0_walk 132 = .ok (.iconst 1, 1) := by decide +kernel
theorem dX0_walk_133 : decode cX0_walk 133 = .ok (.goto 4, 3) := by decide +kernel
theorem dX0_walk_136 : decode cX0_walk 136 = .ok (.iconst 0, 1) := by decide +kernel
theorem dX0_walk_137 : decode cX0_walk 137 = .ok (.invokevirtual 77, 3) := by decide +kernel
theorem dX0_walk_140 : decode cX0_walk 140 = .ok (.iinc 6 1, 3) := by decide +kernel
theorem dX0_walk_143 : decode cX0_walk 143 = .ok (.goto (-125), 3) := by decide +kernel
theorem dX0_walk_146 : decode cX0_walk 146 = .ok (.return_, 1) := by decide +kernel
theorem dX0_markFate_0 : decode cX0_markFate 0 = .ok (.iload_n 1, 1) := by decide +kernel
theorem dX0_markFate_1 : decode cX0_markFate 1 = .ok (.ifCond .lt 26, 3) := by decide +kernel
theorem dX0_markFate_4 : decode cX0_markFate 4 = .ok (.iload_n 1, 1) := by decide +kernel
theorem dX0_markFate_5 : decode cX0_markFate 5 = .ok (.bipush 8, 2) := by decide +kernel
theorem dX0_markFate_7 : decode cX0_markFate 7 = .ok (.if_icmp .ge 20, 3) := by decide +kernel
theorem dX0_markFate_10 : decode cX0_markFate 10 = .ok (.aload_n 0, 1) := by decide +kernel
theorem dX0_markFate_11 : decode cX0_markFate 11 = .ok (.getfield 31, 3) := by decide +kernel
theorem dX0_markFate_14 : decode cX0_markFate 14 = .ok (.iload_n 1, 1) := by decide +kernel
theorem dX0_markFate_15 : decode cX0_markFate 15 = .ok (.iaload, 1) := by decide +kernel
theorem dX0_markFate_16 : decode cX0_markFate 16 = .ok (.iconst (-1), 1) := by decide +kernel
theorem dX0_markFate_17 : decode cX0_markFate 17 = .ok (.if_icmp .ne 10, 3) := by decide +kernel
theorem dX0_markFate_20 : decode cX0_markFate 20 = .ok (.aload_n 0, 1) := by decide +kernel
theorem dX0_markFate_21 : decode cX0_markFate 21 = .ok (.getfield 31, 3) := by decide +kernel
theorem dX0_markFate_24 : decode cX0_markFate 24 = .ok (.iload_n 1, 1) := by decide +kernel
theorem dX0_markFate_25 : decode cX0_markFate 25 = .ok (.iload_n 2, 1) := by decide +kernel
theorem dX0_markFate_26 : decode cX0_markFate 26 = .ok (.iastore, 1) := by decide +kernel
theorem dX0_markFate_27 : decode cX0_markFate 27 = .ok (.return_, 1) := by decide +kernel
theorem dX0_stepBehind_0 : decode cX0_stepBehind 0 = .ok (.aload_n 0, 1) := by decide +kernel
theorem dX0_stepBehind_1 : decode cX0_stepBehind 1 = .ok (.getfield 15, 3) := by decide +kernel
theorem dX0_stepBehind_4 : decode cX0_stepBehind 4 = .ok (.iload_n 1, 1) := by decide +kernel
theorem dX0_stepBehind_5 : decode cX0_stepBehind 5 = .ok (.aload_n 0, 1) := by decide +kernel
theorem dX0_stepBehind_6 : decode cX0_stepBehind 6 = .ok (.getfield 9, 3) := by decide +kernel
theorem dX0_stepBehind_9 : decode cX0_stepBehind 9 = .ok (.iload_n 1, 1) := by decide +kernel
theorem dX0_stepBehind_10 : decode cX0_stepBehind 10 = .ok (.iaload, 1) := by decide +kernel
theorem dX0_stepBehind_11 : decode cX0_stepBehind 11 = .ok (.aload_n 0, 1) := by decide +kernel
theorem dX0_stepBehind_12 : decode cX0_stepBehind 12 = .ok (.getfield 18, 3) := by decide +kernel
theorem dX0_stepBehind_15 : decode cX0_stepBehind 15 = .ok (.iload_n 1, 1) := by decide +kernel
theorem dX0_stepBehind_16 : decode cX0_stepBehind 16 = .ok (.iaload, 1) := by decide +kernel
theorem dX0_stepBehind_17 : decode cX0_stepBehind 17 = .ok (.iload_n 2, 1) := by decide +kernel
theorem dX0_stepBehind_18 : decode cX0_stepBehind 18 = .ok (.invokestatic 81, 3) := by decide +kernel
theorem dX0_stepBehind_21 : decode cX0_stepBehind 21 = .ok (.iastore, 1) := by decide +kernel
theorem dX0_stepBehind_22 : decode cX0_stepBehind 22 = .ok (.aload_n 0, 1) := by decide +kernel
theorem dX0_stepBehind_23 : decode cX0_stepBehind 23 = .ok (.getfield 18, 3) := by decide +kernel
theorem dX0_stepBehind_26 : decode cX0_stepBehind 26 = .ok (.iload_n 1, 1) := by decide +kernel
theorem dX0_stepBehind_27 : decode cX0_stepBehind 27 = .ok (.iconst 1, 1) := by decide +kernel
theorem dX0_stepBehind_28 : decode cX0_stepBehind 28 = .ok (.iadd, 1) := by decide +kernel
theorem dX0_stepBehind_29 : decode cX0_stepBehind 29 = .ok (.aload_n 0, 1) := by decide +kernel
theorem dX0_stepBehind_30 : decode cX0_stepBehind 30 = .ok (.getfield 9, 3) := by decide +kernel
theorem dX0_stepBehind_33 : decode cX0_stepBehind 33 = .ok (.iload_n 1, 1) := by decide +kernel
theorem dX0_stepBehind_34 : decode cX0_stepBehind 34 = .ok (.iaload, 1) := by decide +kernel
theorem dX0_stepBehind_35 : decode cX0_stepBehind 35 = .ok (.aload_n 0, 1) := by decide +kernel
theorem dX0_stepBehind_36 : decode cX0_stepBehind 36 = .ok (.getfield 18, 3) := by decide +kernel
theorem dX0_stepBehind_39 : decode cX0_stepBehind 39 = .ok (.iload_n 1, 1) := by decide +kernel
theorem dX0_stepBehind_40 : decode cX0_stepBehind 40 = .ok (.iaload, 1) := by decide +kernel
theorem dX0_stepBehind_41 : decode cX0_stepBehind 41 = .ok (.aload_n 0, 1) := by decide +kernel
theorem dX0_stepBehind_42 : decode cX0_stepBehind 42 = .ok (.getfield 18, 3) := by decide +kernel
theorem dX0_stepBehind_45 : decode cX0_stepBehind 45 = .ok (.iconst 0, 1) := by decide +kernel
theorem dX0_stepBehind_46 : decode cX0_stepBehind 46 = .ok (.iaload, 1) := by decide +kernel
theorem dX0_stepBehind_47 : decode cX0_stepBehind 47 = .ok (.invokestatic 86, 3) := by decide +kernel
theorem dX0_stepBehind_50 : decode cX0_stepBehind 50 = .ok (.iastore, 1) := by decide +kernel
theorem dX0_stepBehind_51 : decode cX0_stepBehind 51 = .ok (.aload_n 0, 1) := by decide +kernel
theorem dX0_stepBehind_52 : decode cX0_stepBehind 52 = .ok (.getfield 9, 3) := by decide +kernel
theorem dX0_stepBehind_55 : decode cX0_stepBehind 55 = .ok (.iload_n 1, 1) := by decide +kernel
theorem dX0_stepBehind_56 : decode cX0_stepBehind 56 = .ok (.iaload, 1) := by decide +kernel
theorem dX0_stepBehind_57 : decode cX0_stepBehind 57 = .ok (.invokestatic 89, 3) := by decide +kernel
theorem dX0_stepBehind_60 : decode cX0_stepBehind 60 = .ok (.istore 4, 2) := by decide +kernel
theorem dX0_stepBehind_62 : decode cX0_stepBehind 62 = .ok (.aload_n 0, 1) := by decide +kernel
theorem dX0_stepBehind_63 : decode cX0_stepBehind 63 = .ok (.getfield 21, 3) := by decide +kernel
theorem dX0_stepBehind_66 : decode cX0_stepBehind 66 = .ok (.iload_n 1, 1) := by decide +kernel
theorem dX0_stepBehind_67 : decode cX0_stepBehind 67 = .ok (.iconst 1, 1) := by decide +kernel
theorem dX0_stepBehind_68 : decode cX0_stepBehind 68 = .ok (.iadd, 1) := by decide +kernel
theorem dX0_stepBehind_69 : decode cX0_stepBehind 69 = .ok (.iload 4, 2) := by decide +kernel
theorem dX0_stepBehind_71 : decode cX0_stepBehind 71 = .ok (.ifCond .eq 14, 3) := by decide +kernel
theorem dX0_stepBehind_74 : decode cX0_stepBehind 74 = .ok (.aload_n 0, 1) := by decide +kernel
theorem dX0_stepBehind_75 : decode cX0_stepBehind 75 = .ok (.getfield 21, 3) := by decide +kernel
theorem dX0_stepBehind_78 : decode cX0_stepBehind 78 = .ok (.iload_n 1, 1) := by decide +kernel
theorem dX0_stepBehind_79 : decode cX0_stepBehind 79 = .ok (.iaload, 1) := by decide +kernel
theorem dX0_stepBehind_80 : decode cX0_stepBehind 80 = .ok (.iconst 1, 1) := by decide +kernel
theorem dX0_stepBehind_81 : decode cX0_stepBehind 81 = .ok (.iadd, 1) := by decide +kernel
theorem dX0_stepBehind_82 : decode cX0_stepBehind 82 = .ok (.goto 9, 3) := by decide +kernel
theorem dX0_stepBehind_85 : decode cX0_stepBehind 85 = .ok (.aload_n 0, 1) := by decide +kernel
theorem dX0_stepBehind_86 : decode cX0_stepBehind 86 = .ok (.getfield 21, 3) := by decide +kernel
theorem dX0_stepBehind_89 : decode cX0_stepBehind 89 = .ok (.iload_n 1, 1) := by decide +kernel
theorem dX0_stepBehind_90 : decode cX0_stepBehind 90 = .ok (.iaload, 1) := by decide +kernel
theorem dX0_stepBehind_91 : decode cX0_stepBehind 91 = .ok (.iastore, 1) := by decide +kernel
theorem dX0_stepBehind_92 : decode cX0_stepBehind 92 = .ok (.aload_n 0, 1) := by decide +kernel
theorem dX0_stepBehind_93 : decode cX0_stepBehind 93 = .ok (.getfield 24, 3) := by decide +kernel
theorem dX0_stepBehind_96 : decode cX0_stepBehind 96 = .ok (.iload_n 1, 1) := by decide +kernel
theorem dX0_stepBehind_97 : decode cX0_stepBehind 97 = .ok (.iconst 1, 1) := by decide +kernel
theorem dX0_stepBehind_98 : decode cX0_stepBehind 98 = .ok (.iadd, 1) := by decide +kernel
theorem dX0_stepBehind_99 : decode cX0_stepBehind 99 = .ok (.iload 4, 2) := by decide +kernel
theorem dX0_stepBehind_101 : decode cX0_stepBehind 101 = .ok (.ifCond .eq 20, 3) := by decide +kernel
theorem dX0_stepBehind_104 : decode cX0_stepBehind 104 = .ok (.aload_n 0, 1) := by decide +kernel
theorem dX0_stepBehind_105 : decode cX0_stepBehind 105 = .ok (.getfield 24, 3) := by decide +kernel
theorem dX0_stepBehind_108 : decode cX0_stepBehind 108 = .ok (.iload_n 1, 1) := by decide +kernel
theorem dX0_stepBehind_109 : decode cX0_stepBehind 109 = .ok (.laload, 1) := by decide +kernel
theorem dX0_stepBehind_110 : decode cX0_stepBehind 110 = .ok (.aload_n 0, 1) := by decide +kernel
theorem dX0_stepBehind_111 : decode cX0_stepBehind 111 = .ok (.getfield 15, 3) := by decide +kernel
theorem dX0_stepBehind_114 : decode cX0_stepBehind 114 = .ok (.iload_n 1, 1) := by decide +kernel
theorem dX0_stepBehind_115 : decode cX0_stepBehind 115 = .ok (.iaload, 1) := by decide +kernel
theorem dX0_stepBehind_116 : decode cX0_stepBehind 116 = .ok (.i2l, 1) := by decide +kernel
theorem dX0_stepBehind_117 : decode cX0_stepBehind 117 = .ok (.lmul, 1) := by decide +kernel
theorem dX0_stepBehind_118 : decode cX0_stepBehind 118 = .ok (.goto 9, 3) := by decide +kernel
theorem dX0_stepBehind_121 : decode cX0_stepBehind 121 = .ok (.aload_n 0, 1) := by decide +kernel
theorem dX0_stepBehind_122 : decode cX0_stepBehind 122 = .ok (.getfield 24, 3) := by decide +kernel
theorem dX0_stepBehind_125 : decode cX0_stepBehind 125 = .ok (.iload_n 1, 1) := by decide +kernel
theorem dX0_stepBehind_126 : decode cX0_stepBehind 126 = .ok (.laload, 1) := by decide +kernel
theorem dX0_stepBehind_127 : decode cX0_stepBehind 127 = .ok (.lastore, 1) := by decide +kernel
theorem dX0_stepBehind_128 : decode cX0_stepBehind 128 = .ok (.aload_n 0, 1) := by decide +kernel
theorem dX0_stepBehind_129 : decode cX0_stepBehind 129 = .ok (.getfield 28, 3) := by decide +kernel
theorem dX0_stepBehind_132 : decode cX0_stepBehind 132 = .ok (.iload_n 1, 1) := by decide +kernel
theorem dX0_stepBehind_133 : decode cX0_stepBehind 133 = .ok (.iconst 1, 1) := by decide +kernel
theorem dX0_stepBehind_134 : decode cX0_stepBehind 134 = .ok (.iadd, 1) := by decide +kernel
theorem dX0_stepBehind_135 : decode cX0_stepBehind 135 = .ok (.aload_n 0, 1) := by decide +kernel
theorem dX0_stepBehind_136 : decode cX0_stepBehind 136 = .ok (.getfield 28, 3) := by decide +kernel
theorem dX0_stepBehind_139 : decode cX0_stepBehind 139 = .ok (.iload_n 1, 1) := by decide +kernel
theorem dX0_stepBehind_140 : decode cX0_stepBehind 140 = .ok (.iaload, 1) := by decide +kernel
theorem dX0_stepBehind_141 : decode cX0_stepBehind 141 = .ok (.iastore, 1) := by decide +kernel
theorem dX0_stepBehind_142 : decode cX0_stepBehind 142 = .ok (.aload_n 0, 1) := by decide +kernel
theorem dX0_stepBehind_143 : decode cX0_stepBehind 143 = .ok (.getfield 9, 3) := by decide +kernel
theorem dX0_stepBehind_146 : decode cX0_stepBehind 146 = .ok (.iload_n 1, 1) := by decide +kernel
theorem dX0_stepBehind_147 : decode cX0_stepBehind 147 = .ok (.iaload, 1) := by decide +kernel
theorem dX0_stepBehind_148 : decode cX0_stepBehind 148 = .ok (.iconst 3, 1) := by decide +kernel
theorem dX0_stepBehind_149 : decode cX0_stepBehind 149 = .ok (.if_icmp .ne 50, 3) := by decide +kernel
theorem dX0_stepBehind_152 : decode cX0_stepBehind 152 = .ok (.iload_n 3, 1) := by decide +kernel
theorem dX0_stepBehind_153 : decode cX0_stepBehind 153 = .ok (.ifCond .eq 46, 3) := by decide +kernel
theorem dX0_stepBehind_156 : decode cX0_stepBehind 156 = .ok (.aload_n 0, 1) := by decide +kernel
theorem dX0_stepBehind_157 : decode cX0_stepBehind 157 = .ok (.getfield 28, 3) := by decide +kernel
theorem dX0_stepBehind_160 : decode cX0_stepBehind 160 = .ok (.iload_n 1, 1) := by decide +kernel
theorem dX0_stepBehind_161 : decode cX0_stepBehind 161 = .ok (.iconst 1, 1) := by decide +kernel
theorem dX0_stepBehind_162 : decode cX0_stepBehind 162 = .ok (.iadd, 1) := by decide +kernel
theorem dX0_stepBehind_163 : decode cX0_stepBehind 163 = .ok (.dup2, 1) := by decide +kernel
theorem dX0_stepBehind_164 : decode cX0_stepBehind 164 = .ok (.iaload, 1) := by decide +kernel
theorem dX0_stepBehind_165 : decode cX0_stepBehind 165 = .ok (.iconst 1, 1) := by decide +kernel
theorem dX0_stepBehind_166 : decode cX0_stepBehind 166 = .ok (.iadd, 1) := by decide +kernel
theorem dX0_stepBehind_167 : decode cX0_stepBehind 167 = .ok (.iastore, 1) := by decide +kernel
theorem dX0_stepBehind_168 : decode cX0_stepBehind 168 = .ok (.aload_n 0, 1) := by decide +kernel
theorem dX0_stepBehind_169 : decode cX0_stepBehind 169 = .ok (.dup, 1) := by decide +kernel
theorem dX0_stepBehind_170 : decode cX0_stepBehind 170 = .ok (.getfield 41, 3) := by decide +kernel
theorem dX0_stepBehind_173 : decode cX0_stepBehind 173 = .ok (.aload_n 0, 1) := by decide +kernel
theorem dX0_stepBehind_174 : decode cX0_stepBehind 174 = .ok (.getfield 24, 3) := by decide +kernel
theorem dX0_stepBehind_177 : decode cX0_stepBehind 177 = .ok (.iload_n 1, 1) := by decide +kernel
theorem dX0_stepBehind_178 : decode cX0_stepBehind 178 = .ok (.iconst 1, 1) := by decide +kernel
theorem dX0_stepBehind_179 : decode cX0_stepBehind 179 = .ok (.iadd, 1) := by decide +kernel
theorem dX0_stepBehind_180 : decode cX0_stepBehind 180 = .ok (.laload, 1) := by decide +kernel
theorem dX0_stepBehind_181 : decode cX0_stepBehind 181 = .ok (.iconst 4, 1) := by decide +kernel
theorem dX0_stepBehind_182 : decode cX0_stepBehind 182 = .ok (.bipush 8, 2) := by decide +kernel
theorem dX0_stepBehind_184 : decode cX0_stepBehind 184 = .ok (.aload_n 0, 1) := by decide +kernel
theorem dX0_stepBehind_185 : decode cX0_stepBehind 185 = .ok (.getfield 21, 3) := by decide +kernel
theorem dX0_stepBehind_188 : decode cX0_stepBehind 188 = .ok (.iload_n 1, 1) := by decide +kernel
theorem dX0_stepBehind_189 : decode cX0_stepBehind 189 = .ok (.iconst 1, 1) := by decide +kernel
theorem dX0_stepBehind_190 : decode cX0_stepBehind 190 = .ok (.iadd, 1) := by decide +kernel
theorem dX0_stepBehind_191 : decode cX0_stepBehind 191 = .ok (.iaload, 1) := by decide +kernel
theorem dX0_stepBehind_192 : decode cX0_stepBehind 192 = .ok (.isub, 1) := by decide +kernel
theorem dX0_stepBehind_193 : decode cX0_stepBehind 193 = .ok (.imul, 1) := by decide +kernel
theorem dX0_stepBehind_194 : decode cX0_stepBehind 194 = .ok (.lshl, 1) := by decide +kernel
theorem dX0_stepBehind_195 : decode cX0_stepBehind 195 = .ok (.ladd, 1) := by decide +kernel
theorem dX0_stepBehind_196 : decode cX0_stepBehind 196 = .ok (.putfield 41, 3) := by decide +kernel
theorem dX0_stepBehind_199 : decode cX0_stepBehind 199 = .ok (.return_, 1) := by decide +kernel
theorem dX0_fateOf_0 : decode cX0_fateOf 0 = .ok (.iload_n 1, 1) := by decide +kernel
theorem dX0_fateOf_1 : decode cX0_fateOf 1 = .ok (.ifCond .lt 18, 3) := by decide +kernel
theorem dX0_fateOf_4 : decode cX0_fateOf 4 = .ok (.iload_n 1, 1) := by decide +kernel
theorem dX0_fateOf_5 : decode cX0_fateOf 5 = .ok (.bipush 8, 2) := by decide +kernel
theorem dX0_fateOf_7 : decode cX0_fateOf 7 = .ok (.if_icmp .ge 12, 3) := by decide +kernel
theorem dX0_fateOf_10 : decode cX0_fateOf 10 = .ok (.aload_n 0, 1) := by decide +kernel
theorem dX0_fateOf_11 : decode cX0_fateOf 11 = .ok (.getfield 31, 3) := by decide +kernel
theorem dX0_fateOf_14 : decode cX0_fateOf 14 = .ok (.iload_n 1, 1) := by decide +kernel
theorem dX0_fateOf_15 : decode cX0_fateOf 15 = .ok (.iaload, 1) := by decide +kernel
theorem dX0_fateOf_16 : decode cX0_fateOf 16 = .ok (.goto 4, 3) := by decide +kernel
theorem dX0_fateOf_19 : decode cX0_fateOf 19 = .ok (.iconst (-1), 1) := by decide +kernel
theorem dX0_fateOf_20 : decode cX0_fateOf 20 = .ok (.ireturn, 1) := by decide +kernel
theorem dX0_hasAllWins_0 : decode cX0_hasAllWins 0 = .ok (.aload_n 0, 1) := by decide +kernel
theorem dX0_hasAllWins_1 : decode cX0_hasAllWins 1 = .ok (.getfield 21, 3) := by decide +kernel
theorem dX0_hasAllWins_4 : decode cX0_hasAllWins 4 = .ok (.aload_n 0, 1) := by decide +kernel
theorem dX0_hasAllWins_5 : decode cX0_hasAllWins 5 = .ok (.getfield 34, 3) := by decide +kernel
theorem dX0_hasAllWins_8 : decode cX0_hasAllWins 8 = .ok (.iaload, 1) := by decide +kernel
theorem dX0_hasAllWins_9 : decode cX0_hasAllWins 9 = .ok (.aload_n 0, 1) := by decide +kernel
theorem dX0_hasAllWins_10 : decode cX0_hasAllWins 10 = .ok (.getfield 38, 3) := by decide +kernel
theorem dX0_hasAllWins_13 : decode cX0_hasAllWins 13 = .ok (.if_icmp .lt 7, 3) := by decide +kernel
theorem dX0_hasAllWins_16 : decode cX0_hasAllWins 16 = .ok (.iconst 1, 1) := by decide +kernel
theorem dX0_hasAllWins_17 : decode cX0_hasAllWins 17 = .ok (.goto 4, 3) := by decide +kernel
theorem dX0_hasAllWins_20 : decode cX0_hasAllWins 20 = .ok (.iconst 0, 1) := by decide +kernel
theorem dX0_hasAllWins_21 : decode cX0_hasAllWins 21 = .ok (.ireturn, 1) := by decide +kernel
theorem dX0_livesAbove_0 : decode cX0_livesAbove 0 = .ok (.aload_n 0, 1) := by decide +kernel
theorem dX0_livesAbove_1 : decode cX0_livesAbove 1 = .ok (.invokevirtual 94, 3) := by decide +kernel
theorem dX0_livesAbove_4 : decode cX0_livesAbove 4 = .ok (.ifCond .eq 15, 3) := by decide +kernel
theorem dX0_livesAbove_7 : decode cX0_livesAbove 7 = .ok (.aload_n 0, 1) := by decide +kernel
theorem dX0_livesAbove_8 : decode cX0_livesAbove 8 = .ok (.getfield 24, 3) := by decide +kernel
theorem dX0_livesAbove_11 : decode cX0_livesAbove 11 = .ok (.aload_n 0, 1) := by decide +kernel
theorem dX0_livesAbove_12 : decode cX0_livesAbove 12 = .ok (.getfield 34, 3) := by decide +kernel
theorem dX0_livesAbove_15 : decode cX0_livesAbove 15 = .ok (.laload, 1) := by decide +kernel
theorem dX0_livesAbove_16 : decode cX0_livesAbove 16 = .ok (.goto 4, 3) := by decide +kernel
theorem dX0_livesAbove_19 : decode cX0_livesAbove 19 = .ok (.lconst 0, 1) := by decide +kernel
theorem dX0_livesAbove_20 : decode cX0_livesAbove 20 = .ok (.lreturn, 1) := by decide +kernel
theorem dX0_fewestSixteenths_0 : decode cX0_fewestSixteenths 0 = .ok (.iconst (-1), 1) := by decide +kernel
theorem dX0_fewestSixteenths_1 : decode cX0_fewestSixteenths 1 = .ok (.istore_n 1, 1) := by decide +kernel
theorem dX0_fewestSixteenths_2 : decode cX0_fewestSixteenths 2 = .ok (.bipush 17, 2) := by decide +kernel
theorem dX0_fewestSixteenths_4 : decode cX0_fewestSixteenths 4 = .ok (.istore_n 2, 1) := by decide +kernel
theorem dX0_fewestSixteenths_5 : decode cX0_fewestSixteenths 5 = .ok (.iconst 0, 1) := by decide +kernel
theorem dX0_fewestSixteenths_6 : decode cX0_fewestSixteenths 6 = .ok (.istore_n 3, 1) := by decide +kernel
theorem dX0_fewestSixteenths_7 : decode cX0_fewestSixteenths 7 = .ok (.iload_n 3, 1) := by decide +kernel
theorem dX0_fewestSixteenths_8 : decode cX0_fewestSixteenths 8 = .ok (.aload_n 0, 1) := by decide +kernel
theorem dX0_fewestSixteenths_9 : decode cX0_fewestSixteenths 9 = .ok (.getfield 34, 3) := by decide +kernel
theorem dX0_fewestSixteenths_12 : decode cX0_fewestSixteenths 12 = .ok (.if_icmp .ge 28, 3) := by decide +kernel
theorem dX0_fewestSixteenths_15 : decode cX0_fewestSixteenths 15 = .ok (.aload_n 0, 1) := by decide +kernel
theorem dX0_fewestSixteenths_16 : decode cX0_fewestSixteenths 16 = .ok (.getfield 15, 3) := by decide +kernel
theorem dX0_fewestSixteenths_19 : decode cX0_fewestSixteenths 19 = .ok (.iload_n 3, 1) := by decide +kernel
theorem dX0_fewestSixteenths_20 : decode cX0_fewestSixteenths 20 = .ok (.iaload, 1) := by decide +kernel
theorem dX0_fewestSixteenths_21 : decode cX0_fewestSixteenths 21 = .ok (.iload_n 2, 1) := by decide +kernel
theorem dX0_fewestSixteenths_22 : decode cX0_fewestSixteenths 22 = .ok (.if_icmp .ge 12, 3) := by decide +kernel
theorem dX0_fewestSixteenths_25 : decode cX0_fewestSixteenths 25 = .ok (.aload_n 0, 1) := by decide +kernel
theorem dX0_fewestSixteenths_26 : decode cX0_fewestSixteenths 26 = .ok (.getfield 15, 3) := by decide +kernel
theorem dX0_fewestSixteenths_29 : decode cX0_fewestSixteenths 29 = .ok (.iload_n 3, 1) := by decide +kernel
theorem dX0_fewestSixteenths_30 : decode cX0_fewestSixteenths 30 = .ok (.iaload, 1) := by decide +kernel
theorem dX0_fewestSixteenths_31 : decode cX0_fewestSixteenths 31 = .ok (.istore_n 2, 1) := by decide +kernel
theorem dX0_fewestSixteenths_32 : decode cX0_fewestSixteenths 32 = .ok (.iload_n 3, 1) := by decide +kernel
theorem dX0_fewestSixteenths_33 : decode cX0_fewestSixteenths 33 = .ok (.istore_n 1, 1) := by decide +kernel
theorem dX0_fewestSixteenths_34 : decode cX0_fewestSixteenths 34 = .ok (.iinc 3 1, 3) := by decide +kernel
theorem dX0_fewestSixteenths_37 : decode cX0_fewestSixteenths 37 = .ok (.goto (-30), 3) := by decide +kernel
theorem dX0_fewestSixteenths_40 : decode cX0_fewestSixteenths 40 = .ok (.iload_n 1, 1) := by decide +kernel
theorem dX0_fewestSixteenths_41 : decode cX0_fewestSixteenths 41 = .ok (.ireturn, 1) := by decide +kernel
theorem dX0_numberOfFights_0 : decode cX0_numberOfFights 0 = .ok (.iconst 0, 1) := by decide +kernel
theorem dX0_numberOfFights_1 : decode cX0_numberOfFights 1 = .ok (.istore_n 1, 1) := by decide +kernel
theorem dX0_numberOfFights_2 : decode cX0_numberOfFights 2 = .ok (.iconst 0, 1) := by decide +kernel
theorem dX0_numberOfFights_3 : decode cX0_numberOfFights 3 = .ok (.istore_n 2, 1) := by decide +kernel
theorem dX0_numberOfFights_4 : decode cX0_numberOfFights 4 = .ok (.iload_n 2, 1) := by decide +kernel
theorem dX0_numberOfFights_5 : decode cX0_numberOfFights 5 = .ok (.aload_n 0, 1) := by decide +kernel
theorem dX0_numberOfFights_6 : decode cX0_numberOfFights 6 = .ok (.getfield 34, 3) := by decide +kernel
theorem dX0_numberOfFights_9 : decode cX0_numberOfFights 9 = .ok (.if_icmp .ge 22, 3) := by decide +kernel
theorem dX0_numberOfFights_12 : decode cX0_numberOfFights 12 = .ok (.aload_n 0, 1) := by decide +kernel
theorem dX0_numberOfFights_13 : decode cX0_numberOfFights 13 = .ok (.getfield 9, 3) := by decide +kernel
theorem dX0_numberOfFights_16 : decode cX0_numberOfFights 16 = .ok (.iload_n 2, 1) := by decide +kernel
theorem dX0_numberOfFights_17 : decode cX0_numberOfFights 17 = .ok (.iaload, 1) := by decide +kernel
theorem dX0_numberOfFights_18 : decode cX0_numberOfFights 18 = .ok (.iconst 3, 1) := by decide +kernel
theorem dX0_numberOfFights_19 : decode cX0_numberOfFights 19 = .ok (.if_icmp .ne 6, 3) := by decide +kernel
theorem dX0_numberOfFights_22 : decode cX0_numberOfFights 22 = .ok (.iinc 1 1, 3) := by decide +kernel
theorem dX0_numberOfFights_25 : decode cX0_numberOfFights 25 = .ok (.iinc 2 1, 3) := by decide +kernel
theorem dX0_numberOfFights_28 : decode cX0_numberOfFights 28 = .ok (.goto (-24), 3) := by decide +kernel
theorem dX0_numberOfFights_31 : decode cX0_numberOfFights 31 = .ok (.iload_n 1, 1) := by decide +kernel
theorem dX0_numberOfFights_32 : decode cX0_numberOfFights 32 = .ok (.ireturn, 1) := by decide +kernel
theorem dX0_numberNotVoid_0 : decode cX0_numberNotVoid 0 = .ok (.iconst 0, 1) := by decide +kernel
theorem dX0_numberNotVoid_1 : decode cX0_numberNotVoid 1 = .ok (.istore_n 2, 1) := by decide +kernel
theorem dX0_numberNotVoid_2 : decode cX0_numberNotVoid 2 = .ok (.iconst 0, 1) := by decide +kernel
theorem dX0_numberNotVoid_3 : decode cX0_numberNotVoid 3 = .ok (.istore_n 3, 1) := by decide +kernel
theorem dX0_numberNotVoid_4 : decode cX0_numberNotVoid 4 = .ok (.iload_n 3, 1) := by decide +kernel
theorem dX0_numberNotVoid_5 : decode cX0_numberNotVoid 5 = .ok (.iload_n 1, 1) := by decide +kernel
theorem dX0_numberNotVoid_6 : decode cX0_numberNotVoid 6 = .ok (.if_icmp .ge 20, 3) := by decide +kernel
theorem dX0_numberNotVoid_9 : decode cX0_numberNotVoid 9 = .ok (.aload_n 0, 1) := by decide +kernel
theorem dX0_numberNotVoid_10 : decode cX0_numberNotVoid 10 = .ok (.iload_n 3, 1) := by decide +kernel
theorem dX0_numberNotVoid_11 : decode cX0_numberNotVoid 11 = .ok (.invokevirtual 64, 3) := by decide +kernel
theorem dX0_numberNotVoid_14 : decode cX0_numberNotVoid 14 = .ok (.ifCond .le 6, 3) := by decide +kernel
theorem dX0_numberNotVoid_17 : decode cX0_numberNotVoid 17 = .ok (.iinc 2 1, 3) := by decide +kernel
theorem dX0_numberNotVoid_20 : decode cX0_numberNotVoid 20 = .ok (.iinc 3 1, 3) := by decide +kernel
theorem dX0_numberNotVoid_23 : decode cX0_numberNotVoid 23 = .ok (.goto (-19), 3) := by decide +kernel
theorem dX0_numberNotVoid_26 : decode cX0_numberNotVoid 26 = .ok (.iload_n 2, 1) := by decide +kernel
theorem dX0_numberNotVoid_27 : decode cX0_numberNotVoid 27 = .ok (.ireturn, 1) := by decide +kernel
theorem dX0_playTill_0 : decode cX0_playTill 0 = .ok (.iconst 0, 1) := by decide +kernel
theorem dX0_playTill_1 : decode cX0_playTill 1 = .ok (.istore_n 2, 1) := by decide +kernel
theorem dX0_playTill_2 : decode cX0_playTill 2 = .ok (.iload_n 2, 1) := by decide +kernel
theorem dX0_playTill_3 : decode cX0_playTill 3 = .ok (.aload_n 0, 1) := by decide +kernel
theorem dX0_playTill_4 : decode cX0_playTill 4 = .ok (.getfield 34, 3) := by decide +kernel
theorem dX0_playTill_7 : decode cX0_playTill 7 = .ok (.if_icmp .ge 36, 3) := by decide +kernel
theorem dX0_playTill_10 : decode cX0_playTill 10 = .ok (.aload_n 0, 1) := by decide +kernel
theorem dX0_playTill_11 : decode cX0_playTill 11 = .ok (.getfield 9, 3) := by decide +kernel
theorem dX0_playTill_14 : decode cX0_playTill 14 = .ok (.iload_n 2, 1) := by decide +kernel
theorem dX0_playTill_15 : decode cX0_playTill 15 = .ok (.iaload, 1) := by decide +kernel
theorem dX0_playTill_16 : decode cX0_playTill 16 = .ok (.iconst 3, 1) := by decide +kernel
theorem dX0_playTill_17 : decode cX0_playTill 17 = .ok (.if_icmp .ne 20, 3) := by decide +kernel
theorem dX0_playTill_20 : decode cX0_playTill 20 = .ok (.aload_n 1, 1) := by decide +kernel
theorem dX0_playTill_21 : decode cX0_playTill 21 = .ok (.bipush 16, 2) := by decide +kernel
theorem dX0_playTill_23 : decode cX0_playTill 23 = .ok (.invokevirtual 98, 3) := by decide +kernel
theorem dX0_playTill_26 : decode cX0_playTill 26 = .ok (.aload_n 0, 1) := by decide +kernel
theorem dX0_playTill_27 : decode cX0_playTill 27 = .ok (.getfield 15, 3) := by decide +kernel
theorem dX0_playTill_30 : decode cX0_playTill 30 = .ok (.iload_n 2, 1) := by decide +kernel
theorem dX0_playTill_31 : decode cX0_playTill 31 = .ok (.iaload, 1) := by decide +kernel
theorem dX0_playTill_32 : decode cX0_playTill 32 = .ok (.if_icmp .lt 5, 3) := by decide +kernel
theorem dX0_playTill_35 : decode cX0_playTill 35 = .ok (.iload_n 2, 1) := by decide +kernel
theorem dX0_playTill_36 : decode cX0_playTill 36 = .ok (.ireturn, 1) := by decide +kernel
theorem dX0_playTill_37 : decode cX0_playTill 37 = .ok (.iinc 2 1, 3) := by decide +kernel
theorem dX0_playTill_40 : decode cX0_playTill 40 = .ok (.goto (-38), 3) := by decide +kernel
theorem dX0_playTill_43 : decode cX0_playTill 43 = .ok (.aload_n 0, 1) := by decide +kernel
theorem dX0_playTill_44 : decode cX0_playTill 44 = .ok (.getfield 34, 3) := by decide +kernel
theorem dX0_playTill_47 : decode cX0_playTill 47 = .ok (.ireturn, 1) := by decide +kernel
theorem dX1_told_0 : decode cX1_told 0 = .ok (.lload_n 0, 1) := by decide +kernel
theorem dX1_told_1 : decode cX1_told 1 = .ok (.lstore 4, 2) := by decide +kernel
theorem dX1_told_3 : decode cX1_told 3 = .ok (.iload_n 2, 1) := by decide +kernel
theorem dX1_told_4 : decode cX1_told 4 = .ok (.istore 6, 2) := by decide +kernel
theorem dX1_told_6 : decode cX1_told 6 = .ok (.iload 6, 2) := by decide +kernel
theorem dX1_told_8 : decode cX1_told 8 = .ok (.ifCond .le 24, 3) := by decide +kernel
theorem dX1_told_11 : decode cX1_told 11 = .ok (.lload 4, 2) := by decide +kernel
theorem dX1_told_13 : decode cX1_told 13 = .ok (.lconst 1, 1) := by decide +kernel
theorem dX1_told_14 : decode cX1_told 14 = .ok (.land, 1) := by decide +kernel
theorem dX1_told_15 : decode cX1_told 15 = .ok (.lconst 0, 1) := by decide +kernel
theorem dX1_told_16 : decode cX1_told 16 = .ok (.lcmp, 1) := by decide +kernel
theorem dX1_told_17 : decode cX1_told 17 = .ok (.ifCond .ne 15, 3) := by decide +kernel
theorem dX1_told_20 : decode cX1_told 20 = .ok (.lload 4, 2) := by decide +kernel
theorem dX1_told_22 : decode cX1_told 22 = .ok (.iconst 1, 1) := by decide +kernel
theorem dX1_told_23 : decode cX1_told 23 = .ok (.lshr, 1) := by decide +kernel
theorem dX1_told_24 : decode cX1_told 24 = .ok (.lstore 4, 2) := by decide +kernel
theorem dX1_told_26 : decode cX1_told 26 = .ok (.iinc 6 (-1), 3) := by decide +kernel
theorem dX1_told_29 : decode cX1_told 29 = .ok (.goto (-23), 3) := by decide +kernel
theorem dX1_told_32 : decode cX1_told 32 = .ok (.iload_n 3, 1) := by decide +kernel
theorem dX1_told_33 : decode cX1_told 33 = .ok (.ifCond .ne 8, 3) := by decide +kernel
theorem dX1_told_36 : decode cX1_told 36 = .ok (.lload 4, 2) := by decide +kernel
theorem dX1_told_38 : decode cX1_told 38 = .ok (.goto 7, 3) := by decide +kernel
theorem dX1_told_41 : decode cX1_told 41 = .ok (.lconst 1, 1) := by decide +kernel
theorem dX1_told_42 : decode cX1_told 42 = .ok (.iload 6, 2) := by decide +kernel
theorem dX1_told_44 : decode cX1_told 44 = .ok (.lshl, 1) := by decide +kernel
theorem dX1_told_45 : decode cX1_told 45 = .ok (.lreturn, 1) := by decide +kernel
theorem dX2_init_0 : decode cX2_init 0 = .ok (.aload_n 0, 1) := by decide +kernel
theorem dX2_init_1 : decode cX2_init 1 = .ok (.invokespecial 3, 3) := by decide +kernel
theorem dX2_init_4 : decode cX2_init 4 = .ok (.aload_n 0, 1) := by decide +kernel
theorem dX2_init_5 : decode cX2_init 5 = .ok (.bipush 40, 2) := by decide +kernel
theorem dX2_init_7 : decode cX2_init 7 = .ok (.newarray .int, 2) := by decide +kernel
theorem dX2_init_9 : decode cX2_init 9 = .ok (.putfield 9, 3) := by decide +kernel
theorem dX2_init_12 : decode cX2_init 12 = .ok (.aload_n 0, 1) := by decide +kernel
theorem dX2_init_13 : decode cX2_init 13 = .ok (.iconst (-1), 1) := by decide +kernel
theorem dX2_init_14 : decode cX2_init 14 = .ok (.putfield 15, 3) := by decide +kernel
theorem dX2_init_17 : decode cX2_init 17 = .ok (.return_, 1) := by decide +kernel
theorem dX2_parse_0 : decode cX2_parse 0 = .ok (.aload_n 0, 1) := by decide +kernel
theorem dX2_parse_1 : decode cX2_parse 1 = .ok (.aload_n 1, 1) := by decide +kernel
theorem dX2_parse_2 : decode cX2_parse 2 = .ok (.invokestatic 19, 3) := by decide +kernel
theorem dX2_parse_5 : decode cX2_parse 5 = .ok (.putfield 15, 3) := by decide +kernel
theorem dX2_parse_8 : decode cX2_parse 8 = .ok (.aload_n 0, 1) := by decide +kernel
theorem dX2_parse_9 : decode cX2_parse 9 = .ok (.aload_n 0, 1) := by decide +kernel
theorem dX2_parse_10 : decode cX2_parse 10 = .ok (.getfield 15, 3) := by decide +kernel
theorem dX2_parse_13 : decode cX2_parse 13 = .ok (.iconst (-1), 1) := by decide +kernel
theorem dX2_parse_14 : decode cX2_parse 14 = .ok (.if_icmp .ne 20, 3) := by decide +kernel
theorem dX2_parse_17 : decode cX2_parse 17 = .ok (.bipush 8, 2) := by decide +kernel
theorem dX2_parse_19 : decode cX2_parse 19 = .ok (.aload_n 1, 1) := by decide +kernel
theorem dX2_parse_20 : decode cX2_parse 20 = .ok (.getfield 23, 3) := by decide +kernel
theorem dX2_parse_23 : decode cX2_parse 23 = .ok (.iconst 1, 1) := by decide +kernel
theorem dX2_parse_24 : decode cX2_parse 24 = .ok (.iadd, 1) := by decide +kernel
theorem dX2_parse_25 : decode cX2_parse 25 = .ok (.bipush 6, 2) := by decide +kernel
theorem dX2_parse_27 : decode cX2_parse 27 = .ok (.idiv, 1) := by decide +kernel
theorem dX2_parse_28 : decode cX2_parse 28 = .ok (.invokestatic 28, 3) := by decide +kernel
theorem dX2_parse_31 : decode cX2_parse 31 = .ok (.goto 4, 3) := by decide +kernel
theorem dX2_parse_34 : decode cX2_parse 34 = .ok (.iconst 0, 1) := by decide +kernel
theorem dX2_parse_35 : decode cX2_parse 35 = .ok (.putfield 34, 3) := by decide +kernel
theorem dX2_parse_38 : decode cX2_parse 38 = .ok (.iconst 0, 1) := by decide +kernel
theorem dX2_parse_39 : decode cX2_parse 39 = .ok (.istore_n 2, 1) := by decide +kernel
theorem dX2_parse_40 : decode cX2_parse 40 = .ok (.iload_n 2, 1) := by decide +kernel
theorem dX2_parse_41 : decode cX2_parse 41 = .ok (.aload_n 0, 1) := by decide +kernel
theorem dX2_parse_42 : decode cX2_parse 42 = .ok (.getfield 34, 3) := by decide +kernel
theorem dX2_parse_45 : decode cX2_parse 45 = .ok (.if_icmp .ge 135, 3) := by decide +kernel
theorem dX2_parse_48 : decode cX2_parse 48 = .ok (.iload_n 2, 1) := by decide +kernel
theorem dX2_parse_49 : decode cX2_parse 49 = .ok (.bipush 6, 2) := by decide +kernel
theorem dX2_parse_51 : decode cX2_parse 51 = .ok (.imul, 1) := by decide +kernel
theorem dX2_parse_52 : decode cX2_parse 52 = .ok (.istore_n 3, 1) := by decide +kernel
theorem dX2_parse_53 : decode cX2_parse 53 = .ok (.iload_n 2, 1) := by decide +kernel
theorem dX2_parse_54 : decode cX2_parse 54 = .ok (.iconst 5, 1) := by decide +kernel
theorem dX2_parse_55 : decode cX2_parse 55 = .ok (.imul, 1) := by decide +kernel
theorem dX2_parse_56 : decode cX2_parse 56 = .ok (.istore 4, 2) := by decide +kernel
theorem dX2_parse_58 : decode cX2_parse 58 = .ok (.aload_n 0, 1) := by decide +kernel
theorem dX2_parse_59 : decode cX2_parse 59 = .ok (.getfield 9, 3) := by decide +kernel
theorem dX2_parse_62 : decode cX2_parse 62 = .ok (.iload 4, 2) := by decide +kernel
theorem dX2_parse_64 : decode cX2_parse 64 = .ok (.iconst 0, 1) := by decide +kernel
theorem dX2_parse_65 : decode cX2_parse 65 = .ok (.iadd, 1) := by decide +kernel
theorem dX2_parse_66 : decode cX2_parse 66 = .ok (.aload_n 1, 1) := by decide +kernel
theorem dX2_parse_67 : decode cX2_parse 67 = .ok (.iload_n 3, 1) := by decide +kernel
theorem dX2_parse_68 : decode cX2_parse 68 = .ok (.invokevirtual 35, 3) := by decide +kernel
theorem dX2_parse_71 : decode cX2_parse 71 = .ok (.invokestatic 39, 3) := by decide +kernel
theorem dX2_parse_74 : decode cX2_parse 74 = .ok (.iastore, 1) := by decide +kernel
theorem dX2_parse_75 : decode cX2_parse 75 = .ok (.aload_n 0, 1) := by decide +kernel
theorem dX2_parse_76 : decode cX2_parse 76 = .ok (.getfield 9, 3) := by decide +kernel
theorem dX2_parse_79 : decode cX2_parse 79 = .ok (.iload 4, 2) := by decide +kernel
theorem dX2_parse_81 : decode cX2_parse 81 = .ok (.iconst 1, 1) := by decide +kernel
theorem dX2_parse_82 : decode cX2_parse 82 = .ok (.iadd, 1) := by decide +kernel
theorem dX2_parse_83 : decode cX2_parse 83 = .ok (.aload_n 1, 1) := by decide +kernel
theorem dX2_parse_84 : decode cX2_parse 84 = .ok (.iload_n 3, 1) := by decide +kernel
theorem dX2_parse_85 : decode cX2_parse 85 = .ok (.iconst 1, 1) := by decide +kernel
theorem dX2_parse_86 : decode cX2_parse 86 = .ok (.iadd, 1) := by decide +kernel
theorem dX2_parse_87 : decode cX2_parse 87 = .ok (.invokevirtual 35, 3) := by decide +kernel
theorem dX2_parse_90 : decode cX2_parse 90 = .ok (.bipush 48, 2) := by decide +kernel
theorem dX2_parse_92 : decode cX2_parse 92 = .ok (.isub, 1) := by decide +kernel
theorem dX2_parse_93 : decode cX2_parse 93 = .ok (.iastore, 1) := by decide +kernel
theorem dX2_parse_94 : decode cX2_parse 94 = .ok (.aload_n 0, 1) := by decide +kernel
theorem dX2_parse_95 : decode cX2_parse 95 = .ok (.getfield 9, 3) := by decide +kernel
theorem dX2_parse_98 : decode cX2_parse 98 = .ok (.iload 4, 2) := by decide +kernel
theorem dX2_parse_100 : decode cX2_parse 100 = .ok (.iconst 2, 1) := by decide +kernel
theorem dX2_parse_101 : decode cX2_parse 101 = .ok (.iadd, 1) := by decide +kernel
theorem dX2_parse_102 : decode cX2_parse 102 = .ok (.aload_n 1, 1) := by decide +kernel
theorem dX2_parse_103 : decode cX2_parse 103 = .ok (.iload_n 3, 1) := by decide +kernel
theorem dX2_parse_104 : decode cX2_parse 104 = .ok (.iconst 2, 1) := by decide +kernel
theorem dX2_parse_105 : decode cX2_parse 105 = .ok (.iadd, 1) := by decide +kernel
theorem dX2_parse_106 : decode cX2_parse 106 = .ok (.invokevirtual 35, 3) := by decide +kernel
theorem dX2_parse_109 : decode cX2_parse 109 = .ok (.bipush 48, 2) := by decide +kernel
theorem dX2_parse_111 : decode cX2_parse 111 = .ok (.isub, 1) := by decide +kernel
theorem dX2_parse_112 : decode cX2_parse 112 = .ok (.iastore, 1) := by decide +kernel
theorem dX2_parse_113 : decode cX2_parse 113 = .ok (.aload_n 0, 1) := by decide +kernel
theorem dX2_parse_114 : decode cX2_parse 114 = .ok (.getfield 9, 3) := by decide +kernel
theorem dX2_parse_117 : decode cX2_parse 117 = .ok (.iload 4, 2) := by decide +kernel
theorem dX2_parse_119 : decode cX2_parse 119 = .ok (.iconst 3, 1) := by decide +kernel
theorem dX2_parse_120 : decode cX2_parse 120 = .ok (.iadd, 1) := by decide +kernel
theorem dX2_parse_121 : decode cX2_parse 121 = .ok (.aload_n 1, 1) := by decide +kernel
theorem dX2_parse_122 : decode cX2_parse 122 = .ok (.iload_n 3, 1) := by decide +kernel
theorem dX2_parse_123 : decode cX2_parse 123 = .ok (.iconst 3, 1) := by decide +kernel
theorem dX2_parse_124 : decode cX2_parse 124 = .ok (.iadd, 1) := by decide +kernel
theorem dX2_parse_125 : decode cX2_parse 125 = .ok (.invokevirtual 35, 3) := by decide +kernel
theorem dX2_parse_128 : decode cX2_parse 128 = .ok (.bipush 103, 2) := by decide +kernel
theorem dX2_parse_130 : decode cX2_parse 130 = .ok (.if_icmp .ne 7, 3) := by decide +kernel
theorem dX2_parse_133 : decode cX2_parse 133 = .ok (.iconst 1, 1) := by decide +kernel
theorem dX2_parse_134 : decode cX2_parse 134 = .ok (.goto 4, 3) := by decide +kernel
theorem dX2_parse_137 : decode cX2_parse 137 = .ok (.iconst 0, 1) := by decide +kernel
theorem dX2_parse_138 : decode cX2_parse 138 = .ok (.iastore, 1) := by decide +kernel
theorem dX2_parse_139 : decode cX2_parse 139 = .ok (.aload_n 0, 1) := by decide +kernel
theorem dX2_parse_140 : decode cX2_parse 140 = .ok (.getfield 9, 3) := by decide +kernel
theorem dX2_parse_143 : decode cX2_parse 143 = .ok (.iload 4, 2) := by decide +kernel
theorem dX2_parse_145 : decode cX2_parse 145 = .ok (.iconst 4, 1) := by decide +kernel
theorem dX2_parse_146 : decode cX2_parse 146 = .ok (.iadd, 1) := by decide +kernel
theorem dX2_parse_147 : decode cX2_parse 147 = .ok (.aload_n 1, 1) := by decide +kernel
theorem dX2_parse_148 : decode cX2_parse 148 = .ok (.iload_n 3, 1) := by decide +kernel
theorem dX2_parse_149 : decode cX2_parse 149 = .ok (.iconst 4, 1) := by decide +kernel
theorem dX2_parse_150 : decode cX2_parse 150 = .ok (.iadd, 1) := by decide +kernel
theorem dX2_parse_151 : decode cX2_parse 151 = .ok (.invokevirtual 35, 3) := by decide +kernel
theorem dX2_parse_154 : decode cX2_parse 154 = .ok (.bipush 46, 2) := by decide +kernel
theorem dX2_parse_156 : decode cX2_parse 156 = .ok (.if_icmp .ne 7, 3) := by decide +kernel
theorem dX2_parse_159 : decode cX2_parse 159 = .ok (.iconst (-1), 1) := by decide +kernel
theorem dX2_parse_160 : decode cX2_parse 160 = .ok (.goto 13, 3) := by decide +kernel
theorem dX2_parse_163 : decode cX2_parse 163 = .ok (.aload_n 1, 1) := by decide +kernel
theorem dX2_parse_164 : decode cX2_parse 164 = .ok (.iload_n 3, 1) := by decide +kernel
theorem dX2_parse_165 : decode cX2_parse 165 = .ok (.iconst 4, 1) := by decide +kernel
theorem dX2_parse_166 : decode cX2_parse 166 = .ok (.iadd, 1) := by decide +kernel
theorem dX2_parse_167 : decode cX2_parse 167 = .ok (.invokevirtual 35, 3) := by decide +kernel
theorem dX2_parse_170 : decode cX2_parse 170 = .ok (.bipush 48, 2) := by decide +kernel
theorem dX2_parse_172 : decode cX2_parse 172 = .ok (.isub, 1) := by decide +kernel
theorem dX2_parse_173 : decode cX2_parse 173 = .ok (.iastore, 1) := by decide +kernel
theorem dX2_parse_174 : decode cX2_parse 174 = .ok (.iinc 2 1, 3) := by decide +kernel
theorem dX2_parse_177 : decode cX2_parse 177 = .ok (.goto (-137), 3) := by decide +kernel
theorem dX2_parse_180 : decode cX2_parse 180 = .ok (.return_, 1) := by decide +kernel
theorem dX2_placeOfFault_0 : decode cX2_placeOfFault 0 = .ok (.iconst 0, 1) := by decide +kernel
theorem dX2_placeOfFault_1 : decode cX2_placeOfFault 1 = .ok (.istore_n 1, 1) := by decide +kernel
theorem dX2_placeOfFault_2 : decode cX2_placeOfFault 2 = .ok (.iload_n 1, 1) := by decide +kernel
theorem dX2_placeOfFault_3 : decode cX2_placeOfFault 3 = .ok (.aload_n 0, 1) := by decide +kernel
theorem dX2_placeOfFault_4 : decode cX2_placeOfFault 4 = .ok (.getfield 23, 3) := by decide +kernel
theorem dX2_placeOfFault_7 : decode cX2_placeOfFault 7 = .ok (.if_icmp .ge 26, 3) := by decide +kernel
theorem dX2_placeOfFault_10 : decode cX2_placeOfFault 10 = .ok (.aload_n 0, 1) := by decide +kernel
theorem dX2_placeOfFault_11 : decode cX2_placeOfFault 11 = .ok (.iload_n 1, 1) := by decide +kernel
theorem dX2_placeOfFault_12 : decode cX2_placeOfFault 12 = .ok (.invokevirtual 35, 3) := by decide +kernel
theorem dX2_placeOfFault_15 : decode cX2_placeOfFault 15 = .ok (.iload_n 1, 1) := by decide +kernel
theorem dX2_placeOfFault_16 : decode cX2_placeOfFault 16 = .ok (.bipush 6, 2) := by decide +kernel
theorem dX2_placeOfFault_18 : decode cX2_placeOfFault 18 = .ok (.irem, 1) := by decide +kernel
theorem dX2_placeOfFault_19 : decode cX2_placeOfFault 19 = .ok (.invokestatic 42, 3) := by decide +kernel
theorem dX2_placeOfFault_22 : decode cX2_placeOfFault 22 = .ok (.ifCond .ne 5, 3) := by decide +kernel
theorem dX2_placeOfFault_25 : decode cX2_placeOfFault 25 = .ok (.iload_n 1, 1) := by decide +kernel
theorem dX2_placeOfFault_26 : decode cX2_placeOfFault 26 = .ok (.ireturn, 1) := by decide +kernel
theorem dX2_placeOfFault_27 : decode cX2_placeOfFault 27 = .ok (.iinc 1 1, 3) := by decide +kernel
theorem dX2_placeOfFault_30 : decode cX2_placeOfFault 30 = .ok (.goto (-28), 3) := by decide +kernel
theorem dX2_placeOfFault_33 : decode cX2_placeOfFault 33 = .ok (.aload_n 0, 1) := by decide +kernel
theorem dX2_placeOfFault_34 : decode cX2_placeOfFault 34 = .ok (.getfield 23, 3) := by decide +kernel
theorem dX2_placeOfFault_37 : decode cX2_placeOfFault 37 = .ok (.ifCond .eq 14, 3) := by decide +kernel
theorem dX2_placeOfFault_40 : decode cX2_placeOfFault 40 = .ok (.aload_n 0, 1) := by decide +kernel
theorem dX2_placeOfFault_41 : decode cX2_placeOfFault 41 = .ok (.getfield 23, 3) := by decide +kernel
theorem dX2_placeOfFault_44 : decode cX2_placeOfFault 44 = .ok (.bipush 6, 2) := by decide +kernel
theorem dX2_placeOfFault_46 : decode cX2_placeOfFault 46 = .ok (.irem, 1) := by decide +kernel
theorem dX2_placeOfFault_47 : decode cX2_placeOfFault 47 = .ok (.iconst 5, 1) := by decide +kernel
theorem dX2_placeOfFault_48 : decode cX2_placeOfFault 48 = .ok (.if_icmp .ne 7, 3) := by decide +kernel
theorem dX2_placeOfFault_51 : decode cX2_placeOfFault 51 = .ok (.iconst 1, 1) := by decide +kernel
theorem dX2_placeOfFault_52 : decode cX2_placeOfFault 52 = .ok (.goto 4, 3) := by decide +kernel
theorem dX2_placeOfFault_55 : decode cX2_placeOfFault 55 = .ok (.iconst 0, 1) := by decide +kernel
theorem dX2_placeOfFault_56 : decode cX2_placeOfFault 56 = .ok (.istore_n 1, 1) := by decide +kernel
theorem dX2_placeOfFault_57 : decode cX2_placeOfFault 57 = .ok (.iload_n 1, 1) := by decide +kernel
end
section
theorem dX2_placeOfFault_58 : decode cX2_placeOfFault 58 = .ok (.ifCond .eq 7, 3) := by decide +kernel
theorem dX2_placeOfFault_61 : decode cX2_placeOfFault 61 = .ok (.iconst (-1), 1) := by decide +kernel
theorem dX2_placeOfFault_62 : decode cX2_placeOfFault 62 = .ok (.goto 7, 3) := by decide +kernel
theorem dX2_placeOfFault_65 : decode cX2_placeOfFault 65 = .ok (.aload_n 0, 1) := by decide +kernel
theorem dX2_placeOfFault_66 : decode cX2_placeOfFault 66 = .ok (.getfield 23, 3) := by decide +kernel
theorem dX2_placeOfFault_69 : decode cX2_placeOfFault 69 = .ok (.ireturn, 1) := by decide +kernel
theorem dX2_fits_0 : decode cX2_fits 0 = .ok (.iload_n 1, 1) := by decide +kernel
theorem dX2_fits_1 : decode cX2_fits 1 = .ok (.tableswitch 109 0 4 #[35, 49, 49, 67, 85], 35) := by decide +kernel
theorem dX2_fits_36 : decode cX2_fits 36 = .ok (.iload_n 0, 1) := by decide +kernel
theorem dX2_fits_37 : decode cX2_fits 37 = .ok (.invokestatic 39, 3) := by decide +kernel
theorem dX2_fits_40 : decode cX2_fits 40 = .ok (.iconst (-1), 1) := by decide +kernel
theorem dX2_fits_41 : decode cX2_fits 41 = .ok (.if_icmp .eq 7, 3) := by decide +kernel
theorem dX2_fits_44 : decode cX2_fits 44 = .ok (.iconst 1, 1) := by decide +kernel
theorem dX2_fits_45 : decode cX2_fits 45 = .ok (.goto 4, 3) := by decide +kernel
theorem dX2_fits_48 : decode cX2_fits 48 = .ok (.iconst 0, 1) := by decide +kernel
theorem dX2_fits_49 : decode cX2_fits 49 = .ok (.ireturn, 1) := by decide +kernel
theorem dX2_fits_50 : decode cX2_fits 50 = .ok (.iload_n 0, 1) := by decide +kernel
theorem dX2_fits_51 : decode cX2_fits 51 = .ok (.bipush 48, 2) := by decide +kernel
theorem dX2_fits_53 : decode cX2_fits 53 = .ok (.if_icmp .lt 13, 3) := by decide +kernel
theorem dX2_fits_56 : decode cX2_fits 56 = .ok (.iload_n 0, 1) := by decide +kernel
theorem dX2_fits_57 : decode cX2_fits 57 = .ok (.bipush 57, 2) := by decide +kernel
theorem dX2_fits_59 : decode cX2_fits 59 = .ok (.if_icmp .gt 7, 3) := by decide +kernel
theorem dX2_fits_62 : decode cX2_fits 62 = .ok (.iconst 1, 1) := by decide +kernel
theorem dX2_fits_63 : decode cX2_fits 63 = .ok (.goto 4, 3) := by decide +kernel
theorem dX2_fits_66 : decode cX2_fits 66 = .ok (.iconst 0, 1) := by decide +kernel
theorem dX2_fits_67 : decode cX2_fits 67 = .ok (.ireturn, 1) := by decide +kernel
theorem dX2_fits_68 : decode cX2_fits 68 = .ok (.iload_n 0, 1) := by decide +kernel
theorem dX2_fits_69 : decode cX2_fits 69 = .ok (.bipush 103, 2) := by decide +kernel
theorem dX2_fits_71 : decode cX2_fits 71 = .ok (.if_icmp .eq 9, 3) := by decide +kernel
theorem dX2_fits_74 : decode cX2_fits 74 = .ok (.iload_n 0, 1) := by decide +kernel
theorem dX2_fits_75 : decode cX2_fits 75 = .ok (.bipush 105, 2) := by decide +kernel
theorem dX2_fits_77 : decode cX2_fits 77 = .ok (.if_icmp .ne 7, 3) := by decide +kernel
theorem dX2_fits_80 : decode cX2_fits 80 = .ok (.iconst 1, 1) := by decide +kernel
theorem dX2_fits_81 : decode cX2_fits 81 = .ok (.goto 4, 3) := by decide +kernel
theorem dX2_fits_84 : decode cX2_fits 84 = .ok (.iconst 0, 1) := by decide +kernel
theorem dX2_fits_85 : decode cX2_fits 85 = .ok (.ireturn, 1) := by decide +kernel
theorem dX2_fits_86 : decode cX2_fits 86 = .ok (.iload_n 0, 1) := by decide +kernel
theorem dX2_fits_87 : decode cX2_fits 87 = .ok (.bipush 48, 2) := by decide +kernel
theorem dX2_fits_89 : decode cX2_fits 89 = .ok (.if_icmp .lt 9, 3) := by decide +kernel
theorem dX2_fits_92 : decode cX2_fits 92 = .ok (.iload_n 0, 1) := by decide +kernel
theorem dX2_fits_93 : decode cX2_fits 93 = .ok (.bipush 55, 2) := by decide +kernel
theorem dX2_fits_95 : decode cX2_fits 95 = .ok (.if_icmp .le 9, 3) := by decide +kernel
theorem dX2_fits_98 : decode cX2_fits 98 = .ok (.iload_n 0, 1) := by decide +kernel
theorem dX2_fits_99 : decode cX2_fits 99 = .ok (.bipush 46, 2) := by decide +kernel
theorem dX2_fits_101 : decode cX2_fits 101 = .ok (.if_icmp .ne 7, 3) := by decide +kernel
theorem dX2_fits_104 : decode cX2_fits 104 = .ok (.iconst 1, 1) := by decide +kernel
theorem dX2_fits_105 : decode cX2_fits 105 = .ok (.goto 4, 3) := by decide +kernel
theorem dX2_fits_108 : decode cX2_fits 108 = .ok (.iconst 0, 1) := by decide +kernel
theorem dX2_fits_109 : decode cX2_fits 109 = .ok (.ireturn, 1) := by decide +kernel
theorem dX2_fits_110 : decode cX2_fits 110 = .ok (.iload_n 0, 1) := by decide +kernel
theorem dX2_fits_111 : decode cX2_fits 111 = .ok (.bipush 59, 2) := by decide +kernel
theorem dX2_fits_113 : decode cX2_fits 113 = .ok (.if_icmp .ne 7, 3) := by decide +kernel
theorem dX2_fits_116 : decode cX2_fits 116 = .ok (.iconst 1, 1) := by decide +kernel
theorem dX2_fits_117 : decode cX2_fits 117 = .ok (.goto 4, 3) := by decide +kernel
theorem dX2_fits_120 : decode cX2_fits 120 = .ok (.iconst 0, 1) := by decide +kernel
theorem dX2_fits_121 : decode cX2_fits 121 = .ok (.ireturn, 1) := by decide +kernel
theorem dX2_kindOf_0 : decode cX2_kindOf 0 = .ok (.iload_n 0, 1) := by decide +kernel
theorem dX2_kindOf_1 : decode cX2_kindOf 1 = .ok (.lookupswitch 51 #[(99, 45), (100, 49), (102, 43), (114, 47)], 43) := by decide +kernel
theorem dX2_kindOf_44 : decode cX2_kindOf 44 = .ok (.iconst 0, 1) := by decide +kernel
theorem dX2_kindOf_45 : decode cX2_kindOf 45 = .ok (.ireturn, 1) := by decide +kernel
theorem dX2_kindOf_46 : decode cX2_kindOf 46 = .ok (.iconst 1, 1) := by decide +kernel
theorem dX2_kindOf_47 : decode cX2_kindOf 47 = .ok (.ireturn, 1) := by decide +kernel
theorem dX2_kindOf_48 : decode cX2_kindOf 48 = .ok (.iconst 2, 1) := by decide +kernel
theorem dX2_kindOf_49 : decode cX2_kindOf 49 = .ok (.ireturn, 1) := by decide +kernel
theorem dX2_kindOf_50 : decode cX2_kindOf 50 = .ok (.iconst 3, 1) := by decide +kernel
theorem dX2_kindOf_51 : decode cX2_kindOf 51 = .ok (.ireturn, 1) := by decide +kernel
theorem dX2_kindOf_52 : decode cX2_kindOf 52 = .ok (.iconst (-1), 1) := by decide +kernel
theorem dX2_kindOf_53 : decode cX2_kindOf 53 = .ok (.ireturn, 1) := by decide +kernel
theorem dX2_has_0 : decode cX2_has 0 = .ok (.iload_n 1, 1) := by decide +kernel
theorem dX2_has_1 : decode cX2_has 1 = .ok (.ifCond .lt 15, 3) := by decide +kernel
theorem dX2_has_4 : decode cX2_has 4 = .ok (.iload_n 1, 1) := by decide +kernel
theorem dX2_has_5 : decode cX2_has 5 = .ok (.aload_n 0, 1) := by decide +kernel
theorem dX2_has_6 : decode cX2_has 6 = .ok (.getfield 34, 3) := by decide +kernel
theorem dX2_has_9 : decode cX2_has 9 = .ok (.if_icmp .ge 7, 3) := by decide +kernel
theorem dX2_has_12 : decode cX2_has 12 = .ok (.iconst 1, 1) := by decide +kernel
theorem dX2_has_13 : decode cX2_has 13 = .ok (.goto 4, 3) := by decide +kernel
theorem dX2_has_16 : decode cX2_has 16 = .ok (.iconst 0, 1) := by decide +kernel
theorem dX2_has_17 : decode cX2_has 17 = .ok (.ireturn, 1) := by decide +kernel
theorem dX2_part_0 : decode cX2_part 0 = .ok (.iload_n 1, 1) := by decide +kernel
theorem dX2_part_1 : decode cX2_part 1 = .ok (.iconst 5, 1) := by decide +kernel
theorem dX2_part_2 : decode cX2_part 2 = .ok (.imul, 1) := by decide +kernel
theorem dX2_part_3 : decode cX2_part 3 = .ok (.iload_n 2, 1) := by decide +kernel
theorem dX2_part_4 : decode cX2_part 4 = .ok (.iadd, 1) := by decide +kernel
theorem dX2_part_5 : decode cX2_part 5 = .ok (.istore_n 3, 1) := by decide +kernel
theorem dX2_part_6 : decode cX2_part 6 = .ok (.iload_n 3, 1) := by decide +kernel
theorem dX2_part_7 : decode cX2_part 7 = .ok (.ifCond .lt 21, 3) := by decide +kernel
theorem dX2_part_10 : decode cX2_part 10 = .ok (.iload_n 3, 1) := by decide +kernel
theorem dX2_part_11 : decode cX2_part 11 = .ok (.aload_n 0, 1) := by decide +kernel
theorem dX2_part_12 : decode cX2_part 12 = .ok (.getfield 9, 3) := by decide +kernel
theorem dX2_part_15 : decode cX2_part 15 = .ok (.arraylength, 1) := by decide +kernel
theorem dX2_part_16 : decode cX2_part 16 = .ok (.if_icmp .ge 12, 3) := by decide +kernel
theorem dX2_part_19 : decode cX2_part 19 = .ok (.aload_n 0, 1) := by decide +kernel
theorem dX2_part_20 : decode cX2_part 20 = .ok (.getfield 9, 3) := by decide +kernel
theorem dX2_part_23 : decode cX2_part 23 = .ok (.iload_n 3, 1) := by decide +kernel
theorem dX2_part_24 : decode cX2_part 24 = .ok (.iaload, 1) := by decide +kernel
theorem dX2_part_25 : decode cX2_part 25 = .ok (.goto 4, 3) := by decide +kernel
theorem dX2_part_28 : decode cX2_part 28 = .ok (.iconst (-1), 1) := by decide +kernel
theorem dX2_part_29 : decode cX2_part 29 = .ok (.ireturn, 1) := by decide +kernel
theorem dX2_putKind_0 : decode cX2_putKind 0 = .ok (.aload_n 0, 1) := by decide +kernel
theorem dX2_putKind_1 : decode cX2_putKind 1 = .ok (.iload_n 1, 1) := by decide +kernel
theorem dX2_putKind_2 : decode cX2_putKind 2 = .ok (.invokevirtual 46, 3) := by decide +kernel
theorem dX2_putKind_5 : decode cX2_putKind 5 = .ok (.ifCond .eq 14, 3) := by decide +kernel
theorem dX2_putKind_8 : decode cX2_putKind 8 = .ok (.aload_n 0, 1) := by decide +kernel
theorem dX2_putKind_9 : decode cX2_putKind 9 = .ok (.getfield 9, 3) := by decide +kernel
theorem dX2_putKind_12 : decode cX2_putKind 12 = .ok (.iload_n 1, 1) := by decide +kernel
theorem dX2_putKind_13 : decode cX2_putKind 13 = .ok (.iconst 5, 1) := by decide +kernel
theorem dX2_putKind_14 : decode cX2_putKind 14 = .ok (.imul, 1) := by decide +kernel
theorem dX2_putKind_15 : decode cX2_putKind 15 = .ok (.iconst 0, 1) := by decide +kernel
theorem dX2_putKind_16 : decode cX2_putKind 16 = .ok (.iadd, 1) := by decide +kernel
theorem dX2_putKind_17 : decode cX2_putKind 17 = .ok (.iload_n 2, 1) := by decide +kernel
theorem dX2_putKind_18 : decode cX2_putKind 18 = .ok (.iastore, 1) := by decide +kernel
theorem dX2_putKind_19 : decode cX2_putKind 19 = .ok (.return_, 1) := by decide +kernel
theorem dX2_answerOf_0 : decode cX2_answerOf 0 = .ok (.aload_n 0, 1) := by decide +kernel
theorem dX2_answerOf_1 : decode cX2_answerOf 1 = .ok (.iload_n 1, 1) := by decide +kernel
theorem dX2_answerOf_2 : decode cX2_answerOf 2 = .ok (.iconst 0, 1) := by decide +kernel
theorem dX2_answerOf_3 : decode cX2_answerOf 3 = .ok (.invokevirtual 50, 3) := by decide +kernel
theorem dX2_answerOf_6 : decode cX2_answerOf 6 = .ok (.istore_n 3, 1) := by decide +kernel
theorem dX2_answerOf_7 : decode cX2_answerOf 7 = .ok (.iload_n 3, 1) := by decide +kernel
theorem dX2_answerOf_8 : decode cX2_answerOf 8 = .ok (.iconst 3, 1) := by decide +kernel
theorem dX2_answerOf_9 : decode cX2_answerOf 9 = .ok (.if_icmp .ne 5, 3) := by decide +kernel
theorem dX2_answerOf_12 : decode cX2_answerOf 12 = .ok (.iconst 4, 1) := by decide +kernel
theorem dX2_answerOf_13 : decode cX2_answerOf 13 = .ok (.ireturn, 1) := by decide +kernel
theorem dX2_answerOf_14 : decode cX2_answerOf 14 = .ok (.iload_n 3, 1) := by decide +kernel
theorem dX2_answerOf_15 : decode cX2_answerOf 15 = .ok (.iconst 1, 1) := by decide +kernel
theorem dX2_answerOf_16 : decode cX2_answerOf 16 = .ok (.if_icmp .ne 15, 3) := by decide +kernel
theorem dX2_answerOf_19 : decode cX2_answerOf 19 = .ok (.aload_n 0, 1) := by decide +kernel
theorem dX2_answerOf_20 : decode cX2_answerOf 20 = .ok (.iload_n 1, 1) := by decide +kernel
theorem dX2_answerOf_21 : decode cX2_answerOf 21 = .ok (.iconst 3, 1) := by decide +kernel
theorem dX2_answerOf_22 : decode cX2_answerOf 22 = .ok (.invokevirtual 50, 3) := by decide +kernel
theorem dX2_answerOf_25 : decode cX2_answerOf 25 = .ok (.iconst 1, 1) := by decide +kernel
theorem dX2_answerOf_26 : decode cX2_answerOf 26 = .ok (.if_icmp .ne 5, 3) := by decide +kernel
theorem dX2_answerOf_29 : decode cX2_answerOf 29 = .ok (.iconst 1, 1) := by decide +kernel
theorem dX2_answerOf_30 : decode cX2_answerOf 30 = .ok (.ireturn, 1) := by decide +kernel
theorem dX2_answerOf_31 : decode cX2_answerOf 31 = .ok (.iload_n 3, 1) := by decide +kernel
theorem dX2_answerOf_32 : decode cX2_answerOf 32 = .ok (.iconst 2, 1) := by decide +kernel
theorem dX2_answerOf_33 : decode cX2_answerOf 33 = .ok (.if_icmp .ne 17, 3) := by decide +kernel
theorem dX2_answerOf_36 : decode cX2_answerOf 36 = .ok (.aload_n 0, 1) := by decide +kernel
theorem dX2_answerOf_37 : decode cX2_answerOf 37 = .ok (.iload_n 1, 1) := by decide +kernel
theorem dX2_answerOf_38 : decode cX2_answerOf 38 = .ok (.iconst 2, 1) := by decide +kernel
theorem dX2_answerOf_39 : decode cX2_answerOf 39 = .ok (.invokevirtual 50, 3) := by decide +kernel
theorem dX2_answerOf_42 : decode cX2_answerOf 42 = .ok (.iload_n 2, 1) := by decide +kernel
theorem dX2_answerOf_43 : decode cX2_answerOf 43 = .ok (.if_icmp .lt 7, 3) := by decide +kernel
theorem dX2_answerOf_46 : decode cX2_answerOf 46 = .ok (.iconst 2, 1) := by decide +kernel
theorem dX2_answerOf_47 : decode cX2_answerOf 47 = .ok (.goto 4, 3) := by decide +kernel
theorem dX2_answerOf_50 : decode cX2_answerOf 50 = .ok (.iconst 3, 1) := by decide +kernel
theorem dX2_answerOf_51 : decode cX2_answerOf 51 = .ok (.ireturn, 1) := by decide +kernel
theorem dX3_init_0 : decode cX3_init 0 = .ok (.aload_n 0, 1) := by decide +kernel
theorem dX3_init_1 : decode cX3_init 1 = .ok (.invokespecial 1, 3) := by decide +kernel
theorem dX3_init_4 : decode cX3_init 4 = .ok (.aload_n 0, 1) := by decide +kernel
theorem dX3_init_5 : decode cX3_init 5 = .ok (.iload_n 1, 1) := by decide +kernel
theorem dX3_init_6 : decode cX3_init 6 = .ok (.putfield 7, 3) := by decide +kernel
theorem dX3_init_9 : decode cX3_init 9 = .ok (.return_, 1) := by decide +kernel
theorem dX3_draw_0 : decode cX3_draw 0 = .ok (.aload_n 0, 1) := by decide +kernel
theorem dX3_draw_1 : decode cX3_draw 1 = .ok (.ldc 13, 2) := by decide +kernel
theorem dX3_draw_3 : decode cX3_draw 3 = .ok (.aload_n 0, 1) := by decide +kernel
theorem dX3_draw_4 : decode cX3_draw 4 = .ok (.getfield 7, 3) := by decide +kernel
theorem dX3_draw_7 : decode cX3_draw 7 = .ok (.imul, 1) := by decide +kernel
theorem dX3_draw_8 : decode cX3_draw 8 = .ok (.sipush 12345, 3) := by decide +kernel
theorem dX3_draw_11 : decode cX3_draw 11 = .ok (.iadd, 1) := by decide +kernel
theorem dX3_draw_12 : decode cX3_draw 12 = .ok (.putfield 7, 3) := by decide +kernel
theorem dX3_draw_15 : decode cX3_draw 15 = .ok (.iload_n 1, 1) := by decide +kernel
theorem dX3_draw_16 : decode cX3_draw 16 = .ok (.ifCond .le 15, 3) := by decide +kernel
theorem dX3_draw_19 : decode cX3_draw 19 = .ok (.aload_n 0, 1) := by decide +kernel
theorem dX3_draw_20 : decode cX3_draw 20 = .ok (.getfield 7, 3) := by decide +kernel
theorem dX3_draw_23 : decode cX3_draw 23 = .ok (.bipush 16, 2) := by decide +kernel
theorem dX3_draw_25 : decode cX3_draw 25 = .ok (.iushr, 1) := by decide +kernel
theorem dX3_draw_26 : decode cX3_draw 26 = .ok (.iload_n 1, 1) := by decide +kernel
theorem dX3_draw_27 : decode cX3_draw 27 = .ok (.irem, 1) := by decide +kernel
theorem dX3_draw_28 : decode cX3_draw 28 = .ok (.goto 4, 3) := by decide +kernel
theorem dX3_draw_31 : decode cX3_draw 31 = .ok (.iconst 0, 1) := by decide +kernel
theorem dX3_draw_32 : decode cX3_draw 32 = .ok (.ireturn, 1) := by decide +kernel
theorem dX4_init_0 : decode cX4_init 0 = .ok (.aload_n 0, 1) := by decide +kernel
theorem dX4_init_1 : decode cX4_init 1 = .ok (.invokespecial 3, 3) := by decide +kernel
theorem dX4_init_4 : decode cX4_init 4 = .ok (.aload_n 0, 1) := by decide +kernel
theorem dX4_init_5 : decode cX4_init 5 = .ok (.bipush 12, 2) := by decide +kernel
theorem dX4_init_7 : decode cX4_init 7 = .ok (.newarray .int, 2) := by decide +kernel
theorem dX4_init_9 : decode cX4_init 9 = .ok (.putfield 9, 3) := by decide +kernel
theorem dX4_init_12 : decode cX4_init 12 = .ok (.aload_n 0, 1) := by decide +kernel
theorem dX4_init_13 : decode cX4_init 13 = .ok (.iconst (-1), 1) := by decide +kernel
theorem dX4_init_14 : decode cX4_init 14 = .ok (.putfield 15, 3) := by decide +kernel
theorem dX4_init_17 : decode cX4_init 17 = .ok (.return_, 1) := by decide +kernel
theorem dX4_parse_0 : decode cX4_parse 0 = .ok (.aload_n 0, 1) := by decide +kernel
theorem dX4_parse_1 : decode cX4_parse 1 = .ok (.iconst (-1), 1) := by decide +kernel
theorem dX4_parse_2 : decode cX4_parse 2 = .ok (.putfield 15, 3) := by decide +kernel
theorem dX4_parse_5 : decode cX4_parse 5 = .ok (.aload_n 0, 1) := by decide +kernel
theorem dX4_parse_6 : decode cX4_parse 6 = .ok (.bipush 12, 2) := by decide +kernel
theorem dX4_parse_8 : decode cX4_parse 8 = .ok (.aload_n 1, 1) := by decide +kernel
theorem dX4_parse_9 : decode cX4_parse 9 = .ok (.getfield 19, 3) := by decide +kernel
theorem dX4_parse_12 : decode cX4_parse 12 = .ok (.invokestatic 24, 3) := by decide +kernel
theorem dX4_parse_15 : decode cX4_parse 15 = .ok (.putfield 30, 3) := by decide +kernel
theorem dX4_parse_18 : decode cX4_parse 18 = .ok (.iconst 0, 1) := by decide +kernel
theorem dX4_parse_19 : decode cX4_parse 19 = .ok (.istore_n 2, 1) := by decide +kernel
theorem dX4_parse_20 : decode cX4_parse 20 = .ok (.iload_n 2, 1) := by decide +kernel
theorem dX4_parse_21 : decode cX4_parse 21 = .ok (.aload_n 0, 1) := by decide +kernel
theorem dX4_parse_22 : decode cX4_parse 22 = .ok (.getfield 30, 3) := by decide +kernel
theorem dX4_parse_25 : decode cX4_parse 25 = .ok (.if_icmp .ge 48, 3) := by decide +kernel
theorem dX4_parse_28 : decode cX4_parse 28 = .ok (.aload_n 1, 1) := by decide +kernel
theorem dX4_parse_29 : decode cX4_parse 29 = .ok (.iload_n 2, 1) := by decide +kernel
theorem dX4_parse_30 : decode cX4_parse 30 = .ok (.invokevirtual 31, 3) := by decide +kernel
theorem dX4_parse_33 : decode cX4_parse 33 = .ok (.istore_n 3, 1) := by decide +kernel
theorem dX4_parse_34 : decode cX4_parse 34 = .ok (.iload_n 3, 1) := by decide +kernel
theorem dX4_parse_35 : decode cX4_parse 35 = .ok (.bipush 97, 2) := by decide +kernel
theorem dX4_parse_37 : decode cX4_parse 37 = .ok (.if_icmp .lt 9, 3) := by decide +kernel
theorem dX4_parse_40 : decode cX4_parse 40 = .ok (.iload_n 3, 1) := by decide +kernel
theorem dX4_parse_41 : decode cX4_parse 41 = .ok (.bipush 104, 2) := by decide +kernel
theorem dX4_parse_43 : decode cX4_parse 43 = .ok (.if_icmp .le 14, 3) := by decide +kernel
theorem dX4_parse_46 : decode cX4_parse 46 = .ok (.aload_n 0, 1) := by decide +kernel
theorem dX4_parse_47 : decode cX4_parse 47 = .ok (.iload_n 2, 1) := by decide +kernel
theorem dX4_parse_48 : decode cX4_parse 48 = .ok (.putfield 15, 3) := by decide +kernel
theorem dX4_parse_51 : decode cX4_parse 51 = .ok (.aload_n 0, 1) := by decide +kernel
theorem dX4_parse_52 : decode cX4_parse 52 = .ok (.iconst 0, 1) := by decide +kernel
theorem dX4_parse_53 : decode cX4_parse 53 = .ok (.putfield 30, 3) := by decide +kernel
theorem dX4_parse_56 : decode cX4_parse 56 = .ok (.return_, 1) := by decide +kernel
theorem dX4_parse_57 : decode cX4_parse 57 = .ok (.aload_n 0, 1) := by decide +kernel
theorem dX4_parse_58 : decode cX4_parse 58 = .ok (.getfield 9, 3) := by decide +kernel
theorem dX4_parse_61 : decode cX4_parse 61 = .ok (.iload_n 2, 1) := by decide +kernel
theorem dX4_parse_62 : decode cX4_parse 62 = .ok (.iload_n 3, 1) := by decide +kernel
theorem dX4_parse_63 : decode cX4_parse 63 = .ok (.bipush 97, 2) := by decide +kernel
theorem dX4_parse_65 : decode cX4_parse 65 = .ok (.isub, 1) := by decide +kernel
theorem dX4_parse_66 : decode cX4_parse 66 = .ok (.iastore, 1) := by decide +kernel
theorem dX4_parse_67 : decode cX4_parse 67 = .ok (.iinc 2 1, 3) := by decide +kernel
theorem dX4_parse_70 : decode cX4_parse 70 = .ok (.goto (-50), 3) := by decide +kernel
theorem dX4_parse_73 : decode cX4_parse 73 = .ok (.return_, 1) := by decide +kernel
theorem dX4_whoAt_0 : decode cX4_whoAt 0 = .ok (.iload_n 1, 1) := by decide +kernel
theorem dX4_whoAt_1 : decode cX4_whoAt 1 = .ok (.ifCond .lt 20, 3) := by decide +kernel
theorem dX4_whoAt_4 : decode cX4_whoAt 4 = .ok (.iload_n 1, 1) := by decide +kernel
theorem dX4_whoAt_5 : decode cX4_whoAt 5 = .ok (.aload_n 0, 1) := by decide +kernel
theorem dX4_whoAt_6 : decode cX4_whoAt 6 = .ok (.getfield 30, 3) := by decide +kernel
theorem dX4_whoAt_9 : decode cX4_whoAt 9 = .ok (.if_icmp .ge 12, 3) := by decide +kernel
theorem dX4_whoAt_12 : decode cX4_whoAt 12 = .ok (.aload_n 0, 1) := by decide +kernel
theorem dX4_whoAt_13 : decode cX4_whoAt 13 = .ok (.getfield 9, 3) := by decide +kernel
theorem dX4_whoAt_16 : decode cX4_whoAt 16 = .ok (.iload_n 1, 1) := by decide +kernel
theorem dX4_whoAt_17 : decode cX4_whoAt 17 = .ok (.iaload, 1) := by decide +kernel
theorem dX4_whoAt_18 : decode cX4_whoAt 18 = .ok (.goto 4, 3) := by decide +kernel
theorem dX4_whoAt_21 : decode cX4_whoAt 21 = .ok (.iconst (-1), 1) := by decide +kernel
theorem dX4_whoAt_22 : decode cX4_whoAt 22 = .ok (.ireturn, 1) := by decide +kernel
theorem dX5_init_0 : decode cX5_init 0 = .ok (.aload_n 0, 1) := by decide +kernel
theorem dX5_init_1 : decode cX5_init 1 = .ok (.invokespecial 3, 3) := by decide +kernel
theorem dX5_init_4 : decode cX5_init 4 = .ok (.aload_n 0, 1) := by decide +kernel
theorem dX5_init_5 : decode cX5_init 5 = .ok (.sipush 2560, 3) := by decide +kernel
theorem dX5_init_8 : decode cX5_init 8 = .ok (.newarray .long, 2) := by decide +kernel
theorem dX5_init_10 : decode cX5_init 10 = .ok (.putfield 11, 3) := by decide +kernel
theorem dX5_init_13 : decode cX5_init 13 = .ok (.aload_n 0, 1) := by decide +kernel
theorem dX5_init_14 : decode cX5_init 14 = .ok (.bipush 80, 2) := by decide +kernel
theorem dX5_init_16 : decode cX5_init 16 = .ok (.newarray .int, 2) := by decide +kernel
theorem dX5_init_18 : decode cX5_init 18 = .ok (.putfield 15, 3) := by decide +kernel
theorem dX5_init_21 : decode cX5_init 21 = .ok (.aload_n 0, 1) := by decide +kernel
theorem dX5_init_22 : decode cX5_init 22 = .ok (.bipush 80, 2) := by decide +kernel
theorem dX5_init_24 : decode cX5_init 24 = .ok (.newarray .int, 2) := by decide +kernel
theorem dX5_init_26 : decode cX5_init 26 = .ok (.putfield 19, 3) := by decide +kernel
theorem dX5_init_29 : decode cX5_init 29 = .ok (.aload_n 0, 1) := by decide +kernel
theorem dX5_init_30 : decode cX5_init 30 = .ok (.bipush 8, 2) := by decide +kernel
theorem dX5_init_32 : decode cX5_init 32 = .ok (.newarray .int, 2) := by decide +kernel
theorem dX5_init_34 : decode cX5_init 34 = .ok (.putfield 22, 3) := by decide +kernel
theorem dX5_init_37 : decode cX5_init 37 = .ok (.return_, 1) := by decide +kernel
theorem dX5_makeOnce_0 : decode cX5_makeOnce 0 = .ok (.aload_n 0, 1) := by decide +kernel
theorem dX5_makeOnce_1 : decode cX5_makeOnce 1 = .ok (.getfield 25, 3) := by decide +kernel
theorem dX5_makeOnce_4 : decode cX5_makeOnce 4 = .ok (.ifCond .eq 4, 3) := by decide +kernel
theorem dX5_makeOnce_7 : decode cX5_makeOnce 7 = .ok (.return_, 1) := by decide +kernel
theorem dX5_makeOnce_8 : decode cX5_makeOnce 8 = .ok (.aload_n 0, 1) := by decide +kernel
theorem dX5_makeOnce_9 : decode cX5_makeOnce 9 = .ok (.bipush 8, 2) := by decide +kernel
theorem dX5_makeOnce_11 : decode cX5_makeOnce 11 = .ok (.aload_n 1, 1) := by decide +kernel
theorem dX5_makeOnce_12 : decode cX5_makeOnce 12 = .ok (.getfield 29, 3) := by decide +kernel
theorem dX5_makeOnce_15 : decode cX5_makeOnce 15 = .ok (.invokestatic 35, 3) := by decide +kernel
theorem dX5_makeOnce_18 : decode cX5_makeOnce 18 = .ok (.putfield 41, 3) := by decide +kernel
theorem dX5_makeOnce_21 : decode cX5_makeOnce 21 = .ok (.aload_n 0, 1) := by decide +kernel
theorem dX5_makeOnce_22 : decode cX5_makeOnce 22 = .ok (.iconst 0, 1) := by decide +kernel
theorem dX5_makeOnce_23 : decode cX5_makeOnce 23 = .ok (.bipush 9, 2) := by decide +kernel
theorem dX5_makeOnce_25 : decode cX5_makeOnce 25 = .ok (.aload_n 2, 1) := by decide +kernel
theorem dX5_makeOnce_26 : decode cX5_makeOnce 26 = .ok (.getfield 44, 3) := by decide +kernel
theorem dX5_makeOnce_29 : decode cX5_makeOnce 29 = .ok (.invokestatic 35, 3) := by decide +kernel
theorem dX5_makeOnce_32 : decode cX5_makeOnce 32 = .ok (.invokestatic 49, 3) := by decide +kernel
theorem dX5_makeOnce_35 : decode cX5_makeOnce 35 = .ok (.putfield 52, 3) := by decide +kernel
theorem dX5_makeOnce_38 : decode cX5_makeOnce 38 = .ok (.aload_n 0, 1) := by decide +kernel
theorem dX5_makeOnce_39 : decode cX5_makeOnce 39 = .ok (.aload_n 2, 1) := by decide +kernel
theorem dX5_makeOnce_40 : decode cX5_makeOnce 40 = .ok (.getfield 55, 3) := by decide +kernel
theorem dX5_makeOnce_43 : decode cX5_makeOnce 43 = .ok (.putfield 58, 3) := by decide +kernel
theorem dX5_makeOnce_46 : decode cX5_makeOnce 46 = .ok (.aload_n 0, 1) := by decide +kernel
theorem dX5_makeOnce_47 : decode cX5_makeOnce 47 = .ok (.iconst 0, 1) := by decide +kernel
theorem dX5_makeOnce_48 : decode cX5_makeOnce 48 = .ok (.putfield 61, 3) := by decide +kernel
theorem dX5_makeOnce_51 : decode cX5_makeOnce 51 = .ok (.iconst 0, 1) := by decide +kernel
theorem dX5_makeOnce_52 : decode cX5_makeOnce 52 = .ok (.istore_n 3, 1) := by decide +kernel
theorem dX5_makeOnce_53 : decode cX5_makeOnce 53 = .ok (.iload_n 3, 1) := by decide +kernel
theorem dX5_makeOnce_54 : decode cX5_makeOnce 54 = .ok (.aload_n 0, 1) := by decide +kernel
theorem dX5_makeOnce_55 : decode cX5_makeOnce 55 = .ok (.getfield 41, 3) := by decide +kernel
theorem dX5_makeOnce_58 : decode cX5_makeOnce 58 = .ok (.if_icmp .ge 29, 3) := by decide +kernel
theorem dX5_makeOnce_61 : decode cX5_makeOnce 61 = .ok (.aload_n 0, 1) := by decide +kernel
theorem dX5_makeOnce_62 : decode cX5_makeOnce 62 = .ok (.iload_n 3, 1) := by decide +kernel
theorem dX5_makeOnce_63 : decode cX5_makeOnce 63 = .ok (.aload_n 1, 1) := by decide +kernel
theorem dX5_makeOnce_64 : decode cX5_makeOnce 64 = .ok (.iload_n 3, 1) := by decide +kernel
theorem dX5_makeOnce_65 : decode cX5_makeOnce 65 = .ok (.aload_n 2, 1) := by decide +kernel
theorem dX5_makeOnce_66 : decode cX5_makeOnce 66 = .ok (.getfield 64, 3) := by decide +kernel
theorem dX5_makeOnce_69 : decode cX5_makeOnce 69 = .ok (.invokevirtual 67, 3) := by decide +kernel
theorem dX5_makeOnce_72 : decode cX5_makeOnce 72 = .ok (.aload_n 1, 1) := by decide +kernel
theorem dX5_makeOnce_73 : decode cX5_makeOnce 73 = .ok (.iload_n 3, 1) := by decide +kernel
theorem dX5_makeOnce_74 : decode cX5_makeOnce 74 = .ok (.iconst 1, 1) := by decide +kernel
theorem dX5_makeOnce_75 : decode cX5_makeOnce 75 = .ok (.invokevirtual 70, 3) := by decide +kernel
theorem dX5_makeOnce_78 : decode cX5_makeOnce 78 = .ok (.invokevirtual 73, 3) := by decide +kernel
theorem dX5_makeOnce_81 : decode cX5_makeOnce 81 = .ok (.iinc 3 1, 3) := by decide +kernel
theorem dX5_makeOnce_84 : decode cX5_makeOnce 84 = .ok (.goto (-31), 3) := by decide +kernel
theorem dX5_makeOnce_87 : decode cX5_makeOnce 87 = .ok (.aload_n 0, 1) := by decide +kernel
theorem dX5_makeOnce_88 : decode cX5_makeOnce 88 = .ok (.invokevirtual 77, 3) := by decide +kernel
theorem dX5_makeOnce_91 : decode cX5_makeOnce 91 = .ok (.aload_n 0, 1) := by decide +kernel
theorem dX5_makeOnce_92 : decode cX5_makeOnce 92 = .ok (.aload_n 0, 1) := by decide +kernel
theorem dX5_makeOnce_93 : decode cX5_makeOnce 93 = .ok (.getfield 11, 3) := by decide +kernel
theorem dX5_makeOnce_96 : decode cX5_makeOnce 96 = .ok (.aload_n 0, 1) := by decide +kernel
theorem dX5_makeOnce_97 : decode cX5_makeOnce 97 = .ok (.getfield 52, 3) := by decide +kernel
theorem dX5_makeOnce_100 : decode cX5_makeOnce 100 = .ok (.laload, 1) := by decide +kernel
theorem dX5_makeOnce_101 : decode cX5_makeOnce 101 = .ok (.putfield 80, 3) := by decide +kernel
theorem dX5_makeOnce_104 : decode cX5_makeOnce 104 = .ok (.aload_n 0, 1) := by decide +kernel
theorem dX5_makeOnce_105 : decode cX5_makeOnce 105 = .ok (.iconst 0, 1) := by decide +kernel
theorem dX5_makeOnce_106 : decode cX5_makeOnce 106 = .ok (.putfield 84, 3) := by decide +kernel
theorem dX5_makeOnce_109 : decode cX5_makeOnce 109 = .ok (.aload_n 0, 1) := by decide +kernel
theorem dX5_makeOnce_110 : decode cX5_makeOnce 110 = .ok (.getfield 80, 3) := by decide +kernel
theorem dX5_makeOnce_113 : decode cX5_makeOnce 113 = .ok (.lconst 0, 1) := by decide +kernel
theorem dX5_makeOnce_114 : decode cX5_makeOnce 114 = .ok (.lcmp, 1) := by decide +kernel
theorem dX5_makeOnce_115 : decode cX5_makeOnce 115 = .ok (.ifCond .le 7, 3) := by decide +kernel
theorem dX5_makeOnce_118 : decode cX5_makeOnce 118 = .ok (.aload_n 0, 1) := by decide +kernel
theorem dX5_makeOnce_119 : decode cX5_makeOnce 119 = .ok (.invokevirtual 87, 3) := by decide +kernel
theorem dX5_makeOnce_122 : decode cX5_makeOnce 122 = .ok (.aload_n 0, 1) := by decide +kernel
theorem dX5_makeOnce_123 : decode cX5_makeOnce 123 = .ok (.iconst 1, 1) := by decide +kernel
theorem dX5_makeOnce_124 : decode cX5_makeOnce 124 = .ok (.putfield 25, 3) := by decide +kernel
theorem dX5_makeOnce_127 : decode cX5_makeOnce 127 = .ok (.return_, 1) := by decide +kernel
theorem dX5_prepare_0 : decode cX5_prepare 0 = .ok (.iload_n 2, 1) := by decide +kernel
theorem dX5_prepare_1 : decode cX5_prepare 1 = .ok (.invokestatic 90, 3) := by decide +kernel
theorem dX5_prepare_4 : decode cX5_prepare 4 = .ok (.istore 4, 2) := by decide +kernel
theorem dX5_prepare_6 : decode cX5_prepare 6 = .ok (.aload_n 0, 1) := by decide +kernel
theorem dX5_prepare_7 : decode cX5_prepare 7 = .ok (.dup, 1) := by decide +kernel
theorem dX5_prepare_8 : decode cX5_prepare 8 = .ok (.getfield 61, 3) := by decide +kernel
theorem dX5_prepare_11 : decode cX5_prepare 11 = .ok (.iload 4, 2) := by decide +kernel
theorem dX5_prepare_13 : decode cX5_prepare 13 = .ok (.ifCond .eq 9, 3) := by decide +kernel
theorem dX5_prepare_16 : decode cX5_prepare 16 = .ok (.iconst 1, 1) := by decide +kernel
theorem dX5_prepare_17 : decode cX5_prepare 17 = .ok (.iload_n 1, 1) := by decide +kernel
theorem dX5_prepare_18 : decode cX5_prepare 18 = .ok (.ishl, 1) := by decide +kernel
theorem dX5_prepare_19 : decode cX5_prepare 19 = .ok (.goto 4, 3) := by decide +kernel
theorem dX5_prepare_22 : decode cX5_prepare 22 = .ok (.iconst 0, 1) := by decide +kernel
theorem dX5_prepare_23 : decode cX5_prepare 23 = .ok (.ior, 1) := by decide +kernel
theorem dX5_prepare_24 : decode cX5_prepare 24 = .ok (.putfield 61, 3) := by decide +kernel
theorem dX5_prepare_27 : decode cX5_prepare 27 = .ok (.iconst 0, 1) := by decide +kernel
theorem dX5_prepare_28 : decode cX5_prepare 28 = .ok (.istore 5, 2) := by decide +kernel
theorem dX5_prepare_30 : decode cX5_prepare 30 = .ok (.iload 5, 2) := by decide +kernel
theorem dX5_prepare_32 : decode cX5_prepare 32 = .ok (.aload_n 0, 1) := by decide +kernel
theorem dX5_prepare_33 : decode cX5_prepare 33 = .ok (.getfield 52, 3) := by decide +kernel
theorem dX5_prepare_36 : decode cX5_prepare 36 = .ok (.if_icmp .gt 58, 3) := by decide +kernel
theorem dX5_prepare_39 : decode cX5_prepare 39 = .ok (.iload_n 1, 1) := by decide +kernel
theorem dX5_prepare_40 : decode cX5_prepare 40 = .ok (.bipush 10, 2) := by decide +kernel
theorem dX5_prepare_42 : decode cX5_prepare 42 = .ok (.imul, 1) := by decide +kernel
theorem dX5_prepare_43 : decode cX5_prepare 43 = .ok (.iload 5, 2) := by decide +kernel
theorem dX5_prepare_45 : decode cX5_prepare 45 = .ok (.iadd, 1) := by decide +kernel
theorem dX5_prepare_46 : decode cX5_prepare 46 = .ok (.istore 6, 2) := by decide +kernel
theorem dX5_prepare_48 : decode cX5_prepare 48 = .ok (.aload_n 0, 1) := by decide +kernel
theorem dX5_prepare_49 : decode cX5_prepare 49 = .ok (.getfield 15, 3) := by decide +kernel
theorem dX5_prepare_52 : decode cX5_prepare 52 = .ok (.iload 6, 2) := by decide +kernel
theorem dX5_prepare_54 : decode cX5_prepare 54 = .ok (.iload 4, 2) := by decide +kernel
theorem dX5_prepare_56 : decode cX5_prepare 56 = .ok (.ifCond .eq 13, 3) := by decide +kernel
theorem dX5_prepare_59 : decode cX5_prepare 59 = .ok (.iload_n 2, 1) := by decide +kernel
theorem dX5_prepare_60 : decode cX5_prepare 60 = .ok (.iload 5, 2) := by decide +kernel
theorem dX5_prepare_62 : decode cX5_prepare 62 = .ok (.iload_n 3, 1) := by decide +kernel
theorem dX5_prepare_63 : decode cX5_prepare 63 = .ok (.invokestatic 96, 3) := by decide +kernel
theorem dX5_prepare_66 : decode cX5_prepare 66 = .ok (.goto 4, 3) := by decide +kernel
theorem dX5_prepare_69 : decode cX5_prepare 69 = .ok (.iconst 1, 1) := by decide +kernel
theorem dX5_prepare_70 : decode cX5_prepare 70 = .ok (.iastore, 1) := by decide +kernel
theorem dX5_prepare_71 : decode cX5_prepare 71 = .ok (.aload_n 0, 1) := by decide +kernel
theorem dX5_prepare_72 : decode cX5_prepare 72 = .ok (.getfield 19, 3) := by decide +kernel
theorem dX5_prepare_75 : decode cX5_prepare 75 = .ok (.iload 6, 2) := by decide +kernel
theorem dX5_prepare_77 : decode cX5_prepare 77 = .ok (.iload_n 2, 1) := by decide +kernel
theorem dX5_prepare_78 : decode cX5_prepare 78 = .ok (.iload 5, 2) := by decide +kernel
theorem dX5_prepare_80 : decode cX5_prepare 80 = .ok (.aload_n 0, 1) := by decide +kernel
theorem dX5_prepare_81 : decode cX5_prepare 81 = .ok (.getfield 52, 3) := by decide +kernel
theorem dX5_prepare_84 : decode cX5_prepare 84 = .ok (.invokestatic 100, 3) := by decide +kernel
theorem dX5_prepare_87 : decode cX5_prepare 87 = .ok (.iastore, 1) := by decide +kernel
theorem dX5_prepare_88 : decode cX5_prepare 88 = .ok (.iinc 5 1, 3) := by decide +kernel
theorem dX5_prepare_91 : decode cX5_prepare 91 = .ok (.goto (-61), 3) := by decide +kernel
theorem dX5_prepare_94 : decode cX5_prepare 94 = .ok (.return_, 1) := by decide +kernel
theorem dX5_winsOf_0 : decode cX5_winsOf 0 = .ok (.iload_n 1, 1) := by decide +kernel
theorem dX5_winsOf_1 : decode cX5_winsOf 1 = .ok (.aload_n 0, 1) := by decide +kernel
theorem dX5_winsOf_2 : decode cX5_winsOf 2 = .ok (.getfield 61, 3) := by decide +kernel
theorem dX5_winsOf_5 : decode cX5_winsOf 5 = .ok (.iand, 1) := by decide +kernel
theorem dX5_winsOf_6 : decode cX5_winsOf 6 = .ok (.invokestatic 102, 3) := by decide +kernel
theorem dX5_winsOf_9 : decode cX5_winsOf 9 = .ok (.ireturn, 1) := by decide +kernel
theorem dX5_fillValues_0 : decode cX5_fillValues 0 = .ok (.iconst 1, 1) := by decide +kernel
theorem dX5_fillValues_1 : decode cX5_fillValues 1 = .ok (.aload_n 0, 1) := by decide +kernel
theorem dX5_fillValues_2 : decode cX5_fillValues 2 = .ok (.getfield 41, 3) := by decide +kernel
theorem dX5_fillValues_5 : decode cX5_fillValues 5 = .ok (.ishl, 1) := by decide +kernel
theorem dX5_fillValues_6 : decode cX5_fillValues 6 = .ok (.iconst 1, 1) := by decide +kernel
theorem dX5_fillValues_7 : decode cX5_fillValues 7 = .ok (.isub, 1) := by decide +kernel
theorem dX5_fillValues_8 : decode cX5_fillValues 8 = .ok (.istore_n 1, 1) := by decide +kernel
theorem dX5_fillValues_9 : decode cX5_fillValues 9 = .ok (.iload_n 1, 1) := by decide +kernel
theorem dX5_fillValues_10 : decode cX5_fillValues 10 = .ok (.ifCond .lt 69, 3) := by decide +kernel
theorem dX5_fillValues_13 : decode cX5_fillValues 13 = .ok (.aload_n 0, 1) := by decide +kernel
theorem dX5_fillValues_14 : decode cX5_fillValues 14 = .ok (.iload_n 1, 1) := by decide +kernel
theorem dX5_fillValues_15 : decode cX5_fillValues 15 = .ok (.invokevirtual 108, 3) := by decide +kernel
theorem dX5_fillValues_18 : decode cX5_fillValues 18 = .ok (.istore_n 2, 1) := by decide +kernel
theorem dX5_fillValues_19 : decode cX5_fillValues 19 = .ok (.iconst 0, 1) := by decide +kernel
theorem dX5_fillValues_20 : decode cX5_fillValues 20 = .ok (.aload_n 0, 1) := by decide +kernel
theorem dX5_fillValues_21 : decode cX5_fillValues 21 = .ok (.getfield 52, 3) := by decide +kernel
theorem dX5_fillValues_24 : decode cX5_fillValues 24 = .ok (.iload_n 2, 1) := by decide +kernel
theorem dX5_fillValues_25 : decode cX5_fillValues 25 = .ok (.isub, 1) := by decide +kernel
theorem dX5_fillValues_26 : decode cX5_fillValues 26 = .ok (.invokestatic 49, 3) := by decide +kernel
theorem dX5_fillValues_29 : decode cX5_fillValues 29 = .ok (.istore_n 3, 1) := by decide +kernel
theorem dX5_fillValues_30 : decode cX5_fillValues 30 = .ok (.iload_n 3, 1) := by decide +kernel
theorem dX5_fillValues_31 : decode cX5_fillValues 31 = .ok (.aload_n 0, 1) := by decide +kernel
theorem dX5_fillValues_32 : decode cX5_fillValues 32 = .ok (.getfield 52, 3) := by decide +kernel
theorem dX5_fillValues_35 : decode cX5_fillValues 35 = .ok (.if_icmp .gt 38, 3) := by decide +kernel
theorem dX5_fillValues_38 : decode cX5_fillValues 38 = .ok (.aload_n 0, 1) := by decide +kernel
theorem dX5_fillValues_39 : decode cX5_fillValues 39 = .ok (.getfield 11, 3) := by decide +kernel
theorem dX5_fillValues_42 : decode cX5_fillValues 42 = .ok (.iload_n 1, 1) := by decide +kernel
theorem dX5_fillValues_43 : decode cX5_fillValues 43 = .ok (.bipush 10, 2) := by decide +kernel
theorem dX5_fillValues_45 : decode cX5_fillValues 45 = .ok (.imul, 1) := by decide +kernel
theorem dX5_fillValues_46 : decode cX5_fillValues 46 = .ok (.iload_n 3, 1) := by decide +kernel
theorem dX5_fillValues_47 : decode cX5_fillValues 47 = .ok (.iadd, 1) := by decide +kernel
theorem dX5_fillValues_48 : decode cX5_fillValues 48 = .ok (.iload_n 2, 1) := by decide +kernel
theorem dX5_fillValues_49 : decode cX5_fillValues 49 = .ok (.aload_n 0, 1) := by decide +kernel
theorem dX5_fillValues_50 : decode cX5_fillValues 50 = .ok (.getfield 58, 3) := by decide +kernel
theorem dX5_fillValues_53 : decode cX5_fillValues 53 = .ok (.if_icmp .lt 7, 3) := by decide +kernel
theorem dX5_fillValues_56 : decode cX5_fillValues 56 = .ok (.lconst 1, 1) := by decide +kernel
theorem dX5_fillValues_57 : decode cX5_fillValues 57 = .ok (.goto 9, 3) := by decide +kernel
theorem dX5_fillValues_60 : decode cX5_fillValues 60 = .ok (.aload_n 0, 1) := by decide +kernel
theorem dX5_fillValues_61 : decode cX5_fillValues 61 = .ok (.iload_n 1, 1) := by decide +kernel
theorem dX5_fillValues_62 : decode cX5_fillValues 62 = .ok (.iload_n 3, 1) := by decide +kernel
theorem dX5_fillValues_63 : decode cX5_fillValues 63 = .ok (.invokevirtual 111, 3) := by decide +kernel
theorem dX5_fillValues_66 : decode cX5_fillValues 66 = .ok (.lastore, 1) := by decide +kernel
theorem dX5_fillValues_67 : decode cX5_fillValues 67 = .ok (.iinc 3 1, 3) := by decide +kernel
theorem dX5_fillValues_70 : decode cX5_fillValues 70 = .ok (.goto (-40), 3) := by decide +kernel
theorem dX5_fillValues_73 : decode cX5_fillValues 73 = .ok (.iinc 1 (-1), 3) := by decide +kernel
theorem dX5_fillValues_76 : decode cX5_fillValues 76 = .ok (.goto (-67), 3) := by decide +kernel
theorem dX5_fillValues_79 : decode cX5_fillValues 79 = .ok (.return_, 1) := by decide +kernel
theorem dX5_mostBehind_0 : decode cX5_mostBehind 0 = .ok (.lconst 0, 1) := by decide +kernel
theorem dX5_mostBehind_1 : decode cX5_mostBehind 1 = .ok (.lstore_n 3, 1) := by decide +kernel
theorem dX5_mostBehind_2 : decode cX5_mostBehind 2 = .ok (.iconst 0, 1) := by decide +kernel
theorem dX5_mostBehind_3 : decode cX5_mostBehind 3 = .ok (.istore 5, 2) := by decide +kernel
theorem dX5_mostBehind_5 : decode cX5_mostBehind 5 = .ok (.iload 5, 2) := by decide +kernel
theorem dX5_mostBehind_7 : decode cX5_mostBehind 7 = .ok (.aload_n 0, 1) := by decide +kernel
theorem dX5_mostBehind_8 : decode cX5_mostBehind 8 = .ok (.getfield 41, 3) := by decide +kernel
theorem dX5_mostBehind_11 : decode cX5_mostBehind 11 = .ok (.if_icmp .ge 31, 3) := by decide +kernel
theorem dX5_mostBehind_14 : decode cX5_mostBehind 14 = .ok (.iload_n 1, 1) := by decide +kernel
theorem dX5_mostBehind_15 : decode cX5_mostBehind 15 = .ok (.iload 5, 2) := by decide +kernel
theorem dX5_mostBehind_17 : decode cX5_mostBehind 17 = .ok (.ishr, 1) := by decide +kernel
theorem dX5_mostBehind_18 : decode cX5_mostBehind 18 = .ok (.iconst 1, 1) := by decide +kernel
theorem dX5_mostBehind_19 : decode cX5_mostBehind 19 = .ok (.iand, 1) := by decide +kernel
theorem dX5_mostBehind_20 : decode cX5_mostBehind 20 = .ok (.ifCond .ne 16, 3) := by decide +kernel
theorem dX5_mostBehind_23 : decode cX5_mostBehind 23 = .ok (.lload_n 3, 1) := by decide +kernel
theorem dX5_mostBehind_24 : decode cX5_mostBehind 24 = .ok (.aload_n 0, 1) := by decide +kernel
theorem dX5_mostBehind_25 : decode cX5_mostBehind 25 = .ok (.iload_n 1, 1) := by decide +kernel
theorem dX5_mostBehind_26 : decode cX5_mostBehind 26 = .ok (.iload_n 2, 1) := by decide +kernel
theorem dX5_mostBehind_27 : decode cX5_mostBehind 27 = .ok (.iload 5, 2) := by decide +kernel
theorem dX5_mostBehind_29 : decode cX5_mostBehind 29 = .ok (.invokevirtual 115, 3) := by decide +kernel
theorem dX5_mostBehind_32 : decode cX5_mostBehind 32 = .ok (.invokestatic 119, 3) := by decide +kernel
theorem dX5_mostBehind_35 : decode cX5_mostBehind 35 = .ok (.lstore_n 3, 1) := by decide +kernel
theorem dX5_mostBehind_36 : decode cX5_mostBehind 36 = .ok (.iinc 5 1, 3) := by decide +kernel
theorem dX5_mostBehind_39 : decode cX5_mostBehind 39 = .ok (.goto (-34), 3) := by decide +kernel
theorem dX5_mostBehind_42 : decode cX5_mostBehind 42 = .ok (.lload_n 3, 1) := by decide +kernel
theorem dX5_mostBehind_43 : decode cX5_mostBehind 43 = .ok (.lreturn, 1) := by decide +kernel
theorem dX5_valueIfNext_0 : decode cX5_valueIfNext 0 = .ok (.iload_n 3, 1) := by decide +kernel
theorem dX5_valueIfNext_1 : decode cX5_valueIfNext 1 = .ok (.bipush 10, 2) := by decide +kernel
theorem dX5_valueIfNext_3 : decode cX5_valueIfNext 3 = .ok (.imul, 1) := by decide +kernel
theorem dX5_valueIfNext_4 : decode cX5_valueIfNext 4 = .ok (.iload_n 2, 1) := by decide +kernel
theorem dX5_valueIfNext_5 : decode cX5_valueIfNext 5 = .ok (.iadd, 1) := by decide +kernel
theorem dX5_valueIfNext_6 : decode cX5_valueIfNext 6 = .ok (.istore 4, 2) := by decide +kernel
theorem dX5_valueIfNext_8 : decode cX5_valueIfNext 8 = .ok (.aload_n 0, 1) := by decide +kernel
theorem dX5_valueIfNext_9 : decode cX5_valueIfNext 9 = .ok (.getfield 15, 3) := by decide +kernel
theorem dX5_valueIfNext_12 : decode cX5_valueIfNext 12 = .ok (.iload 4, 2) := by decide +kernel
theorem dX5_valueIfNext_14 : decode cX5_valueIfNext 14 = .ok (.iaload, 1) := by decide +kernel
theorem dX5_valueIfNext_15 : decode cX5_valueIfNext 15 = .ok (.i2l, 1) := by decide +kernel
theorem dX5_valueIfNext_16 : decode cX5_valueIfNext 16 = .ok (.aload_n 0, 1) := by decide +kernel
theorem dX5_valueIfNext_17 : decode cX5_valueIfNext 17 = .ok (.getfield 11, 3) := by decide +kernel
theorem dX5_valueIfNext_20 : decode cX5_valueIfNext 20 = .ok (.iload_n 1, 1) := by decide +kernel
theorem dX5_valueIfNext_21 : decode cX5_valueIfNext 21 = .ok (.iconst 1, 1) := by decide +kernel
theorem dX5_valueIfNext_22 : decode cX5_valueIfNext 22 = .ok (.iload_n 3, 1) := by decide +kernel
theorem dX5_valueIfNext_23 : decode cX5_valueIfNext 23 = .ok (.ishl, 1) := by decide +kernel
theorem dX5_valueIfNext_24 : decode cX5_valueIfNext 24 = .ok (.ior, 1) := by decide +kernel
theorem dX5_valueIfNext_25 : decode cX5_valueIfNext 25 = .ok (.bipush 10, 2) := by decide +kernel
theorem dX5_valueIfNext_27 : decode cX5_valueIfNext 27 = .ok (.imul, 1) := by decide +kernel
theorem dX5_valueIfNext_28 : decode cX5_valueIfNext 28 = .ok (.aload_n 0, 1) := by decide +kernel
theorem dX5_valueIfNext_29 : decode cX5_valueIfNext 29 = .ok (.getfield 19, 3) := by decide +kernel
theorem dX5_valueIfNext_32 : decode cX5_valueIfNext 32 = .ok (.iload 4, 2) := by decide +kernel
theorem dX5_valueIfNext_34 : decode cX5_valueIfNext 34 = .ok (.iaload, 1) := by decide +kernel
theorem dX5_valueIfNext_35 : decode cX5_valueIfNext 35 = .ok (.iadd, 1) := by decide +kernel
theorem dX5_valueIfNext_36 : decode cX5_valueIfNext 36 = .ok (.laload, 1) := by decide +kernel
theorem dX5_valueIfNext_37 : decode cX5_valueIfNext 37 = .ok (.lmul, 1) := by decide +kernel
theorem dX5_valueIfNext_38 : decode cX5_valueIfNext 38 = .ok (.lreturn, 1) := by decide +kernel
theorem dX5_layRow_0 : decode cX5_layRow 0 = .ok (.iconst 0, 1) := by decide +kernel
theorem dX5_layRow_1 : decode cX5_layRow 1 = .ok (.istore_n 1, 1) := by decide +kernel
theorem dX5_layRow_2 : decode cX5_layRow 2 = .ok (.aload_n 0, 1) := by decide +kernel
theorem dX5_layRow_3 : decode cX5_layRow 3 = .ok (.getfield 52, 3) := by decide +kernel
theorem dX5_layRow_6 : decode cX5_layRow 6 = .ok (.istore_n 2, 1) := by decide +kernel
theorem dX5_layRow_7 : decode cX5_layRow 7 = .ok (.iconst 0, 1) := by decide +kernel
theorem dX5_layRow_8 : decode cX5_layRow 8 = .ok (.istore_n 3, 1) := by decide +kernel
theorem dX5_layRow_9 : decode cX5_layRow 9 = .ok (.iload_n 3, 1) := by decide +kernel
theorem dX5_layRow_10 : decode cX5_layRow 10 = .ok (.aload_n 0, 1) := by decide +kernel
theorem dX5_layRow_11 : decode cX5_layRow 11 = .ok (.getfield 41, 3) := by decide +kernel
theorem dX5_layRow_14 : decode cX5_layRow 14 = .ok (.if_icmp .ge 73, 3) := by decide +kernel
theorem dX5_layRow_17 : decode cX5_layRow 17 = .ok (.aload_n 0, 1) := by decide +kernel
theorem dX5_layRow_18 : decode cX5_layRow 18 = .ok (.iload_n 1, 1) := by decide +kernel
theorem dX5_layRow_19 : decode cX5_layRow 19 = .ok (.invokevirtual 108, 3) := by decide +kernel
theorem dX5_layRow_22 : decode cX5_layRow 22 = .ok (.aload_n 0, 1) := by decide +kernel
theorem dX5_layRow_23 : decode cX5_layRow 23 = .ok (.getfield 58, 3) := by decide +kernel
theorem dX5_layRow_26 : decode cX5_layRow 26 = .ok (.if_icmp .ge 61, 3) := by decide +kernel
theorem dX5_layRow_29 : decode cX5_layRow 29 = .ok (.aload_n 0, 1) := by decide +kernel
theorem dX5_layRow_30 : decode cX5_layRow 30 = .ok (.iload_n 1, 1) := by decide +kernel
theorem dX5_layRow_31 : decode cX5_layRow 31 = .ok (.iload_n 2, 1) := by decide +kernel
theorem dX5_layRow_32 : decode cX5_layRow 32 = .ok (.invokevirtual 122, 3) := by decide +kernel
theorem dX5_layRow_35 : decode cX5_layRow 35 = .ok (.istore 4, 2) := by decide +kernel
theorem dX5_layRow_37 : decode cX5_layRow 37 = .ok (.iload 4, 2) := by decide +kernel
theorem dX5_layRow_39 : decode cX5_layRow 39 = .ok (.iconst (-1), 1) := by decide +kernel
theorem dX5_layRow_40 : decode cX5_layRow 40 = .ok (.if_icmp .ne 6, 3) := by decide +kernel
theorem dX5_layRow_43 : decode cX5_layRow 43 = .ok (.goto 44, 3) := by decide +kernel
theorem dX5_layRow_46 : decode cX5_layRow 46 = .ok (.aload_n 0, 1) := by decide +kernel
theorem dX5_layRow_47 : decode cX5_layRow 47 = .ok (.getfield 22, 3) := by decide +kernel
theorem dX5_layRow_50 : decode cX5_layRow 50 = .ok (.iload_n 3, 1) := by decide +kernel
theorem dX5_layRow_51 : decode cX5_layRow 51 = .ok (.iload 4, 2) := by decide +kernel
theorem dX5_layRow_53 : decode cX5_layRow 53 = .ok (.iastore, 1) := by decide +kernel
theorem dX5_layRow_54 : decode cX5_layRow 54 = .ok (.aload_n 0, 1) := by decide +kernel
theorem dX5_layRow_55 : decode cX5_layRow 55 = .ok (.iload_n 3, 1) := by decide +kernel
theorem dX5_layRow_56 : decode cX5_layRow 56 = .ok (.iconst 1, 1) := by decide +kernel
theorem dX5_layRow_57 : decode cX5_layRow 57 = .ok (.iadd, 1) := by decide +kernel
theorem dX5_layRow_58 : decode cX5_layRow 58 = .ok (.putfield 84, 3) := by decide +kernel
theorem dX5_layRow_61 : decode cX5_layRow 61 = .ok (.iload_n 1, 1) := by decide +kernel
theorem dX5_layRow_62 : decode cX5_layRow 62 = .ok (.iconst 1, 1) := by decide +kernel
theorem dX5_layRow_63 : decode cX5_layRow 63 = .ok (.iload 4, 2) := by decide +kernel
theorem dX5_layRow_65 : decode cX5_layRow 65 = .ok (.ishl, 1) := by decide +kernel
theorem dX5_layRow_66 : decode cX5_layRow 66 = .ok (.ior, 1) := by decide +kernel
theorem dX5_layRow_67 : decode cX5_layRow 67 = .ok (.istore_n 1, 1) := by decide +kernel
theorem dX5_layRow_68 : decode cX5_layRow 68 = .ok (.aload_n 0, 1) := by decide +kernel
theorem dX5_layRow_69 : decode cX5_layRow 69 = .ok (.getfield 19, 3) := by decide +kernel
theorem dX5_layRow_72 : decode cX5_layRow 72 = .ok (.iload 4, 2) := by decide +kernel
theorem dX5_layRow_74 : decode cX5_layRow 74 = .ok (.bipush 10, 2) := by decide +kernel
theorem dX5_layRow_76 : decode cX5_layRow 76 = .ok (.imul, 1) := by decide +kernel
theorem dX5_layRow_77 : decode cX5_layRow 77 = .ok (.iload_n 2, 1) := by decide +kernel
theorem dX5_layRow_78 : decode cX5_layRow 78 = .ok (.iadd, 1) := by decide +kernel
theorem dX5_layRow_79 : decode cX5_layRow 79 = .ok (.iaload, 1) := by decide +kernel
theorem dX5_layRow_80 : decode cX5_layRow 80 = .ok (.istore_n 2, 1) := by decide +kernel
theorem dX5_layRow_81 : decode cX5_layRow 81 = .ok (.iinc 3 1, 3) := by decide +kernel
theorem dX5_layRow_84 : decode cX5_layRow 84 = .ok (.goto (-75), 3) := by decide +kernel
theorem dX5_layRow_87 : decode cX5_layRow 87 = .ok (.return_, 1) := by decide +kernel
theorem dX5_leastNext_0 : decode cX5_leastNext 0 = .ok (.aload_n 0, 1) := by decide +kernel
theorem dX5_leastNext_1 : decode cX5_leastNext 1 = .ok (.getfield 11, 3) := by decide +kernel
theorem dX5_leastNext_4 : decode cX5_leastNext 4 = .ok (.iload_n 1, 1) := by decide +kernel
theorem dX5_leastNext_5 : decode cX5_leastNext 5 = .ok (.bipush 10, 2) := by decide +kernel
theorem dX5_leastNext_7 : decode cX5_leastNext 7 = .ok (.imul, 1) := by decide +kernel
theorem dX5_leastNext_8 : decode cX5_leastNext 8 = .ok (.iload_n 2, 1) := by decide +kernel
theorem dX5_leastNext_9 : decode cX5_leastNext 9 = .ok (.iadd, 1) := by decide +kernel
theorem dX5_leastNext_10 : decode cX5_leastNext 10 = .ok (.laload, 1) := by decide +kernel
theorem dX5_leastNext_11 : decode cX5_leastNext 11 = .ok (.lstore_n 3, 1) := by decide +kernel
theorem dX5_leastNext_12 : decode cX5_leastNext 12 = .ok (.iconst 0, 1) := by decide +kernel
theorem dX5_leastNext_13 : decode cX5_leastNext 13 = .ok (.istore 5, 2) := by decide +kernel
theorem dX5_leastNext_15 : decode cX5_leastNext 15 = .ok (.iload 5, 2) := by decide +kernel
theorem dX5_leastNext_17 : decode cX5_leastNext 17 = .ok (.aload_n 0, 1) := by decide +kernel
theorem dX5_leastNext_18 : decode cX5_leastNext 18 = .ok (.getfield 41, 3) := by decide +kernel
theorem dX5_leastNext_21 : decode cX5_leastNext 21 = .ok (.if_icmp .ge 34, 3) := by decide +kernel
theorem dX5_leastNext_24 : decode cX5_leastNext 24 = .ok (.iload_n 1, 1) := by decide +kernel
theorem dX5_leastNext_25 : decode cX5_leastNext 25 = .ok (.iload 5, 2) := by decide +kernel
theorem dX5_leastNext_27 : decode cX5_leastNext 27 = .ok (.ishr, 1) := by decide +kernel
theorem dX5_leastNext_28 : decode cX5_leastNext 28 = .ok (.iconst 1, 1) := by decide +kernel
theorem dX5_leastNext_29 : decode cX5_leastNext 29 = .ok (.iand, 1) := by decide +kernel
theorem dX5_leastNext_30 : decode cX5_leastNext 30 = .ok (.ifCond .ne 19, 3) := by decide +kernel
theorem dX5_leastNext_33 : decode cX5_leastNext 33 = .ok (.aload_n 0, 1) := by decide +kernel
theorem dX5_leastNext_34 : decode cX5_leastNext 34 = .ok (.iload_n 1, 1) := by decide +kernel
theorem dX5_leastNext_35 : decode cX5_leastNext 35 = .ok (.iload_n 2, 1) := by decide +kernel
theorem dX5_leastNext_36 : decode cX5_leastNext 36 = .ok (.iload 5, 2) := by decide +kernel
theorem dX5_leastNext_38 : decode cX5_leastNext 38 = .ok (.invokevirtual 115, 3) := by decide +kernel
theorem dX5_leastNext_41 : decode cX5_leastNext 41 = .ok (.lload_n 3, 1) := by decide +kernel
theorem dX5_leastNext_42 : decode cX5_leastNext 42 = .ok (.lcmp, 1) := by decide +kernel
theorem dX5_leastNext_43 : decode cX5_leastNext 43 = .ok (.ifCond .ne 6, 3) := by decide +kernel
theorem dX5_leastNext_46 : decode cX5_leastNext 46 = .ok (.iload 5, 2) := by decide +kernel
theorem dX5_leastNext_48 : decode cX5_leastNext 48 = .ok (.ireturn, 1) := by decide +kernel
theorem dX5_leastNext_49 : decode cX5_leastNext 49 = .ok (.iinc 5 1, 3) := by decide +kernel
theorem dX5_leastNext_52 : decode cX5_leastNext 52 = .ok (.goto (-37), 3) := by decide +kernel
theorem dX5_leastNext_55 : decode cX5_leastNext 55 = .ok (.iconst (-1), 1) := by decide +kernel
theorem dX5_leastNext_56 : decode cX5_leastNext 56 = .ok (.ireturn, 1) := by decide +kernel
theorem dX6_init_0 : decode cX6_init 0 = .ok (.aload_n 0, 1) := by decide +kernel
theorem dX6_init_1 : decode cX6_init 1 = .ok (.invokespecial 3, 3) := by decide +kernel
theorem dX6_init_4 : decode cX6_init 4 = .ok (.aload_n 0, 1) := by decide +kernel
theorem dX6_init_5 : decode cX6_init 5 = .ok (.bipush 60, 2) := by decide +kernel
theorem dX6_init_7 : decode cX6_init 7 = .ok (.newarray .int, 2) := by decide +kernel
theorem dX6_init_9 : decode cX6_init 9 = .ok (.putfield 9, 3) := by decide +kernel
theorem dX6_init_12 : decode cX6_init 12 = .ok (.aload_n 0, 1) := by decide +kernel
theorem dX6_init_13 : decode cX6_init 13 = .ok (.iconst 1, 1) := by decide +kernel
theorem dX6_init_14 : decode cX6_init 14 = .ok (.putfield 15, 3) := by decide +kernel
theorem dX6_init_17 : decode cX6_init 17 = .ok (.return_, 1) := by decide +kernel
theorem dX6_renew_0 : decode cX6_renew 0 = .ok (.aload_n 0, 1) := by decide +kernel
theorem dX6_renew_1 : decode cX6_renew 1 = .ok (.iconst 0, 1) := by decide +kernel
theorem dX6_renew_2 : decode cX6_renew 2 = .ok (.putfield 15, 3) := by decide +kernel
theorem dX6_renew_5 : decode cX6_renew 5 = .ok (.aload_n 0, 1) := by decide +kernel
theorem dX6_renew_6 : decode cX6_renew 6 = .ok (.iload_n 1, 1) := by decide +kernel
theorem dX6_renew_7 : decode cX6_renew 7 = .ok (.putfield 19, 3) := by decide +kernel
theorem dX6_renew_10 : decode cX6_renew 10 = .ok (.aload_n 0, 1) := by decide +kernel
theorem dX6_renew_11 : decode cX6_renew 11 = .ok (.iconst 0, 1) := by decide +kernel
theorem dX6_renew_12 : decode cX6_renew 12 = .ok (.bipush 60, 2) := by decide +kernel
theorem dX6_renew_14 : decode cX6_renew 14 = .ok (.iload_n 2, 1) := by decide +kernel
theorem dX6_renew_15 : decode cX6_renew 15 = .ok (.invokestatic 23, 3) := by decide +kernel
theorem dX6_renew_18 : decode cX6_renew 18 = .ok (.invokestatic 29, 3) := by decide +kernel
theorem dX6_renew_21 : decode cX6_renew 21 = .ok (.putfield 32, 3) := by decide +kernel
theorem dX6_renew_24 : decode cX6_renew 24 = .ok (.iconst 0, 1) := by decide +kernel
theorem dX6_renew_25 : decode cX6_renew 25 = .ok (.istore_n 3, 1) := by decide +kernel
theorem dX6_renew_26 : decode cX6_renew 26 = .ok (.iload_n 3, 1) := by decide +kernel
theorem dX6_renew_27 : decode cX6_renew 27 = .ok (.bipush 60, 2) := by decide +kernel
theorem dX6_renew_29 : decode cX6_renew 29 = .ok (.if_icmp .ge 16, 3) := by decide +kernel
theorem dX6_renew_32 : decode cX6_renew 32 = .ok (.aload_n 0, 1) := by decide +kernel
theorem dX6_renew_33 : decode cX6_renew 33 = .ok (.getfield 9, 3) := by decide +kernel
end
section
theorem dX6_renew_36 : decode cX6_renew 36 = .ok (.iload_n 3, 1) := by decide +kernel
theorem dX6_renew_37 : decode cX6_renew 37 = .ok (.iconst 0, 1) := by decide +kernel
theorem dX6_renew_38 : decode cX6_renew 38 = .ok (.iastore, 1) := by decide +kernel
theorem dX6_renew_39 : decode cX6_renew 39 = .ok (.iinc 3 1, 3) := by decide +kernel
theorem dX6_renew_42 : decode cX6_renew 42 = .ok (.goto (-16), 3) := by decide +kernel
theorem dX6_renew_45 : decode cX6_renew 45 = .ok (.return_, 1) := by decide +kernel
theorem dX6_findingAt_0 : decode cX6_findingAt 0 = .ok (.aload_n 0, 1) := by decide +kernel
theorem dX6_findingAt_1 : decode cX6_findingAt 1 = .ok (.getfield 15, 3) := by decide +kernel
theorem dX6_findingAt_4 : decode cX6_findingAt 4 = .ok (.ifCond .eq 5, 3) := by decide +kernel
theorem dX6_findingAt_7 : decode cX6_findingAt 7 = .ok (.iconst 1, 1) := by decide +kernel
theorem dX6_findingAt_8 : decode cX6_findingAt 8 = .ok (.ireturn, 1) := by decide +kernel
theorem dX6_findingAt_9 : decode cX6_findingAt 9 = .ok (.aload_n 0, 1) := by decide +kernel
theorem dX6_findingAt_10 : decode cX6_findingAt 10 = .ok (.getfield 19, 3) := by decide +kernel
theorem dX6_findingAt_13 : decode cX6_findingAt 13 = .ok (.iload_n 1, 1) := by decide +kernel
theorem dX6_findingAt_14 : decode cX6_findingAt 14 = .ok (.if_icmp .eq 5, 3) := by decide +kernel
theorem dX6_findingAt_17 : decode cX6_findingAt 17 = .ok (.iconst 3, 1) := by decide +kernel
theorem dX6_findingAt_18 : decode cX6_findingAt 18 = .ok (.ireturn, 1) := by decide +kernel
theorem dX6_findingAt_19 : decode cX6_findingAt 19 = .ok (.iload_n 2, 1) := by decide +kernel
theorem dX6_findingAt_20 : decode cX6_findingAt 20 = .ok (.ifCond .lt 11, 3) := by decide +kernel
theorem dX6_findingAt_23 : decode cX6_findingAt 23 = .ok (.iload_n 2, 1) := by decide +kernel
theorem dX6_findingAt_24 : decode cX6_findingAt 24 = .ok (.aload_n 0, 1) := by decide +kernel
theorem dX6_findingAt_25 : decode cX6_findingAt 25 = .ok (.getfield 32, 3) := by decide +kernel
theorem dX6_findingAt_28 : decode cX6_findingAt 28 = .ok (.if_icmp .lt 7, 3) := by decide +kernel
theorem dX6_findingAt_31 : decode cX6_findingAt 31 = .ok (.iconst 2, 1) := by decide +kernel
theorem dX6_findingAt_32 : decode cX6_findingAt 32 = .ok (.goto 4, 3) := by decide +kernel
theorem dX6_findingAt_35 : decode cX6_findingAt 35 = .ok (.iconst 0, 1) := by decide +kernel
theorem dX6_findingAt_36 : decode cX6_findingAt 36 = .ok (.ireturn, 1) := by decide +kernel
theorem dX6_put_0 : decode cX6_put 0 = .ok (.iload_n 1, 1) := by decide +kernel
theorem dX6_put_1 : decode cX6_put 1 = .ok (.ifCond .lt 43, 3) := by decide +kernel
theorem dX6_put_4 : decode cX6_put 4 = .ok (.iload_n 1, 1) := by decide +kernel
theorem dX6_put_5 : decode cX6_put 5 = .ok (.aload_n 0, 1) := by decide +kernel
theorem dX6_put_6 : decode cX6_put 6 = .ok (.getfield 32, 3) := by decide +kernel
theorem dX6_put_9 : decode cX6_put 9 = .ok (.if_icmp .ge 35, 3) := by decide +kernel
theorem dX6_put_12 : decode cX6_put 12 = .ok (.aload_n 0, 1) := by decide +kernel
theorem dX6_put_13 : decode cX6_put 13 = .ok (.getfield 9, 3) := by decide +kernel
theorem dX6_put_16 : decode cX6_put 16 = .ok (.iload_n 1, 1) := by decide +kernel
theorem dX6_put_17 : decode cX6_put 17 = .ok (.aload_n 0, 1) := by decide +kernel
theorem dX6_put_18 : decode cX6_put 18 = .ok (.getfield 19, 3) := by decide +kernel
theorem dX6_put_21 : decode cX6_put 21 = .ok (.ifCond .ne 8, 3) := by decide +kernel
theorem dX6_put_24 : decode cX6_put 24 = .ok (.iload_n 2, 1) := by decide +kernel
theorem dX6_put_25 : decode cX6_put 25 = .ok (.i2b, 1) := by decide +kernel
theorem dX6_put_26 : decode cX6_put 26 = .ok (.goto 17, 3) := by decide +kernel
theorem dX6_put_29 : decode cX6_put 29 = .ok (.aload_n 0, 1) := by decide +kernel
theorem dX6_put_30 : decode cX6_put 30 = .ok (.getfield 19, 3) := by decide +kernel
theorem dX6_put_33 : decode cX6_put 33 = .ok (.iconst 1, 1) := by decide +kernel
theorem dX6_put_34 : decode cX6_put 34 = .ok (.if_icmp .ne 8, 3) := by decide +kernel
theorem dX6_put_37 : decode cX6_put 37 = .ok (.iload_n 2, 1) := by decide +kernel
theorem dX6_put_38 : decode cX6_put 38 = .ok (.i2s, 1) := by decide +kernel
theorem dX6_put_39 : decode cX6_put 39 = .ok (.goto 4, 3) := by decide +kernel
theorem dX6_put_42 : decode cX6_put 42 = .ok (.iload_n 2, 1) := by decide +kernel
theorem dX6_put_43 : decode cX6_put 43 = .ok (.iastore, 1) := by decide +kernel
theorem dX6_put_44 : decode cX6_put 44 = .ok (.return_, 1) := by decide +kernel
theorem dX6_hasStretch_0 : decode cX6_hasStretch 0 = .ok (.iload_n 1, 1) := by decide +kernel
theorem dX6_hasStretch_1 : decode cX6_hasStretch 1 = .ok (.ifCond .lt 29, 3) := by decide +kernel
theorem dX6_hasStretch_4 : decode cX6_hasStretch 4 = .ok (.iload_n 2, 1) := by decide +kernel
theorem dX6_hasStretch_5 : decode cX6_hasStretch 5 = .ok (.ifCond .lt 25, 3) := by decide +kernel
theorem dX6_hasStretch_8 : decode cX6_hasStretch 8 = .ok (.iload_n 1, 1) := by decide +kernel
theorem dX6_hasStretch_9 : decode cX6_hasStretch 9 = .ok (.aload_n 0, 1) := by decide +kernel
theorem dX6_hasStretch_10 : decode cX6_hasStretch 10 = .ok (.getfield 32, 3) := by decide +kernel
theorem dX6_hasStretch_13 : decode cX6_hasStretch 13 = .ok (.if_icmp .gt 17, 3) := by decide +kernel
theorem dX6_hasStretch_16 : decode cX6_hasStretch 16 = .ok (.iload_n 2, 1) := by decide +kernel
theorem dX6_hasStretch_17 : decode cX6_hasStretch 17 = .ok (.aload_n 0, 1) := by decide +kernel
theorem dX6_hasStretch_18 : decode cX6_hasStretch 18 = .ok (.getfield 32, 3) := by decide +kernel
theorem dX6_hasStretch_21 : decode cX6_hasStretch 21 = .ok (.iload_n 1, 1) := by decide +kernel
theorem dX6_hasStretch_22 : decode cX6_hasStretch 22 = .ok (.isub, 1) := by decide +kernel
theorem dX6_hasStretch_23 : decode cX6_hasStretch 23 = .ok (.if_icmp .gt 7, 3) := by decide +kernel
theorem dX6_hasStretch_26 : decode cX6_hasStretch 26 = .ok (.iconst 1, 1) := by decide +kernel
theorem dX6_hasStretch_27 : decode cX6_hasStretch 27 = .ok (.goto 4, 3) := by decide +kernel
theorem dX6_hasStretch_30 : decode cX6_hasStretch 30 = .ok (.iconst 0, 1) := by decide +kernel
theorem dX6_hasStretch_31 : decode cX6_hasStretch 31 = .ok (.ireturn, 1) := by decide +kernel
theorem dX7_init_0 : decode cX7_init 0 = .ok (.aload_n 0, 1) := by decide +kernel
theorem dX7_init_1 : decode cX7_init 1 = .ok (.invokespecial 3, 3) := by decide +kernel
theorem dX7_init_4 : decode cX7_init 4 = .ok (.aload_n 0, 1) := by decide +kernel
theorem dX7_init_5 : decode cX7_init 5 = .ok (.bipush 8, 2) := by decide +kernel
theorem dX7_init_7 : decode cX7_init 7 = .ok (.newarray .int, 2) := by decide +kernel
theorem dX7_init_9 : decode cX7_init 9 = .ok (.putfield 9, 3) := by decide +kernel
theorem dX7_init_12 : decode cX7_init 12 = .ok (.aload_n 0, 1) := by decide +kernel
theorem dX7_init_13 : decode cX7_init 13 = .ok (.bipush 8, 2) := by decide +kernel
theorem dX7_init_15 : decode cX7_init 15 = .ok (.newarray .int, 2) := by decide +kernel
theorem dX7_init_17 : decode cX7_init 17 = .ok (.putfield 15, 3) := by decide +kernel
theorem dX7_init_20 : decode cX7_init 20 = .ok (.return_, 1) := by decide +kernel
theorem dX7_allows_0 : decode cX7_allows 0 = .ok (.iload_n 0, 1) := by decide +kernel
theorem dX7_allows_1 : decode cX7_allows 1 = .ok (.ifCond .lt 22, 3) := by decide +kernel
theorem dX7_allows_4 : decode cX7_allows 4 = .ok (.iload_n 0, 1) := by decide +kernel
theorem dX7_allows_5 : decode cX7_allows 5 = .ok (.bipush 8, 2) := by decide +kernel
theorem dX7_allows_7 : decode cX7_allows 7 = .ok (.if_icmp .ge 16, 3) := by decide +kernel
theorem dX7_allows_10 : decode cX7_allows 10 = .ok (.iload_n 1, 1) := by decide +kernel
theorem dX7_allows_11 : decode cX7_allows 11 = .ok (.ifCond .lt 12, 3) := by decide +kernel
theorem dX7_allows_14 : decode cX7_allows 14 = .ok (.iload_n 1, 1) := by decide +kernel
theorem dX7_allows_15 : decode cX7_allows 15 = .ok (.iconst 5, 1) := by decide +kernel
theorem dX7_allows_16 : decode cX7_allows 16 = .ok (.if_icmp .ge 7, 3) := by decide +kernel
theorem dX7_allows_19 : decode cX7_allows 19 = .ok (.iconst 1, 1) := by decide +kernel
theorem dX7_allows_20 : decode cX7_allows 20 = .ok (.goto 4, 3) := by decide +kernel
theorem dX7_allows_23 : decode cX7_allows 23 = .ok (.iconst 0, 1) := by decide +kernel
theorem dX7_allows_24 : decode cX7_allows 24 = .ok (.ireturn, 1) := by decide +kernel
theorem dX7_isFull_0 : decode cX7_isFull 0 = .ok (.aload_n 0, 1) := by decide +kernel
theorem dX7_isFull_1 : decode cX7_isFull 1 = .ok (.getfield 18, 3) := by decide +kernel
theorem dX7_isFull_4 : decode cX7_isFull 4 = .ok (.bipush 8, 2) := by decide +kernel
theorem dX7_isFull_6 : decode cX7_isFull 6 = .ok (.if_icmp .lt 7, 3) := by decide +kernel
theorem dX7_isFull_9 : decode cX7_isFull 9 = .ok (.iconst 1, 1) := by decide +kernel
theorem dX7_isFull_10 : decode cX7_isFull 10 = .ok (.goto 4, 3) := by decide +kernel
theorem dX7_isFull_13 : decode cX7_isFull 13 = .ok (.iconst 0, 1) := by decide +kernel
theorem dX7_isFull_14 : decode cX7_isFull 14 = .ok (.ireturn, 1) := by decide +kernel
theorem dX7_add_0 : decode cX7_add 0 = .ok (.aload_n 0, 1) := by decide +kernel
theorem dX7_add_1 : decode cX7_add 1 = .ok (.getfield 18, 3) := by decide +kernel
theorem dX7_add_4 : decode cX7_add 4 = .ok (.bipush 8, 2) := by decide +kernel
theorem dX7_add_6 : decode cX7_add 6 = .ok (.if_icmp .ge 33, 3) := by decide +kernel
theorem dX7_add_9 : decode cX7_add 9 = .ok (.aload_n 0, 1) := by decide +kernel
theorem dX7_add_10 : decode cX7_add 10 = .ok (.getfield 9, 3) := by decide +kernel
theorem dX7_add_13 : decode cX7_add 13 = .ok (.aload_n 0, 1) := by decide +kernel
theorem dX7_add_14 : decode cX7_add 14 = .ok (.getfield 18, 3) := by decide +kernel
theorem dX7_add_17 : decode cX7_add 17 = .ok (.iload_n 1, 1) := by decide +kernel
theorem dX7_add_18 : decode cX7_add 18 = .ok (.iastore, 1) := by decide +kernel
theorem dX7_add_19 : decode cX7_add 19 = .ok (.aload_n 0, 1) := by decide +kernel
theorem dX7_add_20 : decode cX7_add 20 = .ok (.getfield 15, 3) := by decide +kernel
theorem dX7_add_23 : decode cX7_add 23 = .ok (.aload_n 0, 1) := by decide +kernel
theorem dX7_add_24 : decode cX7_add 24 = .ok (.getfield 18, 3) := by decide +kernel
theorem dX7_add_27 : decode cX7_add 27 = .ok (.iload_n 2, 1) := by decide +kernel
theorem dX7_add_28 : decode cX7_add 28 = .ok (.iastore, 1) := by decide +kernel
theorem dX7_add_29 : decode cX7_add 29 = .ok (.aload_n 0, 1) := by decide +kernel
theorem dX7_add_30 : decode cX7_add 30 = .ok (.dup, 1) := by decide +kernel
theorem dX7_add_31 : decode cX7_add 31 = .ok (.getfield 18, 3) := by decide +kernel
theorem dX7_add_34 : decode cX7_add 34 = .ok (.iconst 1, 1) := by decide +kernel
theorem dX7_add_35 : decode cX7_add 35 = .ok (.iadd, 1) := by decide +kernel
theorem dX7_add_36 : decode cX7_add 36 = .ok (.putfield 18, 3) := by decide +kernel
theorem dX7_add_39 : decode cX7_add 39 = .ok (.return_, 1) := by decide +kernel
theorem dX7_comeOutBy_0 : decode cX7_comeOutBy 0 = .ok (.iconst 0, 1) := by decide +kernel
theorem dX7_comeOutBy_1 : decode cX7_comeOutBy 1 = .ok (.istore_n 2, 1) := by decide +kernel
theorem dX7_comeOutBy_2 : decode cX7_comeOutBy 2 = .ok (.iload_n 2, 1) := by decide +kernel
theorem dX7_comeOutBy_3 : decode cX7_comeOutBy 3 = .ok (.aload_n 0, 1) := by decide +kernel
theorem dX7_comeOutBy_4 : decode cX7_comeOutBy 4 = .ok (.getfield 18, 3) := by decide +kernel
theorem dX7_comeOutBy_7 : decode cX7_comeOutBy 7 = .ok (.if_icmp .ge 30, 3) := by decide +kernel
theorem dX7_comeOutBy_10 : decode cX7_comeOutBy 10 = .ok (.aload_n 1, 1) := by decide +kernel
theorem dX7_comeOutBy_11 : decode cX7_comeOutBy 11 = .ok (.aload_n 0, 1) := by decide +kernel
theorem dX7_comeOutBy_12 : decode cX7_comeOutBy 12 = .ok (.getfield 9, 3) := by decide +kernel
theorem dX7_comeOutBy_15 : decode cX7_comeOutBy 15 = .ok (.iload_n 2, 1) := by decide +kernel
theorem dX7_comeOutBy_16 : decode cX7_comeOutBy 16 = .ok (.iaload, 1) := by decide +kernel
theorem dX7_comeOutBy_17 : decode cX7_comeOutBy 17 = .ok (.invokevirtual 22, 3) := by decide +kernel
theorem dX7_comeOutBy_20 : decode cX7_comeOutBy 20 = .ok (.aload_n 0, 1) := by decide +kernel
theorem dX7_comeOutBy_21 : decode cX7_comeOutBy 21 = .ok (.getfield 15, 3) := by decide +kernel
theorem dX7_comeOutBy_24 : decode cX7_comeOutBy 24 = .ok (.iload_n 2, 1) := by decide +kernel
theorem dX7_comeOutBy_25 : decode cX7_comeOutBy 25 = .ok (.iaload, 1) := by decide +kernel
theorem dX7_comeOutBy_26 : decode cX7_comeOutBy 26 = .ok (.if_icmp .eq 5, 3) := by decide +kernel
theorem dX7_comeOutBy_29 : decode cX7_comeOutBy 29 = .ok (.iconst 0, 1) := by decide +kernel
theorem dX7_comeOutBy_30 : decode cX7_comeOutBy 30 = .ok (.ireturn, 1) := by decide +kernel
theorem dX7_comeOutBy_31 : decode cX7_comeOutBy 31 = .ok (.iinc 2 1, 3) := by decide +kernel
theorem dX7_comeOutBy_34 : decode cX7_comeOutBy 34 = .ok (.goto (-32), 3) := by decide +kernel
theorem dX7_comeOutBy_37 : decode cX7_comeOutBy 37 = .ok (.iconst 1, 1) := by decide +kernel
theorem dX7_comeOutBy_38 : decode cX7_comeOutBy 38 = .ok (.ireturn, 1) := by decide +kernel
theorem dX8_isWin_0 : decode cX8_isWin 0 = .ok (.iload_n 0, 1) := by decide +kernel
theorem dX8_isWin_1 : decode cX8_isWin 1 = .ok (.iconst 1, 1) := by decide +kernel
theorem dX8_isWin_2 : decode cX8_isWin 2 = .ok (.if_icmp .eq 13, 3) := by decide +kernel
theorem dX8_isWin_5 : decode cX8_isWin 5 = .ok (.iload_n 0, 1) := by decide +kernel
theorem dX8_isWin_6 : decode cX8_isWin 6 = .ok (.iconst 2, 1) := by decide +kernel
theorem dX8_isWin_7 : decode cX8_isWin 7 = .ok (.if_icmp .eq 8, 3) := by decide +kernel
theorem dX8_isWin_10 : decode cX8_isWin 10 = .ok (.iload_n 0, 1) := by decide +kernel
theorem dX8_isWin_11 : decode cX8_isWin 11 = .ok (.iconst 3, 1) := by decide +kernel
theorem dX8_isWin_12 : decode cX8_isWin 12 = .ok (.if_icmp .ne 7, 3) := by decide +kernel
theorem dX8_isWin_15 : decode cX8_isWin 15 = .ok (.iconst 1, 1) := by decide +kernel
theorem dX8_isWin_16 : decode cX8_isWin 16 = .ok (.goto 4, 3) := by decide +kernel
theorem dX8_isWin_19 : decode cX8_isWin 19 = .ok (.iconst 0, 1) := by decide +kernel
theorem dX8_isWin_20 : decode cX8_isWin 20 = .ok (.ireturn, 1) := by decide +kernel
theorem dX8_sixteenths_0 : decode cX8_sixteenths 0 = .ok (.iload_n 0, 1) := by decide +kernel
theorem dX8_sixteenths_1 : decode cX8_sixteenths 1 = .ok (.iconst 3, 1) := by decide +kernel
theorem dX8_sixteenths_2 : decode cX8_sixteenths 2 = .ok (.if_icmp .eq 6, 3) := by decide +kernel
theorem dX8_sixteenths_5 : decode cX8_sixteenths 5 = .ok (.bipush 16, 2) := by decide +kernel
theorem dX8_sixteenths_7 : decode cX8_sixteenths 7 = .ok (.ireturn, 1) := by decide +kernel
theorem dX8_sixteenths_8 : decode cX8_sixteenths 8 = .ok (.iconst 0, 1) := by decide +kernel
theorem dX8_sixteenths_9 : decode cX8_sixteenths 9 = .ok (.bipush 16, 2) := by decide +kernel
theorem dX8_sixteenths_11 : decode cX8_sixteenths 11 = .ok (.bipush 8, 2) := by decide +kernel
theorem dX8_sixteenths_13 : decode cX8_sixteenths 13 = .ok (.iload_n 1, 1) := by decide +kernel
theorem dX8_sixteenths_14 : decode cX8_sixteenths 14 = .ok (.iadd, 1) := by decide +kernel
theorem dX8_sixteenths_15 : decode cX8_sixteenths 15 = .ok (.iload_n 2, 1) := by decide +kernel
theorem dX8_sixteenths_16 : decode cX8_sixteenths 16 = .ok (.isub, 1) := by decide +kernel
theorem dX8_sixteenths_17 : decode cX8_sixteenths 17 = .ok (.invokestatic 11, 3) := by decide +kernel
theorem dX8_sixteenths_20 : decode cX8_sixteenths 20 = .ok (.invokestatic 17, 3) := by decide +kernel
theorem dX8_sixteenths_23 : decode cX8_sixteenths 23 = .ok (.ireturn, 1) := by decide +kernel
theorem dX8_strongBehind_0 : decode cX8_strongBehind 0 = .ok (.iload_n 0, 1) := by decide +kernel
theorem dX8_strongBehind_1 : decode cX8_strongBehind 1 = .ok (.iconst 3, 1) := by decide +kernel
theorem dX8_strongBehind_2 : decode cX8_strongBehind 2 = .ok (.if_icmp .ne 15, 3) := by decide +kernel
theorem dX8_strongBehind_5 : decode cX8_strongBehind 5 = .ok (.iload_n 1, 1) := by decide +kernel
theorem dX8_strongBehind_6 : decode cX8_strongBehind 6 = .ok (.ifCond .le 9, 3) := by decide +kernel
theorem dX8_strongBehind_9 : decode cX8_strongBehind 9 = .ok (.iload_n 1, 1) := by decide +kernel
theorem dX8_strongBehind_10 : decode cX8_strongBehind 10 = .ok (.iconst 1, 1) := by decide +kernel
theorem dX8_strongBehind_11 : decode cX8_strongBehind 11 = .ok (.isub, 1) := by decide +kernel
theorem dX8_strongBehind_12 : decode cX8_strongBehind 12 = .ok (.goto 4, 3) := by decide +kernel
theorem dX8_strongBehind_15 : decode cX8_strongBehind 15 = .ok (.iconst 0, 1) := by decide +kernel
theorem dX8_strongBehind_16 : decode cX8_strongBehind 16 = .ok (.ireturn, 1) := by decide +kernel
theorem dX8_strongBehind_17 : decode cX8_strongBehind 17 = .ok (.iload_n 0, 1) := by decide +kernel
theorem dX8_strongBehind_18 : decode cX8_strongBehind 18 = .ok (.iconst 1, 1) := by decide +kernel
theorem dX8_strongBehind_19 : decode cX8_strongBehind 19 = .ok (.if_icmp .eq 8, 3) := by decide +kernel
theorem dX8_strongBehind_22 : decode cX8_strongBehind 22 = .ok (.iload_n 0, 1) := by decide +kernel
theorem dX8_strongBehind_23 : decode cX8_strongBehind 23 = .ok (.iconst 2, 1) := by decide +kernel
theorem dX8_strongBehind_24 : decode cX8_strongBehind 24 = .ok (.if_icmp .ne 7, 3) := by decide +kernel
theorem dX8_strongBehind_27 : decode cX8_strongBehind 27 = .ok (.iconst 1, 1) := by decide +kernel
theorem dX8_strongBehind_28 : decode cX8_strongBehind 28 = .ok (.goto 4, 3) := by decide +kernel
theorem dX8_strongBehind_31 : decode cX8_strongBehind 31 = .ok (.iconst 0, 1) := by decide +kernel
theorem dX8_strongBehind_32 : decode cX8_strongBehind 32 = .ok (.istore_n 3, 1) := by decide +kernel
theorem dX8_strongBehind_33 : decode cX8_strongBehind 33 = .ok (.iload_n 3, 1) := by decide +kernel
theorem dX8_strongBehind_34 : decode cX8_strongBehind 34 = .ok (.ifCond .eq 14, 3) := by decide +kernel
theorem dX8_strongBehind_37 : decode cX8_strongBehind 37 = .ok (.iload_n 1, 1) := by decide +kernel
theorem dX8_strongBehind_38 : decode cX8_strongBehind 38 = .ok (.iload_n 2, 1) := by decide +kernel
theorem dX8_strongBehind_39 : decode cX8_strongBehind 39 = .ok (.if_icmp .ge 9, 3) := by decide +kernel
theorem dX8_strongBehind_42 : decode cX8_strongBehind 42 = .ok (.iload_n 1, 1) := by decide +kernel
theorem dX8_strongBehind_43 : decode cX8_strongBehind 43 = .ok (.iconst 1, 1) := by decide +kernel
theorem dX8_strongBehind_44 : decode cX8_strongBehind 44 = .ok (.iadd, 1) := by decide +kernel
theorem dX8_strongBehind_45 : decode cX8_strongBehind 45 = .ok (.goto 4, 3) := by decide +kernel
theorem dX8_strongBehind_48 : decode cX8_strongBehind 48 = .ok (.iload_n 1, 1) := by decide +kernel
theorem dX8_strongBehind_49 : decode cX8_strongBehind 49 = .ok (.ireturn, 1) := by decide +kernel
theorem dX9_init_0 : decode cX9_init 0 = .ok (.aload_n 0, 1) := by decide +kernel
theorem dX9_init_1 : decode cX9_init 1 = .ok (.invokespecial 3, 3) := by decide +kernel
theorem dX9_init_4 : decode cX9_init 4 = .ok (.aload_n 0, 1) := by decide +kernel
theorem dX9_init_5 : decode cX9_init 5 = .ok (.iconst 5, 1) := by decide +kernel
theorem dX9_init_6 : decode cX9_init 6 = .ok (.putfield 9, 3) := by decide +kernel
theorem dX9_init_9 : decode cX9_init 9 = .ok (.aload_n 0, 1) := by decide +kernel
theorem dX9_init_10 : decode cX9_init 10 = .ok (.iconst 5, 1) := by decide +kernel
theorem dX9_init_11 : decode cX9_init 11 = .ok (.putfield 15, 3) := by decide +kernel
theorem dX9_init_14 : decode cX9_init 14 = .ok (.aload_n 0, 1) := by decide +kernel
theorem dX9_init_15 : decode cX9_init 15 = .ok (.iconst 5, 1) := by decide +kernel
theorem dX9_init_16 : decode cX9_init 16 = .ok (.putfield 18, 3) := by decide +kernel
theorem dX9_init_19 : decode cX9_init 19 = .ok (.return_, 1) := by decide +kernel
theorem dX9_allows_0 : decode cX9_allows 0 = .ok (.iload_n 0, 1) := by decide +kernel
theorem dX9_allows_1 : decode cX9_allows 1 = .ok (.iconst 1, 1) := by decide +kernel
theorem dX9_allows_2 : decode cX9_allows 2 = .ok (.if_icmp .ne 22, 3) := by decide +kernel
theorem dX9_allows_5 : decode cX9_allows 5 = .ok (.iload_n 1, 1) := by decide +kernel
theorem dX9_allows_6 : decode cX9_allows 6 = .ok (.iconst 1, 1) := by decide +kernel
theorem dX9_allows_7 : decode cX9_allows 7 = .ok (.if_icmp .lt 13, 3) := by decide +kernel
theorem dX9_allows_10 : decode cX9_allows 10 = .ok (.iload_n 1, 1) := by decide +kernel
theorem dX9_allows_11 : decode cX9_allows 11 = .ok (.bipush 8, 2) := by decide +kernel
theorem dX9_allows_13 : decode cX9_allows 13 = .ok (.if_icmp .gt 7, 3) := by decide +kernel
theorem dX9_allows_16 : decode cX9_allows 16 = .ok (.iconst 1, 1) := by decide +kernel
theorem dX9_allows_17 : decode cX9_allows 17 = .ok (.goto 22, 3) := by decide +kernel
theorem dX9_allows_20 : decode cX9_allows 20 = .ok (.iconst 0, 1) := by decide +kernel
theorem dX9_allows_21 : decode cX9_allows 21 = .ok (.goto 18, 3) := by decide +kernel
theorem dX9_allows_24 : decode cX9_allows 24 = .ok (.iload_n 1, 1) := by decide +kernel
theorem dX9_allows_25 : decode cX9_allows 25 = .ok (.ifCond .lt 13, 3) := by decide +kernel
theorem dX9_allows_28 : decode cX9_allows 28 = .ok (.iload_n 1, 1) := by decide +kernel
theorem dX9_allows_29 : decode cX9_allows 29 = .ok (.bipush 9, 2) := by decide +kernel
theorem dX9_allows_31 : decode cX9_allows 31 = .ok (.if_icmp .gt 7, 3) := by decide +kernel
theorem dX9_allows_34 : decode cX9_allows 34 = .ok (.iconst 1, 1) := by decide +kernel
theorem dX9_allows_35 : decode cX9_allows 35 = .ok (.goto 4, 3) := by decide +kernel
theorem dX9_allows_38 : decode cX9_allows 38 = .ok (.iconst 0, 1) := by decide +kernel
theorem dX9_allows_39 : decode cX9_allows 39 = .ok (.ireturn, 1) := by decide +kernel
theorem dX9_change_0 : decode cX9_change 0 = .ok (.iload_n 1, 1) := by decide +kernel
theorem dX9_change_1 : decode cX9_change 1 = .ok (.ifCond .ne 16, 3) := by decide +kernel
theorem dX9_change_4 : decode cX9_change 4 = .ok (.aload_n 0, 1) := by decide +kernel
theorem dX9_change_5 : decode cX9_change 5 = .ok (.getfield 9, 3) := by decide +kernel
theorem dX9_change_8 : decode cX9_change 8 = .ok (.istore_n 3, 1) := by decide +kernel
theorem dX9_change_9 : decode cX9_change 9 = .ok (.aload_n 0, 1) := by decide +kernel
theorem dX9_change_10 : decode cX9_change 10 = .ok (.iload_n 2, 1) := by decide +kernel
theorem dX9_change_11 : decode cX9_change 11 = .ok (.putfield 9, 3) := by decide +kernel
theorem dX9_change_14 : decode cX9_change 14 = .ok (.goto 31, 3) := by decide +kernel
theorem dX9_change_17 : decode cX9_change 17 = .ok (.iload_n 1, 1) := by decide +kernel
theorem dX9_change_18 : decode cX9_change 18 = .ok (.iconst 1, 1) := by decide +kernel
theorem dX9_change_19 : decode cX9_change 19 = .ok (.if_icmp .ne 16, 3) := by decide +kernel
theorem dX9_change_22 : decode cX9_change 22 = .ok (.aload_n 0, 1) := by decide +kernel
theorem dX9_change_23 : decode cX9_change 23 = .ok (.getfield 15, 3) := by decide +kernel
theorem dX9_change_26 : decode cX9_change 26 = .ok (.istore_n 3, 1) := by decide +kernel
theorem dX9_change_27 : decode cX9_change 27 = .ok (.aload_n 0, 1) := by decide +kernel
theorem dX9_change_28 : decode cX9_change 28 = .ok (.iload_n 2, 1) := by decide +kernel
theorem dX9_change_29 : decode cX9_change 29 = .ok (.putfield 15, 3) := by decide +kernel
theorem dX9_change_32 : decode cX9_change 32 = .ok (.goto 13, 3) := by decide +kernel
theorem dX9_change_35 : decode cX9_change 35 = .ok (.aload_n 0, 1) := by decide +kernel
theorem dX9_change_36 : decode cX9_change 36 = .ok (.getfield 18, 3) := by decide +kernel
theorem dX9_change_39 : decode cX9_change 39 = .ok (.istore_n 3, 1) := by decide +kernel
theorem dX9_change_40 : decode cX9_change 40 = .ok (.aload_n 0, 1) := by decide +kernel
theorem dX9_change_41 : decode cX9_change 41 = .ok (.iload_n 2, 1) := by decide +kernel
theorem dX9_change_42 : decode cX9_change 42 = .ok (.putfield 18, 3) := by decide +kernel
theorem dX9_change_45 : decode cX9_change 45 = .ok (.iload_n 3, 1) := by decide +kernel
theorem dX9_change_46 : decode cX9_change 46 = .ok (.ireturn, 1) := by decide +kernel
theorem dX10_init_0 : decode cX10_init 0 = .ok (.aload_n 0, 1) := by decide +kernel
theorem dX10_init_1 : decode cX10_init 1 = .ok (.invokespecial 3, 3) := by decide +kernel
theorem dX10_init_4 : decode cX10_init 4 = .ok (.aload_n 0, 1) := by decide +kernel
theorem dX10_init_5 : decode cX10_init 5 = .ok (.iconst 0, 1) := by decide +kernel
theorem dX10_init_6 : decode cX10_init 6 = .ok (.iload_n 1, 1) := by decide +kernel
theorem dX10_init_7 : decode cX10_init 7 = .ok (.invokestatic 9, 3) := by decide +kernel
theorem dX10_init_10 : decode cX10_init 10 = .ok (.newarray .int, 2) := by decide +kernel
theorem dX10_init_12 : decode cX10_init 12 = .ok (.putfield 15, 3) := by decide +kernel
theorem dX10_init_15 : decode cX10_init 15 = .ok (.return_, 1) := by decide +kernel
theorem dX10_isFull_0 : decode cX10_isFull 0 = .ok (.aload_n 0, 1) := by decide +kernel
theorem dX10_isFull_1 : decode cX10_isFull 1 = .ok (.getfield 21, 3) := by decide +kernel
theorem dX10_isFull_4 : decode cX10_isFull 4 = .ok (.aload_n 0, 1) := by decide +kernel
theorem dX10_isFull_5 : decode cX10_isFull 5 = .ok (.getfield 15, 3) := by decide +kernel
theorem dX10_isFull_8 : decode cX10_isFull 8 = .ok (.arraylength, 1) := by decide +kernel
theorem dX10_isFull_9 : decode cX10_isFull 9 = .ok (.if_icmp .lt 7, 3) := by decide +kernel
theorem dX10_isFull_12 : decode cX10_isFull 12 = .ok (.iconst 1, 1) := by decide +kernel
theorem dX10_isFull_13 : decode cX10_isFull 13 = .ok (.goto 4, 3) := by decide +kernel
theorem dX10_isFull_16 : decode cX10_isFull 16 = .ok (.iconst 0, 1) := by decide +kernel
theorem dX10_isFull_17 : decode cX10_isFull 17 = .ok (.ireturn, 1) := by decide +kernel
theorem dX10_push_0 : decode cX10_push 0 = .ok (.aload_n 0, 1) := by decide +kernel
theorem dX10_push_1 : decode cX10_push 1 = .ok (.getfield 21, 3) := by decide +kernel
theorem dX10_push_4 : decode cX10_push 4 = .ok (.aload_n 0, 1) := by decide +kernel
theorem dX10_push_5 : decode cX10_push 5 = .ok (.getfield 15, 3) := by decide +kernel
theorem dX10_push_8 : decode cX10_push 8 = .ok (.arraylength, 1) := by decide +kernel
theorem dX10_push_9 : decode cX10_push 9 = .ok (.if_icmp .ge 23, 3) := by decide +kernel
theorem dX10_push_12 : decode cX10_push 12 = .ok (.aload_n 0, 1) := by decide +kernel
theorem dX10_push_13 : decode cX10_push 13 = .ok (.getfield 15, 3) := by decide +kernel
theorem dX10_push_16 : decode cX10_push 16 = .ok (.aload_n 0, 1) := by decide +kernel
theorem dX10_push_17 : decode cX10_push 17 = .ok (.getfield 21, 3) := by decide +kernel
theorem dX10_push_20 : decode cX10_push 20 = .ok (.iload_n 1, 1) := by decide +kernel
theorem dX10_push_21 : decode cX10_push 21 = .ok (.iastore, 1) := by decide +kernel
theorem dX10_push_22 : decode cX10_push 22 = .ok (.aload_n 0, 1) := by decide +kernel
theorem dX10_push_23 : decode cX10_push 23 = .ok (.dup, 1) := by decide +kernel
theorem dX10_push_24 : decode cX10_push 24 = .ok (.getfield 21, 3) := by decide +kernel
theorem dX10_push_27 : decode cX10_push 27 = .ok (.iconst 1, 1) := by decide +kernel
theorem dX10_push_28 : decode cX10_push 28 = .ok (.iadd, 1) := by decide +kernel
theorem dX10_push_29 : decode cX10_push 29 = .ok (.putfield 21, 3) := by decide +kernel
theorem dX10_push_32 : decode cX10_push 32 = .ok (.return_, 1) := by decide +kernel
theorem dX10_byteAt_0 : decode cX10_byteAt 0 = .ok (.iload_n 1, 1) := by decide +kernel
theorem dX10_byteAt_1 : decode cX10_byteAt 1 = .ok (.ifCond .lt 20, 3) := by decide +kernel
theorem dX10_byteAt_4 : decode cX10_byteAt 4 = .ok (.iload_n 1, 1) := by decide +kernel
theorem dX10_byteAt_5 : decode cX10_byteAt 5 = .ok (.aload_n 0, 1) := by decide +kernel
theorem dX10_byteAt_6 : decode cX10_byteAt 6 = .ok (.getfield 21, 3) := by decide +kernel
theorem dX10_byteAt_9 : decode cX10_byteAt 9 = .ok (.if_icmp .ge 12, 3) := by decide +kernel
theorem dX10_byteAt_12 : decode cX10_byteAt 12 = .ok (.aload_n 0, 1) := by decide +kernel
theorem dX10_byteAt_13 : decode cX10_byteAt 13 = .ok (.getfield 15, 3) := by decide +kernel
theorem dX10_byteAt_16 : decode cX10_byteAt 16 = .ok (.iload_n 1, 1) := by decide +kernel
theorem dX10_byteAt_17 : decode cX10_byteAt 17 = .ok (.iaload, 1) := by decide +kernel
theorem dX10_byteAt_18 : decode cX10_byteAt 18 = .ok (.goto 4, 3) := by decide +kernel
theorem dX10_byteAt_21 : decode cX10_byteAt 21 = .ok (.iconst (-1), 1) := by decide +kernel
theorem dX10_byteAt_22 : decode cX10_byteAt 22 = .ok (.ireturn, 1) := by decide +kernel
theorem dX11_init_0 : decode cX11_init 0 = .ok (.aload_n 0, 1) := by decide +kernel
theorem dX11_init_1 : decode cX11_init 1 = .ok (.invokespecial 1, 3) := by decide +kernel
theorem dX11_init_4 : decode cX11_init 4 = .ok (.aload_n 0, 1) := by decide +kernel
theorem dX11_init_5 : decode cX11_init 5 = .ok (.new 7, 3) := by decide +kernel
theorem dX11_init_8 : decode cX11_init 8 = .ok (.dup, 1) := by decide +kernel
theorem dX11_init_9 : decode cX11_init 9 = .ok (.bipush 47, 2) := by decide +kernel
theorem dX11_init_11 : decode cX11_init 11 = .ok (.invokespecial 11, 3) := by decide +kernel
theorem dX11_init_14 : decode cX11_init 14 = .ok (.putfield 14, 3) := by decide +kernel
theorem dX11_init_17 : decode cX11_init 17 = .ok (.aload_n 0, 1) := by decide +kernel
theorem dX11_init_18 : decode cX11_init 18 = .ok (.new 7, 3) := by decide +kernel
theorem dX11_init_21 : decode cX11_init 21 = .ok (.dup, 1) := by decide +kernel
theorem dX11_init_22 : decode cX11_init 22 = .ok (.bipush 12, 2) := by decide +kernel
theorem dX11_init_24 : decode cX11_init 24 = .ok (.invokespecial 11, 3) := by decide +kernel
theorem dX11_init_27 : decode cX11_init 27 = .ok (.putfield 18, 3) := by decide +kernel
theorem dX11_init_30 : decode cX11_init 30 = .ok (.aload_n 0, 1) := by decide +kernel
theorem dX11_init_31 : decode cX11_init 31 = .ok (.new 21, 3) := by decide +kernel
theorem dX11_init_34 : decode cX11_init 34 = .ok (.dup, 1) := by decide +kernel
theorem dX11_init_35 : decode cX11_init 35 = .ok (.invokespecial 23, 3) := by decide +kernel
theorem dX11_init_38 : decode cX11_init 38 = .ok (.putfield 24, 3) := by decide +kernel
theorem dX11_init_41 : decode cX11_init 41 = .ok (.aload_n 0, 1) := by decide +kernel
theorem dX11_init_42 : decode cX11_init 42 = .ok (.new 28, 3) := by decide +kernel
theorem dX11_init_45 : decode cX11_init 45 = .ok (.dup, 1) := by decide +kernel
theorem dX11_init_46 : decode cX11_init 46 = .ok (.invokespecial 30, 3) := by decide +kernel
theorem dX11_init_49 : decode cX11_init 49 = .ok (.putfield 31, 3) := by decide +kernel
theorem dX11_init_52 : decode cX11_init 52 = .ok (.aload_n 0, 1) := by decide +kernel
theorem dX11_init_53 : decode cX11_init 53 = .ok (.new 35, 3) := by decide +kernel
theorem dX11_init_56 : decode cX11_init 56 = .ok (.dup, 1) := by decide +kernel
theorem dX11_init_57 : decode cX11_init 57 = .ok (.invokespecial 37, 3) := by decide +kernel
theorem dX11_init_60 : decode cX11_init 60 = .ok (.putfield 38, 3) := by decide +kernel
theorem dX11_init_63 : decode cX11_init 63 = .ok (.aload_n 0, 1) := by decide +kernel
theorem dX11_init_64 : decode cX11_init 64 = .ok (.new 42, 3) := by decide +kernel
theorem dX11_init_67 : decode cX11_init 67 = .ok (.dup, 1) := by decide +kernel
theorem dX11_init_68 : decode cX11_init 68 = .ok (.invokespecial 44, 3) := by decide +kernel
theorem dX11_init_71 : decode cX11_init 71 = .ok (.putfield 45, 3) := by decide +kernel
theorem dX11_init_74 : decode cX11_init 74 = .ok (.aload_n 0, 1) := by decide +kernel
theorem dX11_init_75 : decode cX11_init 75 = .ok (.new 42, 3) := by decide +kernel
theorem dX11_init_78 : decode cX11_init 78 = .ok (.dup, 1) := by decide +kernel
theorem dX11_init_79 : decode cX11_init 79 = .ok (.invokespecial 44, 3) := by decide +kernel
theorem dX11_init_82 : decode cX11_init 82 = .ok (.putfield 49, 3) := by decide +kernel
theorem dX11_init_85 : decode cX11_init 85 = .ok (.aload_n 0, 1) := by decide +kernel
theorem dX11_init_86 : decode cX11_init 86 = .ok (.new 52, 3) := by decide +kernel
theorem dX11_init_89 : decode cX11_init 89 = .ok (.dup, 1) := by decide +kernel
theorem dX11_init_90 : decode cX11_init 90 = .ok (.invokespecial 54, 3) := by decide +kernel
theorem dX11_init_93 : decode cX11_init 93 = .ok (.putfield 55, 3) := by decide +kernel
theorem dX11_init_96 : decode cX11_init 96 = .ok (.aload_n 0, 1) := by decide +kernel
theorem dX11_init_97 : decode cX11_init 97 = .ok (.new 59, 3) := by decide +kernel
theorem dX11_init_100 : decode cX11_init 100 = .ok (.dup, 1) := by decide +kernel
theorem dX11_init_101 : decode cX11_init 101 = .ok (.invokespecial 61, 3) := by decide +kernel
theorem dX11_init_104 : decode cX11_init 104 = .ok (.putfield 62, 3) := by decide +kernel
theorem dX11_init_107 : decode cX11_init 107 = .ok (.aload_n 0, 1) := by decide +kernel
theorem dX11_init_108 : decode cX11_init 108 = .ok (.iconst 4, 1) := by decide +kernel
theorem dX11_init_109 : decode cX11_init 109 = .ok (.anewarray 66, 3) := by decide +kernel
theorem dX11_init_112 : decode cX11_init 112 = .ok (.putfield 68, 3) := by decide +kernel
theorem dX11_init_115 : decode cX11_init 115 = .ok (.aload_n 0, 1) := by decide +kernel
theorem dX11_init_116 : decode cX11_init 116 = .ok (.bipush 48, 2) := by decide +kernel
theorem dX11_init_118 : decode cX11_init 118 = .ok (.newarray .int, 2) := by decide +kernel
theorem dX11_init_120 : decode cX11_init 120 = .ok (.putfield 72, 3) := by decide +kernel
theorem dX11_init_123 : decode cX11_init 123 = .ok (.iconst 0, 1) := by decide +kernel
theorem dX11_init_124 : decode cX11_init 124 = .ok (.istore_n 1, 1) := by decide +kernel
theorem dX11_init_125 : decode cX11_init 125 = .ok (.iload_n 1, 1) := by decide +kernel
theorem dX11_init_126 : decode cX11_init 126 = .ok (.iconst 4, 1) := by decide +kernel
theorem dX11_init_127 : decode cX11_init 127 = .ok (.if_icmp .ge 22, 3) := by decide +kernel
theorem dX11_init_130 : decode cX11_init 130 = .ok (.aload_n 0, 1) := by decide +kernel
theorem dX11_init_131 : decode cX11_init 131 = .ok (.getfield 68, 3) := by decide +kernel
theorem dX11_init_134 : decode cX11_init 134 = .ok (.iload_n 1, 1) := by decide +kernel
theorem dX11_init_135 : decode cX11_init 135 = .ok (.new 66, 3) := by decide +kernel
theorem dX11_init_138 : decode cX11_init 138 = .ok (.dup, 1) := by decide +kernel
theorem dX11_init_139 : decode cX11_init 139 = .ok (.invokespecial 76, 3) := by decide +kernel
theorem dX11_init_142 : decode cX11_init 142 = .ok (.aastore, 1) := by decide +kernel
theorem dX11_init_143 : decode cX11_init 143 = .ok (.iinc 1 1, 3) := by decide +kernel
theorem dX11_init_146 : decode cX11_init 146 = .ok (.goto (-21), 3) := by decide +kernel
theorem dX11_init_149 : decode cX11_init 149 = .ok (.aload_n 0, 1) := by decide +kernel
theorem dX11_init_150 : decode cX11_init 150 = .ok (.getfield 45, 3) := by decide +kernel
theorem dX11_init_153 : decode cX11_init 153 = .ok (.aload_n 0, 1) := by decide +kernel
theorem dX11_init_154 : decode cX11_init 154 = .ok (.getfield 38, 3) := by decide +kernel
theorem dX11_init_157 : decode cX11_init 157 = .ok (.getfield 77, 3) := by decide +kernel
theorem dX11_init_160 : decode cX11_init 160 = .ok (.aload_n 0, 1) := by decide +kernel
theorem dX11_init_161 : decode cX11_init 161 = .ok (.getfield 38, 3) := by decide +kernel
theorem dX11_init_164 : decode cX11_init 164 = .ok (.getfield 81, 3) := by decide +kernel
theorem dX11_init_167 : decode cX11_init 167 = .ok (.invokevirtual 84, 3) := by decide +kernel
theorem dX11_init_170 : decode cX11_init 170 = .ok (.return_, 1) := by decide +kernel
theorem dX11_type_0 : decode cX11_type 0 = .ok (.iload_n 1, 1) := by decide +kernel
theorem dX11_type_1 : decode cX11_type 1 = .ok (.invokestatic 88, 3) := by decide +kernel
theorem dX11_type_4 : decode cX11_type 4 = .ok (.ifCond .eq 14, 3) := by decide +kernel
theorem dX11_type_7 : decode cX11_type 7 = .ok (.iload_n 2, 1) := by decide +kernel
theorem dX11_type_8 : decode cX11_type 8 = .ok (.ifCond .lt 10, 3) := by decide +kernel
theorem dX11_type_11 : decode cX11_type 11 = .ok (.iload_n 2, 1) := by decide +kernel
theorem dX11_type_12 : decode cX11_type 12 = .ok (.sipush 255, 3) := by decide +kernel
theorem dX11_type_15 : decode cX11_type 15 = .ok (.if_icmp .le 6, 3) := by decide +kernel
theorem dX11_type_18 : decode cX11_type 18 = .ok (.bipush (-2), 2) := by decide +kernel
theorem dX11_type_20 : decode cX11_type 20 = .ok (.ireturn, 1) := by decide +kernel
theorem dX11_type_21 : decode cX11_type 21 = .ok (.aload_n 0, 1) := by decide +kernel
theorem dX11_type_22 : decode cX11_type 22 = .ok (.iload_n 1, 1) := by decide +kernel
theorem dX11_type_23 : decode cX11_type 23 = .ok (.invokevirtual 92, 3) := by decide +kernel
theorem dX11_type_26 : decode cX11_type 26 = .ok (.astore_n 3, 1) := by decide +kernel
theorem dX11_type_27 : decode cX11_type 27 = .ok (.aload_n 3, 1) := by decide +kernel
theorem dX11_type_28 : decode cX11_type 28 = .ok (.invokevirtual 96, 3) := by decide +kernel
theorem dX11_type_31 : decode cX11_type 31 = .ok (.ifCond .eq 6, 3) := by decide +kernel
theorem dX11_type_34 : decode cX11_type 34 = .ok (.bipush (-4), 2) := by decide +kernel
theorem dX11_type_36 : decode cX11_type 36 = .ok (.ireturn, 1) := by decide +kernel
theorem dX11_type_37 : decode cX11_type 37 = .ok (.aload_n 3, 1) := by decide +kernel
theorem dX11_type_38 : decode cX11_type 38 = .ok (.iload_n 2, 1) := by decide +kernel
theorem dX11_type_39 : decode cX11_type 39 = .ok (.invokevirtual 100, 3) := by decide +kernel
theorem dX11_type_42 : decode cX11_type 42 = .ok (.aload_n 0, 1) := by decide +kernel
theorem dX11_type_43 : decode cX11_type 43 = .ok (.iload_n 1, 1) := by decide +kernel
theorem dX11_type_44 : decode cX11_type 44 = .ok (.invokevirtual 103, 3) := by decide +kernel
theorem dX11_type_47 : decode cX11_type 47 = .ok (.aload_n 3, 1) := by decide +kernel
theorem dX11_type_48 : decode cX11_type 48 = .ok (.getfield 106, 3) := by decide +kernel
theorem dX11_type_51 : decode cX11_type 51 = .ok (.ireturn, 1) := by decide +kernel
theorem dX11_wipe_0 : decode cX11_wipe 0 = .ok (.iload_n 1, 1) := by decide +kernel
theorem dX11_wipe_1 : decode cX11_wipe 1 = .ok (.invokestatic 88, 3) := by decide +kernel
theorem dX11_wipe_4 : decode cX11_wipe 4 = .ok (.ifCond .ne 6, 3) := by decide +kernel
theorem dX11_wipe_7 : decode cX11_wipe 7 = .ok (.bipush (-2), 2) := by decide +kernel
theorem dX11_wipe_9 : decode cX11_wipe 9 = .ok (.ireturn, 1) := by decide +kernel
theorem dX11_wipe_10 : decode cX11_wipe 10 = .ok (.aload_n 0, 1) := by decide +kernel
theorem dX11_wipe_11 : decode cX11_wipe 11 = .ok (.iload_n 1, 1) := by decide +kernel
theorem dX11_wipe_12 : decode cX11_wipe 12 = .ok (.invokevirtual 92, 3) := by decide +kernel
theorem dX11_wipe_15 : decode cX11_wipe 15 = .ok (.astore_n 2, 1) := by decide +kernel
theorem dX11_wipe_16 : decode cX11_wipe 16 = .ok (.aload_n 2, 1) := by decide +kernel
theorem dX11_wipe_17 : decode cX11_wipe 17 = .ok (.getfield 106, 3) := by decide +kernel
theorem dX11_wipe_20 : decode cX11_wipe 20 = .ok (.istore_n 3, 1) := by decide +kernel
theorem dX11_wipe_21 : decode cX11_wipe 21 = .ok (.aload_n 2, 1) := by decide +kernel
theorem dX11_wipe_22 : decode cX11_wipe 22 = .ok (.iconst 0, 1) := by decide +kernel
theorem dX11_wipe_23 : decode cX11_wipe 23 = .ok (.putfield 106, 3) := by decide +kernel
theorem dX11_wipe_26 : decode cX11_wipe 26 = .ok (.aload_n 0, 1) := by decide +kernel
theorem dX11_wipe_27 : decode cX11_wipe 27 = .ok (.iload_n 1, 1) := by decide +kernel
theorem dX11_wipe_28 : decode cX11_wipe 28 = .ok (.invokevirtual 103, 3) := by decide +kernel
theorem dX11_wipe_31 : decode cX11_wipe 31 = .ok (.iload_n 3, 1) := by decide +kernel
theorem dX11_wipe_32 : decode cX11_wipe 32 = .ok (.ireturn, 1) := by decide +kernel
theorem dX11_undo_0 : decode cX11_undo 0 = .ok (.iload_n 1, 1) := by decide +kernel
theorem dX11_undo_1 : decode cX11_undo 1 = .ok (.invokestatic 88, 3) := by decide +kernel
theorem dX11_undo_4 : decode cX11_undo 4 = .ok (.ifCond .ne 6, 3) := by decide +kernel
theorem dX11_undo_7 : decode cX11_undo 7 = .ok (.bipush (-2), 2) := by decide +kernel
theorem dX11_undo_9 : decode cX11_undo 9 = .ok (.ireturn, 1) := by decide +kernel
theorem dX11_undo_10 : decode cX11_undo 10 = .ok (.aload_n 0, 1) := by decide +kernel
theorem dX11_undo_11 : decode cX11_undo 11 = .ok (.iload_n 1, 1) := by decide +kernel
theorem dX11_undo_12 : decode cX11_undo 12 = .ok (.invokevirtual 92, 3) := by decide +kernel
theorem dX11_undo_15 : decode cX11_undo 15 = .ok (.astore_n 2, 1) := by decide +kernel
theorem dX11_undo_16 : decode cX11_undo 16 = .ok (.aload_n 2, 1) := by decide +kernel
theorem dX11_undo_17 : decode cX11_undo 17 = .ok (.getfield 106, 3) := by decide +kernel
theorem dX11_undo_20 : decode cX11_undo 20 = .ok (.ifCond .ne 6, 3) := by decide +kernel
theorem dX11_undo_23 : decode cX11_undo 23 = .ok (.bipush (-3), 2) := by decide +kernel
theorem dX11_undo_25 : decode cX11_undo 25 = .ok (.ireturn, 1) := by decide +kernel
theorem dX11_undo_26 : decode cX11_undo 26 = .ok (.aload_n 2, 1) := by decide +kernel
theorem dX11_undo_27 : decode cX11_undo 27 = .ok (.dup, 1) := by decide +kernel
theorem dX11_undo_28 : decode cX11_undo 28 = .ok (.getfield 106, 3) := by decide +kernel
theorem dX11_undo_31 : decode cX11_undo 31 = .ok (.iconst 1, 1) := by decide +kernel
theorem dX11_undo_32 : decode cX11_undo 32 = .ok (.isub, 1) := by decide +kernel
theorem dX11_undo_33 : decode cX11_undo 33 = .ok (.putfield 106, 3) := by decide +kernel
theorem dX11_undo_36 : decode cX11_undo 36 = .ok (.aload_n 0, 1) := by decide +kernel
theorem dX11_undo_37 : decode cX11_undo 37 = .ok (.iload_n 1, 1) := by decide +kernel
theorem dX11_undo_38 : decode cX11_undo 38 = .ok (.invokevirtual 103, 3) := by decide +kernel
theorem dX11_undo_41 : decode cX11_undo 41 = .ok (.aload_n 2, 1) := by decide +kernel
theorem dX11_undo_42 : decode cX11_undo 42 = .ok (.getfield 106, 3) := by decide +kernel
theorem dX11_undo_45 : decode cX11_undo 45 = .ok (.ireturn, 1) := by decide +kernel
theorem dX11_fault_0 : decode cX11_fault 0 = .ok (.iload_n 1, 1) := by decide +kernel
theorem dX11_fault_1 : decode cX11_fault 1 = .ok (.invokestatic 88, 3) := by decide +kernel
theorem dX11_fault_4 : decode cX11_fault 4 = .ok (.ifCond .ne 6, 3) := by decide +kernel
theorem dX11_fault_7 : decode cX11_fault 7 = .ok (.bipush (-2), 2) := by decide +kernel
theorem dX11_fault_9 : decode cX11_fault 9 = .ok (.ireturn, 1) := by decide +kernel
theorem dX11_fault_10 : decode cX11_fault 10 = .ok (.iload_n 1, 1) := by decide +kernel
theorem dX11_fault_11 : decode cX11_fault 11 = .ok (.ifCond .ne 13, 3) := by decide +kernel
theorem dX11_fault_14 : decode cX11_fault 14 = .ok (.aload_n 0, 1) := by decide +kernel
theorem dX11_fault_15 : decode cX11_fault 15 = .ok (.getfield 24, 3) := by decide +kernel
theorem dX11_fault_18 : decode cX11_fault 18 = .ok (.getfield 109, 3) := by decide +kernel
theorem dX11_fault_21 : decode cX11_fault 21 = .ok (.goto 10, 3) := by decide +kernel
theorem dX11_fault_24 : decode cX11_fault 24 = .ok (.aload_n 0, 1) := by decide +kernel
theorem dX11_fault_25 : decode cX11_fault 25 = .ok (.getfield 31, 3) := by decide +kernel
theorem dX11_fault_28 : decode cX11_fault 28 = .ok (.getfield 112, 3) := by decide +kernel
theorem dX11_fault_31 : decode cX11_fault 31 = .ok (.ireturn, 1) := by decide +kernel
theorem dX11_felon_0 : decode cX11_felon 0 = .ok (.aload_n 0, 1) := by decide +kernel
theorem dX11_felon_1 : decode cX11_felon 1 = .ok (.getfield 24, 3) := by decide +kernel
theorem dX11_felon_4 : decode cX11_felon 4 = .ok (.iload_n 1, 1) := by decide +kernel
theorem dX11_felon_5 : decode cX11_felon 5 = .ok (.invokevirtual 113, 3) := by decide +kernel
theorem dX11_felon_8 : decode cX11_felon 8 = .ok (.ifCond .eq 12, 3) := by decide +kernel
theorem dX11_felon_11 : decode cX11_felon 11 = .ok (.iload_n 2, 1) := by decide +kernel
theorem dX11_felon_12 : decode cX11_felon 12 = .ok (.ifCond .lt 8, 3) := by decide +kernel
theorem dX11_felon_15 : decode cX11_felon 15 = .ok (.iload_n 2, 1) := by decide +kernel
theorem dX11_felon_16 : decode cX11_felon 16 = .ok (.iconst 4, 1) := by decide +kernel
theorem dX11_felon_17 : decode cX11_felon 17 = .ok (.if_icmp .le 6, 3) := by decide +kernel
theorem dX11_felon_20 : decode cX11_felon 20 = .ok (.bipush (-2), 2) := by decide +kernel
theorem dX11_felon_22 : decode cX11_felon 22 = .ok (.ireturn, 1) := by decide +kernel
theorem dX11_felon_23 : decode cX11_felon 23 = .ok (.aload_n 0, 1) := by decide +kernel
theorem dX11_felon_24 : decode cX11_felon 24 = .ok (.getfield 24, 3) := by decide +kernel
theorem dX11_felon_27 : decode cX11_felon 27 = .ok (.iload_n 1, 1) := by decide +kernel
theorem dX11_felon_28 : decode cX11_felon 28 = .ok (.iload_n 2, 1) := by decide +kernel
theorem dX11_felon_29 : decode cX11_felon 29 = .ok (.invokevirtual 116, 3) := by decide +kernel
theorem dX11_felon_32 : decode cX11_felon 32 = .ok (.ireturn, 1) := by decide +kernel
theorem dX11_name_0 : decode cX11_name 0 = .ok (.iload_n 1, 1) := by decide +kernel
theorem dX11_name_1 : decode cX11_name 1 = .ok (.ifCond .lt 9, 3) := by decide +kernel
theorem dX11_name_4 : decode cX11_name 4 = .ok (.iload_n 1, 1) := by decide +kernel
theorem dX11_name_5 : decode cX11_name 5 = .ok (.bipush 12, 2) := by decide +kernel
theorem dX11_name_7 : decode cX11_name 7 = .ok (.if_icmp .lt 6, 3) := by decide +kernel
theorem dX11_name_10 : decode cX11_name 10 = .ok (.bipush (-2), 2) := by decide +kernel
theorem dX11_name_12 : decode cX11_name 12 = .ok (.ireturn, 1) := by decide +kernel
theorem dX11_name_13 : decode cX11_name 13 = .ok (.aload_n 0, 1) := by decide +kernel
theorem dX11_name_14 : decode cX11_name 14 = .ok (.getfield 31, 3) := by decide +kernel
theorem dX11_name_17 : decode cX11_name 17 = .ok (.iload_n 1, 1) := by decide +kernel
theorem dX11_name_18 : decode cX11_name 18 = .ok (.invokevirtual 120, 3) := by decide +kernel
theorem dX11_name_21 : decode cX11_name 21 = .ok (.ireturn, 1) := by decide +kernel
theorem dX11_set_0 : decode cX11_set 0 = .ok (.iload_n 1, 1) := by decide +kernel
theorem dX11_set_1 : decode cX11_set 1 = .ok (.ifCond .lt 16, 3) := by decide +kernel
theorem dX11_set_4 : decode cX11_set 4 = .ok (.iload_n 1, 1) := by decide +kernel
theorem dX11_set_5 : decode cX11_set 5 = .ok (.iconst 2, 1) := by decide +kernel
theorem dX11_set_6 : decode cX11_set 6 = .ok (.if_icmp .gt 11, 3) := by decide +kernel
theorem dX11_set_9 : decode cX11_set 9 = .ok (.iload_n 1, 1) := by decide +kernel
theorem dX11_set_10 : decode cX11_set 10 = .ok (.iload_n 2, 1) := by decide +kernel
theorem dX11_set_11 : decode cX11_set 11 = .ok (.invokestatic 124, 3) := by decide +kernel
theorem dX11_set_14 : decode cX11_set 14 = .ok (.ifCond .ne 6, 3) := by decide +kernel
theorem dX11_set_17 : decode cX11_set 17 = .ok (.bipush (-2), 2) := by decide +kernel
theorem dX11_set_19 : decode cX11_set 19 = .ok (.ireturn, 1) := by decide +kernel
theorem dX11_set_20 : decode cX11_set 20 = .ok (.aload_n 0, 1) := by decide +kernel
theorem dX11_set_21 : decode cX11_set 21 = .ok (.getfield 38, 3) := by decide +kernel
theorem dX11_set_24 : decode cX11_set 24 = .ok (.iload_n 1, 1) := by decide +kernel
theorem dX11_set_25 : decode cX11_set 25 = .ok (.iload_n 2, 1) := by decide +kernel
theorem dX11_set_26 : decode cX11_set 26 = .ok (.invokevirtual 128, 3) := by decide +kernel
theorem dX11_set_29 : decode cX11_set 29 = .ok (.istore_n 3, 1) := by decide +kernel
theorem dX11_set_30 : decode cX11_set 30 = .ok (.aload_n 0, 1) := by decide +kernel
theorem dX11_set_31 : decode cX11_set 31 = .ok (.invokevirtual 131, 3) := by decide +kernel
theorem dX11_set_34 : decode cX11_set 34 = .ok (.iload_n 3, 1) := by decide +kernel
theorem dX11_set_35 : decode cX11_set 35 = .ok (.ireturn, 1) := by decide +kernel
theorem dX11_comes_0 : decode cX11_comes 0 = .ok (.iload_n 1, 1) := by decide +kernel
theorem dX11_comes_1 : decode cX11_comes 1 = .ok (.ifCond .lt 21, 3) := by decide +kernel
theorem dX11_comes_4 : decode cX11_comes 4 = .ok (.iload_n 1, 1) := by decide +kernel
theorem dX11_comes_5 : decode cX11_comes 5 = .ok (.aload_n 0, 1) := by decide +kernel
theorem dX11_comes_6 : decode cX11_comes 6 = .ok (.getfield 31, 3) := by decide +kernel
theorem dX11_comes_9 : decode cX11_comes 9 = .ok (.getfield 134, 3) := by decide +kernel
theorem dX11_comes_12 : decode cX11_comes 12 = .ok (.if_icmp .ge 10, 3) := by decide +kernel
theorem dX11_comes_15 : decode cX11_comes 15 = .ok (.iload_n 2, 1) := by decide +kernel
theorem dX11_comes_16 : decode cX11_comes 16 = .ok (.invokestatic 135, 3) := by decide +kernel
theorem dX11_comes_19 : decode cX11_comes 19 = .ok (.ifCond .ne 6, 3) := by decide +kernel
theorem dX11_comes_22 : decode cX11_comes 22 = .ok (.bipush (-2), 2) := by decide +kernel
theorem dX11_comes_24 : decode cX11_comes 24 = .ok (.ireturn, 1) := by decide +kernel
theorem dX11_comes_25 : decode cX11_comes 25 = .ok (.iload_n 2, 1) := by decide +kernel
theorem dX11_comes_26 : decode cX11_comes 26 = .ok (.ifCond .ne 15, 3) := by decide +kernel
theorem dX11_comes_29 : decode cX11_comes 29 = .ok (.aload_n 0, 1) := by decide +kernel
theorem dX11_comes_30 : decode cX11_comes 30 = .ok (.getfield 45, 3) := by decide +kernel
theorem dX11_comes_33 : decode cX11_comes 33 = .ok (.getfield 138, 3) := by decide +kernel
theorem dX11_comes_36 : decode cX11_comes 36 = .ok (.iload_n 1, 1) := by decide +kernel
theorem dX11_comes_37 : decode cX11_comes 37 = .ok (.iaload, 1) := by decide +kernel
theorem dX11_comes_38 : decode cX11_comes 38 = .ok (.goto 12, 3) := by decide +kernel
theorem dX11_comes_41 : decode cX11_comes 41 = .ok (.aload_n 0, 1) := by decide +kernel
theorem dX11_comes_42 : decode cX11_comes 42 = .ok (.getfield 45, 3) := by decide +kernel
theorem dX11_comes_45 : decode cX11_comes 45 = .ok (.getfield 141, 3) := by decide +kernel
theorem dX11_comes_48 : decode cX11_comes 48 = .ok (.iload_n 1, 1) := by decide +kernel
theorem dX11_comes_49 : decode cX11_comes 49 = .ok (.iaload, 1) := by decide +kernel
theorem dX11_comes_50 : decode cX11_comes 50 = .ok (.ireturn, 1) := by decide +kernel
theorem dX11_behind_0 : decode cX11_behind 0 = .ok (.aload_n 0, 1) := by decide +kernel
theorem dX11_behind_1 : decode cX11_behind 1 = .ok (.iload_n 1, 1) := by decide +kernel
theorem dX11_behind_2 : decode cX11_behind 2 = .ok (.invokevirtual 144, 3) := by decide +kernel
theorem dX11_behind_5 : decode cX11_behind 5 = .ok (.ifCond .eq 10, 3) := by decide +kernel
theorem dX11_behind_8 : decode cX11_behind 8 = .ok (.iload_n 2, 1) := by decide +kernel
theorem dX11_behind_9 : decode cX11_behind 9 = .ok (.invokestatic 135, 3) := by decide +kernel
theorem dX11_behind_12 : decode cX11_behind 12 = .ok (.ifCond .ne 6, 3) := by decide +kernel
theorem dX11_behind_15 : decode cX11_behind 15 = .ok (.bipush (-2), 2) := by decide +kernel
theorem dX11_behind_17 : decode cX11_behind 17 = .ok (.ireturn, 1) := by decide +kernel
theorem dX11_behind_18 : decode cX11_behind 18 = .ok (.iload_n 2, 1) := by decide +kernel
theorem dX11_behind_19 : decode cX11_behind 19 = .ok (.ifCond .ne 15, 3) := by decide +kernel
theorem dX11_behind_22 : decode cX11_behind 22 = .ok (.aload_n 0, 1) := by decide +kernel
theorem dX11_behind_23 : decode cX11_behind 23 = .ok (.getfield 45, 3) := by decide +kernel
theorem dX11_behind_26 : decode cX11_behind 26 = .ok (.getfield 147, 3) := by decide +kernel
theorem dX11_behind_29 : decode cX11_behind 29 = .ok (.iload_n 1, 1) := by decide +kernel
theorem dX11_behind_30 : decode cX11_behind 30 = .ok (.iaload, 1) := by decide +kernel
theorem dX11_behind_31 : decode cX11_behind 31 = .ok (.goto 12, 3) := by decide +kernel
theorem dX11_behind_34 : decode cX11_behind 34 = .ok (.aload_n 0, 1) := by decide +kernel
theorem dX11_behind_35 : decode cX11_behind 35 = .ok (.getfield 45, 3) := by decide +kernel
theorem dX11_behind_38 : decode cX11_behind 38 = .ok (.getfield 149, 3) := by decide +kernel
theorem dX11_behind_41 : decode cX11_behind 41 = .ok (.iload_n 1, 1) := by decide +kernel
theorem dX11_behind_42 : decode cX11_behind 42 = .ok (.iaload, 1) := by decide +kernel
theorem dX11_behind_43 : decode cX11_behind 43 = .ok (.ireturn, 1) := by decide +kernel
theorem dX11_alive_0 : decode cX11_alive 0 = .ok (.aload_n 0, 1) := by decide +kernel
theorem dX11_alive_1 : decode cX11_alive 1 = .ok (.iload_n 1, 1) := by decide +kernel
theorem dX11_alive_2 : decode cX11_alive 2 = .ok (.invokevirtual 144, 3) := by decide +kernel
theorem dX11_alive_5 : decode cX11_alive 5 = .ok (.ifCond .eq 10, 3) := by decide +kernel
theorem dX11_alive_8 : decode cX11_alive 8 = .ok (.iload_n 2, 1) := by decide +kernel
theorem dX11_alive_9 : decode cX11_alive 9 = .ok (.invokestatic 135, 3) := by decide +kernel
theorem dX11_alive_12 : decode cX11_alive 12 = .ok (.ifCond .ne 9, 3) := by decide +kernel
theorem dX11_alive_15 : decode cX11_alive 15 = .ok (.bipush (-2), 2) := by decide +kernel
theorem dX11_alive_17 : decode cX11_alive 17 = .ok (.invokestatic 152, 3) := by decide +kernel
end
section
theorem dX11_alive_20 : decode cX11_alive 20 = .ok (.lreturn, 1) := by decide +kernel
theorem dX11_alive_21 : decode cX11_alive 21 = .ok (.aload_n 0, 1) := by decide +kernel
theorem dX11_alive_22 : decode cX11_alive 22 = .ok (.getfield 45, 3) := by decide +kernel
theorem dX11_alive_25 : decode cX11_alive 25 = .ok (.getfield 156, 3) := by decide +kernel
theorem dX11_alive_28 : decode cX11_alive 28 = .ok (.iload_n 1, 1) := by decide +kernel
theorem dX11_alive_29 : decode cX11_alive 29 = .ok (.laload, 1) := by decide +kernel
theorem dX11_alive_30 : decode cX11_alive 30 = .ok (.iconst 4, 1) := by decide +kernel
theorem dX11_alive_31 : decode cX11_alive 31 = .ok (.aload_n 0, 1) := by decide +kernel
theorem dX11_alive_32 : decode cX11_alive 32 = .ok (.getfield 45, 3) := by decide +kernel
theorem dX11_alive_35 : decode cX11_alive 35 = .ok (.getfield 149, 3) := by decide +kernel
theorem dX11_alive_38 : decode cX11_alive 38 = .ok (.iload_n 1, 1) := by decide +kernel
theorem dX11_alive_39 : decode cX11_alive 39 = .ok (.iaload, 1) := by decide +kernel
theorem dX11_alive_40 : decode cX11_alive 40 = .ok (.imul, 1) := by decide +kernel
theorem dX11_alive_41 : decode cX11_alive 41 = .ok (.iload_n 2, 1) := by decide +kernel
theorem dX11_alive_42 : decode cX11_alive 42 = .ok (.invokestatic 162, 3) := by decide +kernel
theorem dX11_alive_45 : decode cX11_alive 45 = .ok (.lreturn, 1) := by decide +kernel
theorem dX11_lives_0 : decode cX11_lives 0 = .ok (.iload_n 1, 1) := by decide +kernel
theorem dX11_lives_1 : decode cX11_lives 1 = .ok (.invokestatic 135, 3) := by decide +kernel
theorem dX11_lives_4 : decode cX11_lives 4 = .ok (.ifCond .ne 9, 3) := by decide +kernel
theorem dX11_lives_7 : decode cX11_lives 7 = .ok (.bipush (-2), 2) := by decide +kernel
theorem dX11_lives_9 : decode cX11_lives 9 = .ok (.invokestatic 152, 3) := by decide +kernel
theorem dX11_lives_12 : decode cX11_lives 12 = .ok (.lreturn, 1) := by decide +kernel
theorem dX11_lives_13 : decode cX11_lives 13 = .ok (.aload_n 0, 1) := by decide +kernel
theorem dX11_lives_14 : decode cX11_lives 14 = .ok (.getfield 45, 3) := by decide +kernel
theorem dX11_lives_17 : decode cX11_lives 17 = .ok (.invokevirtual 166, 3) := by decide +kernel
theorem dX11_lives_20 : decode cX11_lives 20 = .ok (.iconst 4, 1) := by decide +kernel
theorem dX11_lives_21 : decode cX11_lives 21 = .ok (.aload_n 0, 1) := by decide +kernel
theorem dX11_lives_22 : decode cX11_lives 22 = .ok (.getfield 45, 3) := by decide +kernel
theorem dX11_lives_25 : decode cX11_lives 25 = .ok (.getfield 170, 3) := by decide +kernel
theorem dX11_lives_28 : decode cX11_lives 28 = .ok (.imul, 1) := by decide +kernel
theorem dX11_lives_29 : decode cX11_lives 29 = .ok (.iload_n 1, 1) := by decide +kernel
theorem dX11_lives_30 : decode cX11_lives 30 = .ok (.invokestatic 162, 3) := by decide +kernel
theorem dX11_lives_33 : decode cX11_lives 33 = .ok (.lreturn, 1) := by decide +kernel
theorem dX11_harm_0 : decode cX11_harm 0 = .ok (.iload_n 1, 1) := by decide +kernel
theorem dX11_harm_1 : decode cX11_harm 1 = .ok (.invokestatic 135, 3) := by decide +kernel
theorem dX11_harm_4 : decode cX11_harm 4 = .ok (.ifCond .ne 9, 3) := by decide +kernel
theorem dX11_harm_7 : decode cX11_harm 7 = .ok (.bipush (-2), 2) := by decide +kernel
theorem dX11_harm_9 : decode cX11_harm 9 = .ok (.invokestatic 152, 3) := by decide +kernel
theorem dX11_harm_12 : decode cX11_harm 12 = .ok (.lreturn, 1) := by decide +kernel
theorem dX11_harm_13 : decode cX11_harm 13 = .ok (.aload_n 0, 1) := by decide +kernel
theorem dX11_harm_14 : decode cX11_harm 14 = .ok (.getfield 45, 3) := by decide +kernel
theorem dX11_harm_17 : decode cX11_harm 17 = .ok (.getfield 173, 3) := by decide +kernel
theorem dX11_harm_20 : decode cX11_harm 20 = .ok (.bipush 32, 2) := by decide +kernel
theorem dX11_harm_22 : decode cX11_harm 22 = .ok (.iload_n 1, 1) := by decide +kernel
theorem dX11_harm_23 : decode cX11_harm 23 = .ok (.invokestatic 162, 3) := by decide +kernel
theorem dX11_harm_26 : decode cX11_harm 26 = .ok (.lreturn, 1) := by decide +kernel
theorem dX11_worst_0 : decode cX11_worst 0 = .ok (.aload_n 0, 1) := by decide +kernel
theorem dX11_worst_1 : decode cX11_worst 1 = .ok (.getfield 45, 3) := by decide +kernel
theorem dX11_worst_4 : decode cX11_worst 4 = .ok (.invokevirtual 177, 3) := by decide +kernel
theorem dX11_worst_7 : decode cX11_worst 7 = .ok (.ireturn, 1) := by decide +kernel
theorem dX11_fate_0 : decode cX11_fate 0 = .ok (.aload_n 0, 1) := by decide +kernel
theorem dX11_fate_1 : decode cX11_fate 1 = .ok (.getfield 24, 3) := by decide +kernel
theorem dX11_fate_4 : decode cX11_fate 4 = .ok (.iload_n 1, 1) := by decide +kernel
theorem dX11_fate_5 : decode cX11_fate 5 = .ok (.invokevirtual 113, 3) := by decide +kernel
theorem dX11_fate_8 : decode cX11_fate 8 = .ok (.ifCond .ne 6, 3) := by decide +kernel
theorem dX11_fate_11 : decode cX11_fate 11 = .ok (.bipush (-2), 2) := by decide +kernel
theorem dX11_fate_13 : decode cX11_fate 13 = .ok (.ireturn, 1) := by decide +kernel
theorem dX11_fate_14 : decode cX11_fate 14 = .ok (.aload_n 0, 1) := by decide +kernel
theorem dX11_fate_15 : decode cX11_fate 15 = .ok (.getfield 45, 3) := by decide +kernel
theorem dX11_fate_18 : decode cX11_fate 18 = .ok (.iload_n 1, 1) := by decide +kernel
theorem dX11_fate_19 : decode cX11_fate 19 = .ok (.invokevirtual 181, 3) := by decide +kernel
theorem dX11_fate_22 : decode cX11_fate 22 = .ok (.ireturn, 1) := by decide +kernel
theorem dX11_order_0 : decode cX11_order 0 = .ok (.iload_n 1, 1) := by decide +kernel
theorem dX11_order_1 : decode cX11_order 1 = .ok (.iconst (-1), 1) := by decide +kernel
theorem dX11_order_2 : decode cX11_order 2 = .ok (.if_icmp .lt 9, 3) := by decide +kernel
theorem dX11_order_5 : decode cX11_order 5 = .ok (.iload_n 1, 1) := by decide +kernel
theorem dX11_order_6 : decode cX11_order 6 = .ok (.bipush 8, 2) := by decide +kernel
theorem dX11_order_8 : decode cX11_order 8 = .ok (.if_icmp .lt 6, 3) := by decide +kernel
theorem dX11_order_11 : decode cX11_order 11 = .ok (.bipush (-2), 2) := by decide +kernel
theorem dX11_order_13 : decode cX11_order 13 = .ok (.ireturn, 1) := by decide +kernel
theorem dX11_order_14 : decode cX11_order 14 = .ok (.aload_n 0, 1) := by decide +kernel
theorem dX11_order_15 : decode cX11_order 15 = .ok (.getfield 55, 3) := by decide +kernel
theorem dX11_order_18 : decode cX11_order 18 = .ok (.aload_n 0, 1) := by decide +kernel
theorem dX11_order_19 : decode cX11_order 19 = .ok (.getfield 24, 3) := by decide +kernel
theorem dX11_order_22 : decode cX11_order 22 = .ok (.aload_n 0, 1) := by decide +kernel
theorem dX11_order_23 : decode cX11_order 23 = .ok (.getfield 38, 3) := by decide +kernel
theorem dX11_order_26 : decode cX11_order 26 = .ok (.invokevirtual 184, 3) := by decide +kernel
theorem dX11_order_29 : decode cX11_order 29 = .ok (.aload_n 0, 1) := by decide +kernel
theorem dX11_order_30 : decode cX11_order 30 = .ok (.getfield 55, 3) := by decide +kernel
theorem dX11_order_33 : decode cX11_order 33 = .ok (.getfield 188, 3) := by decide +kernel
theorem dX11_order_36 : decode cX11_order 36 = .ok (.ifCond .ne 5, 3) := by decide +kernel
theorem dX11_order_39 : decode cX11_order 39 = .ok (.iconst (-1), 1) := by decide +kernel
theorem dX11_order_40 : decode cX11_order 40 = .ok (.ireturn, 1) := by decide +kernel
theorem dX11_order_41 : decode cX11_order 41 = .ok (.iload_n 1, 1) := by decide +kernel
theorem dX11_order_42 : decode cX11_order 42 = .ok (.iconst (-1), 1) := by decide +kernel
theorem dX11_order_43 : decode cX11_order 43 = .ok (.if_icmp .ne 11, 3) := by decide +kernel
theorem dX11_order_46 : decode cX11_order 46 = .ok (.aload_n 0, 1) := by decide +kernel
theorem dX11_order_47 : decode cX11_order 47 = .ok (.getfield 55, 3) := by decide +kernel
theorem dX11_order_50 : decode cX11_order 50 = .ok (.getfield 188, 3) := by decide +kernel
theorem dX11_order_53 : decode cX11_order 53 = .ok (.ireturn, 1) := by decide +kernel
theorem dX11_order_54 : decode cX11_order 54 = .ok (.iload_n 1, 1) := by decide +kernel
theorem dX11_order_55 : decode cX11_order 55 = .ok (.aload_n 0, 1) := by decide +kernel
theorem dX11_order_56 : decode cX11_order 56 = .ok (.getfield 55, 3) := by decide +kernel
theorem dX11_order_59 : decode cX11_order 59 = .ok (.getfield 188, 3) := by decide +kernel
theorem dX11_order_62 : decode cX11_order 62 = .ok (.if_icmp .ge 15, 3) := by decide +kernel
theorem dX11_order_65 : decode cX11_order 65 = .ok (.aload_n 0, 1) := by decide +kernel
theorem dX11_order_66 : decode cX11_order 66 = .ok (.getfield 55, 3) := by decide +kernel
theorem dX11_order_69 : decode cX11_order 69 = .ok (.getfield 191, 3) := by decide +kernel
theorem dX11_order_72 : decode cX11_order 72 = .ok (.iload_n 1, 1) := by decide +kernel
theorem dX11_order_73 : decode cX11_order 73 = .ok (.iaload, 1) := by decide +kernel
theorem dX11_order_74 : decode cX11_order 74 = .ok (.goto 4, 3) := by decide +kernel
theorem dX11_order_77 : decode cX11_order 77 = .ok (.iconst (-1), 1) := by decide +kernel
theorem dX11_order_78 : decode cX11_order 78 = .ok (.ireturn, 1) := by decide +kernel
theorem dX11_best_0 : decode cX11_best 0 = .ok (.iload_n 1, 1) := by decide +kernel
theorem dX11_best_1 : decode cX11_best 1 = .ok (.invokestatic 135, 3) := by decide +kernel
theorem dX11_best_4 : decode cX11_best 4 = .ok (.ifCond .ne 9, 3) := by decide +kernel
theorem dX11_best_7 : decode cX11_best 7 = .ok (.bipush (-2), 2) := by decide +kernel
theorem dX11_best_9 : decode cX11_best 9 = .ok (.invokestatic 152, 3) := by decide +kernel
theorem dX11_best_12 : decode cX11_best 12 = .ok (.lreturn, 1) := by decide +kernel
theorem dX11_best_13 : decode cX11_best 13 = .ok (.aload_n 0, 1) := by decide +kernel
theorem dX11_best_14 : decode cX11_best 14 = .ok (.getfield 55, 3) := by decide +kernel
theorem dX11_best_17 : decode cX11_best 17 = .ok (.aload_n 0, 1) := by decide +kernel
theorem dX11_best_18 : decode cX11_best 18 = .ok (.getfield 24, 3) := by decide +kernel
theorem dX11_best_21 : decode cX11_best 21 = .ok (.aload_n 0, 1) := by decide +kernel
theorem dX11_best_22 : decode cX11_best 22 = .ok (.getfield 38, 3) := by decide +kernel
theorem dX11_best_25 : decode cX11_best 25 = .ok (.invokevirtual 184, 3) := by decide +kernel
theorem dX11_best_28 : decode cX11_best 28 = .ok (.aload_n 0, 1) := by decide +kernel
theorem dX11_best_29 : decode cX11_best 29 = .ok (.getfield 55, 3) := by decide +kernel
theorem dX11_best_32 : decode cX11_best 32 = .ok (.getfield 194, 3) := by decide +kernel
theorem dX11_best_35 : decode cX11_best 35 = .ok (.iconst 4, 1) := by decide +kernel
theorem dX11_best_36 : decode cX11_best 36 = .ok (.aload_n 0, 1) := by decide +kernel
theorem dX11_best_37 : decode cX11_best 37 = .ok (.getfield 38, 3) := by decide +kernel
theorem dX11_best_40 : decode cX11_best 40 = .ok (.getfield 81, 3) := by decide +kernel
theorem dX11_best_43 : decode cX11_best 43 = .ok (.imul, 1) := by decide +kernel
theorem dX11_best_44 : decode cX11_best 44 = .ok (.iload_n 1, 1) := by decide +kernel
theorem dX11_best_45 : decode cX11_best 45 = .ok (.invokestatic 162, 3) := by decide +kernel
theorem dX11_best_48 : decode cX11_best 48 = .ok (.lreturn, 1) := by decide +kernel
theorem dX11_price_0 : decode cX11_price 0 = .ok (.iconst 0, 1) := by decide +kernel
theorem dX11_price_1 : decode cX11_price 1 = .ok (.istore_n 1, 1) := by decide +kernel
theorem dX11_price_2 : decode cX11_price 2 = .ok (.ldc2_w 196, 3) := by decide +kernel
theorem dX11_price_5 : decode cX11_price 5 = .ok (.lstore_n 2, 1) := by decide +kernel
theorem dX11_price_6 : decode cX11_price 6 = .ok (.iconst 0, 1) := by decide +kernel
theorem dX11_price_7 : decode cX11_price 7 = .ok (.istore 4, 2) := by decide +kernel
theorem dX11_price_9 : decode cX11_price 9 = .ok (.iload 4, 2) := by decide +kernel
theorem dX11_price_11 : decode cX11_price 11 = .ok (.bipush 10, 2) := by decide +kernel
theorem dX11_price_13 : decode cX11_price 13 = .ok (.if_icmp .ge 38, 3) := by decide +kernel
theorem dX11_price_16 : decode cX11_price 16 = .ok (.aload_n 0, 1) := by decide +kernel
theorem dX11_price_17 : decode cX11_price 17 = .ok (.iload 4, 2) := by decide +kernel
theorem dX11_price_19 : decode cX11_price 19 = .ok (.invokevirtual 198, 3) := by decide +kernel
theorem dX11_price_22 : decode cX11_price 22 = .ok (.aload_n 0, 1) := by decide +kernel
theorem dX11_price_23 : decode cX11_price 23 = .ok (.getfield 49, 3) := by decide +kernel
theorem dX11_price_26 : decode cX11_price 26 = .ok (.invokevirtual 166, 3) := by decide +kernel
theorem dX11_price_29 : decode cX11_price 29 = .ok (.lload_n 2, 1) := by decide +kernel
theorem dX11_price_30 : decode cX11_price 30 = .ok (.lcmp, 1) := by decide +kernel
theorem dX11_price_31 : decode cX11_price 31 = .ok (.ifCond .le 14, 3) := by decide +kernel
theorem dX11_price_34 : decode cX11_price 34 = .ok (.aload_n 0, 1) := by decide +kernel
theorem dX11_price_35 : decode cX11_price 35 = .ok (.getfield 49, 3) := by decide +kernel
theorem dX11_price_38 : decode cX11_price 38 = .ok (.invokevirtual 166, 3) := by decide +kernel
theorem dX11_price_41 : decode cX11_price 41 = .ok (.lstore_n 2, 1) := by decide +kernel
theorem dX11_price_42 : decode cX11_price 42 = .ok (.iload 4, 2) := by decide +kernel
theorem dX11_price_44 : decode cX11_price 44 = .ok (.istore_n 1, 1) := by decide +kernel
theorem dX11_price_45 : decode cX11_price 45 = .ok (.iinc 4 1, 3) := by decide +kernel
theorem dX11_price_48 : decode cX11_price 48 = .ok (.goto (-39), 3) := by decide +kernel
theorem dX11_price_51 : decode cX11_price 51 = .ok (.iload_n 1, 1) := by decide +kernel
theorem dX11_price_52 : decode cX11_price 52 = .ok (.ireturn, 1) := by decide +kernel
theorem dX11_rule_0 : decode cX11_rule 0 = .ok (.iload_n 1, 1) := by decide +kernel
theorem dX11_rule_1 : decode cX11_rule 1 = .ok (.ifCond .lt 9, 3) := by decide +kernel
theorem dX11_rule_4 : decode cX11_rule 4 = .ok (.iload_n 1, 1) := by decide +kernel
theorem dX11_rule_5 : decode cX11_rule 5 = .ok (.bipush 16, 2) := by decide +kernel
theorem dX11_rule_7 : decode cX11_rule 7 = .ok (.if_icmp .le 6, 3) := by decide +kernel
theorem dX11_rule_10 : decode cX11_rule 10 = .ok (.bipush (-2), 2) := by decide +kernel
theorem dX11_rule_12 : decode cX11_rule 12 = .ok (.ireturn, 1) := by decide +kernel
theorem dX11_rule_13 : decode cX11_rule 13 = .ok (.bipush 8, 2) := by decide +kernel
theorem dX11_rule_15 : decode cX11_rule 15 = .ok (.istore_n 2, 1) := by decide +kernel
theorem dX11_rule_16 : decode cX11_rule 16 = .ok (.iload_n 2, 1) := by decide +kernel
theorem dX11_rule_17 : decode cX11_rule 17 = .ok (.iconst 1, 1) := by decide +kernel
theorem dX11_rule_18 : decode cX11_rule 18 = .ok (.if_icmp .lt 66, 3) := by decide +kernel
theorem dX11_rule_21 : decode cX11_rule 21 = .ok (.aload_n 0, 1) := by decide +kernel
theorem dX11_rule_22 : decode cX11_rule 22 = .ok (.getfield 49, 3) := by decide +kernel
theorem dX11_rule_25 : decode cX11_rule 25 = .ok (.aload_n 0, 1) := by decide +kernel
theorem dX11_rule_26 : decode cX11_rule 26 = .ok (.getfield 24, 3) := by decide +kernel
theorem dX11_rule_29 : decode cX11_rule 29 = .ok (.aload_n 0, 1) := by decide +kernel
theorem dX11_rule_30 : decode cX11_rule 30 = .ok (.getfield 31, 3) := by decide +kernel
theorem dX11_rule_33 : decode cX11_rule 33 = .ok (.aload_n 0, 1) := by decide +kernel
theorem dX11_rule_34 : decode cX11_rule 34 = .ok (.getfield 38, 3) := by decide +kernel
theorem dX11_rule_37 : decode cX11_rule 37 = .ok (.getfield 77, 3) := by decide +kernel
theorem dX11_rule_40 : decode cX11_rule 40 = .ok (.iload_n 2, 1) := by decide +kernel
theorem dX11_rule_41 : decode cX11_rule 41 = .ok (.aload_n 0, 1) := by decide +kernel
theorem dX11_rule_42 : decode cX11_rule 42 = .ok (.getfield 38, 3) := by decide +kernel
theorem dX11_rule_45 : decode cX11_rule 45 = .ok (.getfield 201, 3) := by decide +kernel
theorem dX11_rule_48 : decode cX11_rule 48 = .ok (.invokevirtual 204, 3) := by decide +kernel
theorem dX11_rule_51 : decode cX11_rule 51 = .ok (.lconst 1, 1) := by decide +kernel
theorem dX11_rule_52 : decode cX11_rule 52 = .ok (.iconst 4, 1) := by decide +kernel
theorem dX11_rule_53 : decode cX11_rule 53 = .ok (.iload_n 2, 1) := by decide +kernel
theorem dX11_rule_54 : decode cX11_rule 54 = .ok (.imul, 1) := by decide +kernel
theorem dX11_rule_55 : decode cX11_rule 55 = .ok (.lshl, 1) := by decide +kernel
theorem dX11_rule_56 : decode cX11_rule 56 = .ok (.lstore_n 3, 1) := by decide +kernel
theorem dX11_rule_57 : decode cX11_rule 57 = .ok (.aload_n 0, 1) := by decide +kernel
theorem dX11_rule_58 : decode cX11_rule 58 = .ok (.getfield 49, 3) := by decide +kernel
theorem dX11_rule_61 : decode cX11_rule 61 = .ok (.invokevirtual 166, 3) := by decide +kernel
theorem dX11_rule_64 : decode cX11_rule 64 = .ok (.ldc2_w 208, 3) := by decide +kernel
theorem dX11_rule_67 : decode cX11_rule 67 = .ok (.lmul, 1) := by decide +kernel
theorem dX11_rule_68 : decode cX11_rule 68 = .ok (.iload_n 1, 1) := by decide +kernel
theorem dX11_rule_69 : decode cX11_rule 69 = .ok (.i2l, 1) := by decide +kernel
theorem dX11_rule_70 : decode cX11_rule 70 = .ok (.lload_n 3, 1) := by decide +kernel
theorem dX11_rule_71 : decode cX11_rule 71 = .ok (.lmul, 1) := by decide +kernel
theorem dX11_rule_72 : decode cX11_rule 72 = .ok (.lcmp, 1) := by decide +kernel
theorem dX11_rule_73 : decode cX11_rule 73 = .ok (.ifCond .lt 5, 3) := by decide +kernel
theorem dX11_rule_76 : decode cX11_rule 76 = .ok (.iload_n 2, 1) := by decide +kernel
theorem dX11_rule_77 : decode cX11_rule 77 = .ok (.ireturn, 1) := by decide +kernel
theorem dX11_rule_78 : decode cX11_rule 78 = .ok (.iinc 2 (-1), 3) := by decide +kernel
theorem dX11_rule_81 : decode cX11_rule 81 = .ok (.goto (-65), 3) := by decide +kernel
theorem dX11_rule_84 : decode cX11_rule 84 = .ok (.iconst (-1), 1) := by decide +kernel
theorem dX11_rule_85 : decode cX11_rule 85 = .ok (.ireturn, 1) := by decide +kernel
theorem dX11_chain_0 : decode cX11_chain 0 = .ok (.aload_n 0, 1) := by decide +kernel
theorem dX11_chain_1 : decode cX11_chain 1 = .ok (.getfield 24, 3) := by decide +kernel
theorem dX11_chain_4 : decode cX11_chain 4 = .ok (.iload_n 1, 1) := by decide +kernel
theorem dX11_chain_5 : decode cX11_chain 5 = .ok (.invokevirtual 113, 3) := by decide +kernel
theorem dX11_chain_8 : decode cX11_chain 8 = .ok (.ifCond .ne 6, 3) := by decide +kernel
theorem dX11_chain_11 : decode cX11_chain 11 = .ok (.bipush (-2), 2) := by decide +kernel
theorem dX11_chain_13 : decode cX11_chain 13 = .ok (.ireturn, 1) := by decide +kernel
theorem dX11_chain_14 : decode cX11_chain 14 = .ok (.iconst 0, 1) := by decide +kernel
theorem dX11_chain_15 : decode cX11_chain 15 = .ok (.istore_n 2, 1) := by decide +kernel
theorem dX11_chain_16 : decode cX11_chain 16 = .ok (.iload_n 1, 1) := by decide +kernel
theorem dX11_chain_17 : decode cX11_chain 17 = .ok (.istore_n 3, 1) := by decide +kernel
theorem dX11_chain_18 : decode cX11_chain 18 = .ok (.iconst 0, 1) := by decide +kernel
theorem dX11_chain_19 : decode cX11_chain 19 = .ok (.istore 4, 2) := by decide +kernel
theorem dX11_chain_21 : decode cX11_chain 21 = .ok (.iload 4, 2) := by decide +kernel
theorem dX11_chain_23 : decode cX11_chain 23 = .ok (.bipush 8, 2) := by decide +kernel
theorem dX11_chain_25 : decode cX11_chain 25 = .ok (.if_icmp .ge 61, 3) := by decide +kernel
theorem dX11_chain_28 : decode cX11_chain 28 = .ok (.aload_n 0, 1) := by decide +kernel
theorem dX11_chain_29 : decode cX11_chain 29 = .ok (.getfield 24, 3) := by decide +kernel
theorem dX11_chain_32 : decode cX11_chain 32 = .ok (.iload_n 3, 1) := by decide +kernel
theorem dX11_chain_33 : decode cX11_chain 33 = .ok (.invokevirtual 113, 3) := by decide +kernel
theorem dX11_chain_36 : decode cX11_chain 36 = .ok (.ifCond .eq 50, 3) := by decide +kernel
theorem dX11_chain_39 : decode cX11_chain 39 = .ok (.iload_n 2, 1) := by decide +kernel
theorem dX11_chain_40 : decode cX11_chain 40 = .ok (.iload_n 3, 1) := by decide +kernel
theorem dX11_chain_41 : decode cX11_chain 41 = .ok (.ishr, 1) := by decide +kernel
theorem dX11_chain_42 : decode cX11_chain 42 = .ok (.iconst 1, 1) := by decide +kernel
theorem dX11_chain_43 : decode cX11_chain 43 = .ok (.iand, 1) := by decide +kernel
theorem dX11_chain_44 : decode cX11_chain 44 = .ok (.ifCond .ne 42, 3) := by decide +kernel
theorem dX11_chain_47 : decode cX11_chain 47 = .ok (.iload_n 2, 1) := by decide +kernel
theorem dX11_chain_48 : decode cX11_chain 48 = .ok (.iconst 1, 1) := by decide +kernel
theorem dX11_chain_49 : decode cX11_chain 49 = .ok (.iload_n 3, 1) := by decide +kernel
theorem dX11_chain_50 : decode cX11_chain 50 = .ok (.ishl, 1) := by decide +kernel
theorem dX11_chain_51 : decode cX11_chain 51 = .ok (.ior, 1) := by decide +kernel
theorem dX11_chain_52 : decode cX11_chain 52 = .ok (.istore_n 2, 1) := by decide +kernel
theorem dX11_chain_53 : decode cX11_chain 53 = .ok (.aload_n 0, 1) := by decide +kernel
theorem dX11_chain_54 : decode cX11_chain 54 = .ok (.getfield 24, 3) := by decide +kernel
theorem dX11_chain_57 : decode cX11_chain 57 = .ok (.iload_n 3, 1) := by decide +kernel
theorem dX11_chain_58 : decode cX11_chain 58 = .ok (.iconst 3, 1) := by decide +kernel
theorem dX11_chain_59 : decode cX11_chain 59 = .ok (.invokevirtual 116, 3) := by decide +kernel
theorem dX11_chain_62 : decode cX11_chain 62 = .ok (.iconst 1, 1) := by decide +kernel
theorem dX11_chain_63 : decode cX11_chain 63 = .ok (.if_icmp .ne 15, 3) := by decide +kernel
theorem dX11_chain_66 : decode cX11_chain 66 = .ok (.aload_n 0, 1) := by decide +kernel
theorem dX11_chain_67 : decode cX11_chain 67 = .ok (.getfield 24, 3) := by decide +kernel
theorem dX11_chain_70 : decode cX11_chain 70 = .ok (.iload_n 3, 1) := by decide +kernel
theorem dX11_chain_71 : decode cX11_chain 71 = .ok (.iconst 4, 1) := by decide +kernel
theorem dX11_chain_72 : decode cX11_chain 72 = .ok (.invokevirtual 116, 3) := by decide +kernel
theorem dX11_chain_75 : decode cX11_chain 75 = .ok (.goto 4, 3) := by decide +kernel
theorem dX11_chain_78 : decode cX11_chain 78 = .ok (.iconst (-1), 1) := by decide +kernel
theorem dX11_chain_79 : decode cX11_chain 79 = .ok (.istore_n 3, 1) := by decide +kernel
theorem dX11_chain_80 : decode cX11_chain 80 = .ok (.iinc 4 1, 3) := by decide +kernel
theorem dX11_chain_83 : decode cX11_chain 83 = .ok (.goto (-62), 3) := by decide +kernel
theorem dX11_chain_86 : decode cX11_chain 86 = .ok (.iload_n 2, 1) := by decide +kernel
theorem dX11_chain_87 : decode cX11_chain 87 = .ok (.ireturn, 1) := by decide +kernel
theorem dX11_seen_0 : decode cX11_seen 0 = .ok (.iload_n 1, 1) := by decide +kernel
theorem dX11_seen_1 : decode cX11_seen 1 = .ok (.iload_n 2, 1) := by decide +kernel
theorem dX11_seen_2 : decode cX11_seen 2 = .ok (.invokestatic 210, 3) := by decide +kernel
theorem dX11_seen_5 : decode cX11_seen 5 = .ok (.ifCond .ne 6, 3) := by decide +kernel
theorem dX11_seen_8 : decode cX11_seen 8 = .ok (.bipush (-2), 2) := by decide +kernel
theorem dX11_seen_10 : decode cX11_seen 10 = .ok (.ireturn, 1) := by decide +kernel
theorem dX11_seen_11 : decode cX11_seen 11 = .ok (.aload_n 0, 1) := by decide +kernel
theorem dX11_seen_12 : decode cX11_seen 12 = .ok (.getfield 62, 3) := by decide +kernel
theorem dX11_seen_15 : decode cX11_seen 15 = .ok (.invokevirtual 211, 3) := by decide +kernel
theorem dX11_seen_18 : decode cX11_seen 18 = .ok (.ifCond .eq 6, 3) := by decide +kernel
theorem dX11_seen_21 : decode cX11_seen 21 = .ok (.bipush (-4), 2) := by decide +kernel
theorem dX11_seen_23 : decode cX11_seen 23 = .ok (.ireturn, 1) := by decide +kernel
theorem dX11_seen_24 : decode cX11_seen 24 = .ok (.aload_n 0, 1) := by decide +kernel
theorem dX11_seen_25 : decode cX11_seen 25 = .ok (.getfield 62, 3) := by decide +kernel
theorem dX11_seen_28 : decode cX11_seen 28 = .ok (.iload_n 1, 1) := by decide +kernel
theorem dX11_seen_29 : decode cX11_seen 29 = .ok (.iload_n 2, 1) := by decide +kernel
theorem dX11_seen_30 : decode cX11_seen 30 = .ok (.invokevirtual 212, 3) := by decide +kernel
theorem dX11_seen_33 : decode cX11_seen 33 = .ok (.aload_n 0, 1) := by decide +kernel
theorem dX11_seen_34 : decode cX11_seen 34 = .ok (.getfield 62, 3) := by decide +kernel
theorem dX11_seen_37 : decode cX11_seen 37 = .ok (.getfield 215, 3) := by decide +kernel
theorem dX11_seen_40 : decode cX11_seen 40 = .ok (.ireturn, 1) := by decide +kernel
theorem dX11_forget_0 : decode cX11_forget 0 = .ok (.aload_n 0, 1) := by decide +kernel
theorem dX11_forget_1 : decode cX11_forget 1 = .ok (.getfield 62, 3) := by decide +kernel
theorem dX11_forget_4 : decode cX11_forget 4 = .ok (.getfield 215, 3) := by decide +kernel
theorem dX11_forget_7 : decode cX11_forget 7 = .ok (.istore_n 1, 1) := by decide +kernel
theorem dX11_forget_8 : decode cX11_forget 8 = .ok (.aload_n 0, 1) := by decide +kernel
theorem dX11_forget_9 : decode cX11_forget 9 = .ok (.getfield 62, 3) := by decide +kernel
theorem dX11_forget_12 : decode cX11_forget 12 = .ok (.iconst 0, 1) := by decide +kernel
theorem dX11_forget_13 : decode cX11_forget 13 = .ok (.putfield 215, 3) := by decide +kernel
theorem dX11_forget_16 : decode cX11_forget 16 = .ok (.iload_n 1, 1) := by decide +kernel
theorem dX11_forget_17 : decode cX11_forget 17 = .ok (.ireturn, 1) := by decide +kernel
theorem dX11_read_0 : decode cX11_read 0 = .ok (.iload_n 1, 1) := by decide +kernel
theorem dX11_read_1 : decode cX11_read 1 = .ok (.invokestatic 216, 3) := by decide +kernel
theorem dX11_read_4 : decode cX11_read 4 = .ok (.ifCond .ne 6, 3) := by decide +kernel
theorem dX11_read_7 : decode cX11_read 7 = .ok (.bipush (-2), 2) := by decide +kernel
theorem dX11_read_9 : decode cX11_read 9 = .ok (.ireturn, 1) := by decide +kernel
theorem dX11_read_10 : decode cX11_read 10 = .ok (.aload_n 0, 1) := by decide +kernel
theorem dX11_read_11 : decode cX11_read 11 = .ok (.getfield 68, 3) := by decide +kernel
theorem dX11_read_14 : decode cX11_read 14 = .ok (.iload_n 1, 1) := by decide +kernel
theorem dX11_read_15 : decode cX11_read 15 = .ok (.aaload, 1) := by decide +kernel
theorem dX11_read_16 : decode cX11_read 16 = .ok (.astore_n 2, 1) := by decide +kernel
theorem dX11_read_17 : decode cX11_read 17 = .ok (.aload_n 2, 1) := by decide +kernel
theorem dX11_read_18 : decode cX11_read 18 = .ok (.getfield 219, 3) := by decide +kernel
theorem dX11_read_21 : decode cX11_read 21 = .ok (.ifCond .eq 9, 3) := by decide +kernel
theorem dX11_read_24 : decode cX11_read 24 = .ok (.aload_n 0, 1) := by decide +kernel
theorem dX11_read_25 : decode cX11_read 25 = .ok (.iconst 1, 1) := by decide +kernel
theorem dX11_read_26 : decode cX11_read 26 = .ok (.invokevirtual 223, 3) := by decide +kernel
theorem dX11_read_29 : decode cX11_read 29 = .ok (.ireturn, 1) := by decide +kernel
theorem dX11_read_30 : decode cX11_read 30 = .ok (.iconst 0, 1) := by decide +kernel
theorem dX11_read_31 : decode cX11_read 31 = .ok (.istore_n 3, 1) := by decide +kernel
theorem dX11_read_32 : decode cX11_read 32 = .ok (.iconst 0, 1) := by decide +kernel
theorem dX11_read_33 : decode cX11_read 33 = .ok (.istore 4, 2) := by decide +kernel
theorem dX11_read_35 : decode cX11_read 35 = .ok (.iload 4, 2) := by decide +kernel
theorem dX11_read_37 : decode cX11_read 37 = .ok (.iconst 1, 1) := by decide +kernel
theorem dX11_read_38 : decode cX11_read 38 = .ok (.iadd, 1) := by decide +kernel
theorem dX11_read_39 : decode cX11_read 39 = .ok (.aload_n 2, 1) := by decide +kernel
theorem dX11_read_40 : decode cX11_read 40 = .ok (.getfield 226, 3) := by decide +kernel
theorem dX11_read_43 : decode cX11_read 43 = .ok (.if_icmp .ge 66, 3) := by decide +kernel
theorem dX11_read_46 : decode cX11_read 46 = .ok (.aload_n 2, 1) := by decide +kernel
theorem dX11_read_47 : decode cX11_read 47 = .ok (.getfield 227, 3) := by decide +kernel
theorem dX11_read_50 : decode cX11_read 50 = .ok (.iload 4, 2) := by decide +kernel
theorem dX11_read_52 : decode cX11_read 52 = .ok (.iaload, 1) := by decide +kernel
theorem dX11_read_53 : decode cX11_read 53 = .ok (.istore 5, 2) := by decide +kernel
theorem dX11_read_55 : decode cX11_read 55 = .ok (.aload_n 2, 1) := by decide +kernel
theorem dX11_read_56 : decode cX11_read 56 = .ok (.getfield 227, 3) := by decide +kernel
theorem dX11_read_59 : decode cX11_read 59 = .ok (.iload 4, 2) := by decide +kernel
theorem dX11_read_61 : decode cX11_read 61 = .ok (.iconst 1, 1) := by decide +kernel
theorem dX11_read_62 : decode cX11_read 62 = .ok (.iadd, 1) := by decide +kernel
theorem dX11_read_63 : decode cX11_read 63 = .ok (.iaload, 1) := by decide +kernel
theorem dX11_read_64 : decode cX11_read 64 = .ok (.istore 6, 2) := by decide +kernel
theorem dX11_read_66 : decode cX11_read 66 = .ok (.iload 5, 2) := by decide +kernel
theorem dX11_read_68 : decode cX11_read 68 = .ok (.iload 6, 2) := by decide +kernel
theorem dX11_read_70 : decode cX11_read 70 = .ok (.invokestatic 210, 3) := by decide +kernel
theorem dX11_read_73 : decode cX11_read 73 = .ok (.ifCond .eq 36, 3) := by decide +kernel
theorem dX11_read_76 : decode cX11_read 76 = .ok (.aload_n 0, 1) := by decide +kernel
theorem dX11_read_77 : decode cX11_read 77 = .ok (.getfield 62, 3) := by decide +kernel
theorem dX11_read_80 : decode cX11_read 80 = .ok (.invokevirtual 211, 3) := by decide +kernel
theorem dX11_read_83 : decode cX11_read 83 = .ok (.ifCond .eq 6, 3) := by decide +kernel
theorem dX11_read_86 : decode cX11_read 86 = .ok (.goto 23, 3) := by decide +kernel
theorem dX11_read_89 : decode cX11_read 89 = .ok (.aload_n 0, 1) := by decide +kernel
theorem dX11_read_90 : decode cX11_read 90 = .ok (.getfield 62, 3) := by decide +kernel
theorem dX11_read_93 : decode cX11_read 93 = .ok (.iload 5, 2) := by decide +kernel
theorem dX11_read_95 : decode cX11_read 95 = .ok (.iload 6, 2) := by decide +kernel
theorem dX11_read_97 : decode cX11_read 97 = .ok (.invokevirtual 212, 3) := by decide +kernel
theorem dX11_read_100 : decode cX11_read 100 = .ok (.iinc 3 1, 3) := by decide +kernel
theorem dX11_read_103 : decode cX11_read 103 = .ok (.iinc 4 2, 3) := by decide +kernel
theorem dX11_read_106 : decode cX11_read 106 = .ok (.goto (-71), 3) := by decide +kernel
theorem dX11_read_109 : decode cX11_read 109 = .ok (.iload_n 3, 1) := by decide +kernel
theorem dX11_read_110 : decode cX11_read 110 = .ok (.ireturn, 1) := by decide +kernel
theorem dX11_bribes_0 : decode cX11_bribes 0 = .ok (.iconst 0, 1) := by decide +kernel
theorem dX11_bribes_1 : decode cX11_bribes 1 = .ok (.istore_n 1, 1) := by decide +kernel
theorem dX11_bribes_2 : decode cX11_bribes 2 = .ok (.iconst 0, 1) := by decide +kernel
theorem dX11_bribes_3 : decode cX11_bribes 3 = .ok (.istore_n 2, 1) := by decide +kernel
theorem dX11_bribes_4 : decode cX11_bribes 4 = .ok (.iload_n 2, 1) := by decide +kernel
theorem dX11_bribes_5 : decode cX11_bribes 5 = .ok (.bipush 10, 2) := by decide +kernel
theorem dX11_bribes_7 : decode cX11_bribes 7 = .ok (.if_icmp .ge 34, 3) := by decide +kernel
theorem dX11_bribes_10 : decode cX11_bribes 10 = .ok (.aload_n 0, 1) := by decide +kernel
theorem dX11_bribes_11 : decode cX11_bribes 11 = .ok (.iload_n 2, 1) := by decide +kernel
theorem dX11_bribes_12 : decode cX11_bribes 12 = .ok (.invokevirtual 198, 3) := by decide +kernel
theorem dX11_bribes_15 : decode cX11_bribes 15 = .ok (.aload_n 0, 1) := by decide +kernel
theorem dX11_bribes_16 : decode cX11_bribes 16 = .ok (.getfield 62, 3) := by decide +kernel
theorem dX11_bribes_19 : decode cX11_bribes 19 = .ok (.aload_n 0, 1) := by decide +kernel
theorem dX11_bribes_20 : decode cX11_bribes 20 = .ok (.getfield 49, 3) := by decide +kernel
theorem dX11_bribes_23 : decode cX11_bribes 23 = .ok (.invokevirtual 228, 3) := by decide +kernel
theorem dX11_bribes_26 : decode cX11_bribes 26 = .ok (.ifCond .eq 9, 3) := by decide +kernel
theorem dX11_bribes_29 : decode cX11_bribes 29 = .ok (.iload_n 1, 1) := by decide +kernel
theorem dX11_bribes_30 : decode cX11_bribes 30 = .ok (.iconst 1, 1) := by decide +kernel
theorem dX11_bribes_31 : decode cX11_bribes 31 = .ok (.iload_n 2, 1) := by decide +kernel
theorem dX11_bribes_32 : decode cX11_bribes 32 = .ok (.ishl, 1) := by decide +kernel
theorem dX11_bribes_33 : decode cX11_bribes 33 = .ok (.ior, 1) := by decide +kernel
theorem dX11_bribes_34 : decode cX11_bribes 34 = .ok (.istore_n 1, 1) := by decide +kernel
theorem dX11_bribes_35 : decode cX11_bribes 35 = .ok (.iinc 2 1, 3) := by decide +kernel
theorem dX11_bribes_38 : decode cX11_bribes 38 = .ok (.goto (-34), 3) := by decide +kernel
theorem dX11_bribes_41 : decode cX11_bribes 41 = .ok (.iload_n 1, 1) := by decide +kernel
theorem dX11_bribes_42 : decode cX11_bribes 42 = .ok (.ireturn, 1) := by decide +kernel
theorem dX11_kinds_0 : decode cX11_kinds 0 = .ok (.aload_n 0, 1) := by decide +kernel
theorem dX11_kinds_1 : decode cX11_kinds 1 = .ok (.getfield 24, 3) := by decide +kernel
theorem dX11_kinds_4 : decode cX11_kinds 4 = .ok (.iload_n 1, 1) := by decide +kernel
theorem dX11_kinds_5 : decode cX11_kinds 5 = .ok (.invokevirtual 113, 3) := by decide +kernel
theorem dX11_kinds_8 : decode cX11_kinds 8 = .ok (.ifCond .ne 6, 3) := by decide +kernel
theorem dX11_kinds_11 : decode cX11_kinds 11 = .ok (.bipush (-2), 2) := by decide +kernel
theorem dX11_kinds_13 : decode cX11_kinds 13 = .ok (.ireturn, 1) := by decide +kernel
theorem dX11_kinds_14 : decode cX11_kinds 14 = .ok (.aload_n 0, 1) := by decide +kernel
theorem dX11_kinds_15 : decode cX11_kinds 15 = .ok (.getfield 24, 3) := by decide +kernel
theorem dX11_kinds_18 : decode cX11_kinds 18 = .ok (.iload_n 1, 1) := by decide +kernel
theorem dX11_kinds_19 : decode cX11_kinds 19 = .ok (.iconst 0, 1) := by decide +kernel
theorem dX11_kinds_20 : decode cX11_kinds 20 = .ok (.invokevirtual 116, 3) := by decide +kernel
theorem dX11_kinds_23 : decode cX11_kinds 23 = .ok (.istore_n 2, 1) := by decide +kernel
theorem dX11_kinds_24 : decode cX11_kinds 24 = .ok (.iconst 0, 1) := by decide +kernel
theorem dX11_kinds_25 : decode cX11_kinds 25 = .ok (.istore_n 3, 1) := by decide +kernel
theorem dX11_kinds_26 : decode cX11_kinds 26 = .ok (.iconst 0, 1) := by decide +kernel
theorem dX11_kinds_27 : decode cX11_kinds 27 = .ok (.istore 4, 2) := by decide +kernel
theorem dX11_kinds_29 : decode cX11_kinds 29 = .ok (.iload 4, 2) := by decide +kernel
theorem dX11_kinds_31 : decode cX11_kinds 31 = .ok (.iconst 4, 1) := by decide +kernel
theorem dX11_kinds_32 : decode cX11_kinds 32 = .ok (.if_icmp .ge 51, 3) := by decide +kernel
theorem dX11_kinds_35 : decode cX11_kinds 35 = .ok (.aload_n 0, 1) := by decide +kernel
theorem dX11_kinds_36 : decode cX11_kinds 36 = .ok (.getfield 24, 3) := by decide +kernel
theorem dX11_kinds_39 : decode cX11_kinds 39 = .ok (.iload_n 1, 1) := by decide +kernel
theorem dX11_kinds_40 : decode cX11_kinds 40 = .ok (.iload 4, 2) := by decide +kernel
theorem dX11_kinds_42 : decode cX11_kinds 42 = .ok (.invokevirtual 232, 3) := by decide +kernel
theorem dX11_kinds_45 : decode cX11_kinds 45 = .ok (.aload_n 0, 1) := by decide +kernel
theorem dX11_kinds_46 : decode cX11_kinds 46 = .ok (.aload_n 0, 1) := by decide +kernel
theorem dX11_kinds_47 : decode cX11_kinds 47 = .ok (.getfield 38, 3) := by decide +kernel
theorem dX11_kinds_50 : decode cX11_kinds 50 = .ok (.getfield 201, 3) := by decide +kernel
theorem dX11_kinds_53 : decode cX11_kinds 53 = .ok (.invokevirtual 198, 3) := by decide +kernel
theorem dX11_kinds_56 : decode cX11_kinds 56 = .ok (.aload_n 0, 1) := by decide +kernel
theorem dX11_kinds_57 : decode cX11_kinds 57 = .ok (.getfield 62, 3) := by decide +kernel
theorem dX11_kinds_60 : decode cX11_kinds 60 = .ok (.aload_n 0, 1) := by decide +kernel
theorem dX11_kinds_61 : decode cX11_kinds 61 = .ok (.getfield 49, 3) := by decide +kernel
theorem dX11_kinds_64 : decode cX11_kinds 64 = .ok (.invokevirtual 228, 3) := by decide +kernel
theorem dX11_kinds_67 : decode cX11_kinds 67 = .ok (.ifCond .eq 10, 3) := by decide +kernel
theorem dX11_kinds_70 : decode cX11_kinds 70 = .ok (.iload_n 3, 1) := by decide +kernel
theorem dX11_kinds_71 : decode cX11_kinds 71 = .ok (.iconst 1, 1) := by decide +kernel
theorem dX11_kinds_72 : decode cX11_kinds 72 = .ok (.iload 4, 2) := by decide +kernel
theorem dX11_kinds_74 : decode cX11_kinds 74 = .ok (.ishl, 1) := by decide +kernel
theorem dX11_kinds_75 : decode cX11_kinds 75 = .ok (.ior, 1) := by decide +kernel
theorem dX11_kinds_76 : decode cX11_kinds 76 = .ok (.istore_n 3, 1) := by decide +kernel
theorem dX11_kinds_77 : decode cX11_kinds 77 = .ok (.iinc 4 1, 3) := by decide +kernel
theorem dX11_kinds_80 : decode cX11_kinds 80 = .ok (.goto (-51), 3) := by decide +kernel
theorem dX11_kinds_83 : decode cX11_kinds 83 = .ok (.aload_n 0, 1) := by decide +kernel
theorem dX11_kinds_84 : decode cX11_kinds 84 = .ok (.getfield 24, 3) := by decide +kernel
theorem dX11_kinds_87 : decode cX11_kinds 87 = .ok (.iload_n 1, 1) := by decide +kernel
theorem dX11_kinds_88 : decode cX11_kinds 88 = .ok (.iload_n 2, 1) := by decide +kernel
theorem dX11_kinds_89 : decode cX11_kinds 89 = .ok (.invokevirtual 232, 3) := by decide +kernel
theorem dX11_kinds_92 : decode cX11_kinds 92 = .ok (.iload_n 3, 1) := by decide +kernel
theorem dX11_kinds_93 : decode cX11_kinds 93 = .ok (.ireturn, 1) := by decide +kernel
theorem dX11_ask_0 : decode cX11_ask 0 = .ok (.aload_n 0, 1) := by decide +kernel
theorem dX11_ask_1 : decode cX11_ask 1 = .ok (.invokevirtual 235, 3) := by decide +kernel
theorem dX11_ask_4 : decode cX11_ask 4 = .ok (.iconst (-1), 1) := by decide +kernel
theorem dX11_ask_5 : decode cX11_ask 5 = .ok (.istore_n 1, 1) := by decide +kernel
theorem dX11_ask_6 : decode cX11_ask 6 = .ok (.bipush 11, 2) := by decide +kernel
theorem dX11_ask_8 : decode cX11_ask 8 = .ok (.istore_n 2, 1) := by decide +kernel
theorem dX11_ask_9 : decode cX11_ask 9 = .ok (.iconst 0, 1) := by decide +kernel
theorem dX11_ask_10 : decode cX11_ask 10 = .ok (.istore_n 3, 1) := by decide +kernel
theorem dX11_ask_11 : decode cX11_ask 11 = .ok (.iload_n 3, 1) := by decide +kernel
theorem dX11_ask_12 : decode cX11_ask 12 = .ok (.aload_n 0, 1) := by decide +kernel
theorem dX11_ask_13 : decode cX11_ask 13 = .ok (.getfield 24, 3) := by decide +kernel
theorem dX11_ask_16 : decode cX11_ask 16 = .ok (.getfield 238, 3) := by decide +kernel
theorem dX11_ask_19 : decode cX11_ask 19 = .ok (.if_icmp .ge 27, 3) := by decide +kernel
theorem dX11_ask_22 : decode cX11_ask 22 = .ok (.aload_n 0, 1) := by decide +kernel
theorem dX11_ask_23 : decode cX11_ask 23 = .ok (.iload_n 3, 1) := by decide +kernel
theorem dX11_ask_24 : decode cX11_ask 24 = .ok (.invokevirtual 239, 3) := by decide +kernel
theorem dX11_ask_27 : decode cX11_ask 27 = .ok (.istore 4, 2) := by decide +kernel
theorem dX11_ask_29 : decode cX11_ask 29 = .ok (.iload 4, 2) := by decide +kernel
theorem dX11_ask_31 : decode cX11_ask 31 = .ok (.iload_n 2, 1) := by decide +kernel
theorem dX11_ask_32 : decode cX11_ask 32 = .ok (.if_icmp .ge 8, 3) := by decide +kernel
theorem dX11_ask_35 : decode cX11_ask 35 = .ok (.iload 4, 2) := by decide +kernel
theorem dX11_ask_37 : decode cX11_ask 37 = .ok (.istore_n 2, 1) := by decide +kernel
theorem dX11_ask_38 : decode cX11_ask 38 = .ok (.iload_n 3, 1) := by decide +kernel
theorem dX11_ask_39 : decode cX11_ask 39 = .ok (.istore_n 1, 1) := by decide +kernel
theorem dX11_ask_40 : decode cX11_ask 40 = .ok (.iinc 3 1, 3) := by decide +kernel
theorem dX11_ask_43 : decode cX11_ask 43 = .ok (.goto (-32), 3) := by decide +kernel
theorem dX11_ask_46 : decode cX11_ask 46 = .ok (.iload_n 1, 1) := by decide +kernel
theorem dX11_ask_47 : decode cX11_ask 47 = .ok (.ireturn, 1) := by decide +kernel
theorem dX11_gaols_0 : decode cX11_gaols 0 = .ok (.iload_n 2, 1) := by decide +kernel
theorem dX11_gaols_1 : decode cX11_gaols 1 = .ok (.iconst 1, 1) := by decide +kernel
theorem dX11_gaols_2 : decode cX11_gaols 2 = .ok (.if_icmp .lt 16, 3) := by decide +kernel
theorem dX11_gaols_5 : decode cX11_gaols 5 = .ok (.iload_n 2, 1) := by decide +kernel
theorem dX11_gaols_6 : decode cX11_gaols 6 = .ok (.bipush 99, 2) := by decide +kernel
theorem dX11_gaols_8 : decode cX11_gaols 8 = .ok (.if_icmp .gt 10, 3) := by decide +kernel
theorem dX11_gaols_11 : decode cX11_gaols 11 = .ok (.iload_n 3, 1) := by decide +kernel
theorem dX11_gaols_12 : decode cX11_gaols 12 = .ok (.invokestatic 135, 3) := by decide +kernel
theorem dX11_gaols_15 : decode cX11_gaols 15 = .ok (.ifCond .ne 6, 3) := by decide +kernel
theorem dX11_gaols_18 : decode cX11_gaols 18 = .ok (.bipush (-2), 2) := by decide +kernel
theorem dX11_gaols_20 : decode cX11_gaols 20 = .ok (.ireturn, 1) := by decide +kernel
theorem dX11_gaols_21 : decode cX11_gaols 21 = .ok (.new 242, 3) := by decide +kernel
theorem dX11_gaols_24 : decode cX11_gaols 24 = .ok (.dup, 1) := by decide +kernel
theorem dX11_gaols_25 : decode cX11_gaols 25 = .ok (.iload_n 1, 1) := by decide +kernel
theorem dX11_gaols_26 : decode cX11_gaols 26 = .ok (.invokespecial 244, 3) := by decide +kernel
theorem dX11_gaols_29 : decode cX11_gaols 29 = .ok (.astore 4, 2) := by decide +kernel
theorem dX11_gaols_31 : decode cX11_gaols 31 = .ok (.iconst 0, 1) := by decide +kernel
theorem dX11_gaols_32 : decode cX11_gaols 32 = .ok (.istore 5, 2) := by decide +kernel
theorem dX11_gaols_34 : decode cX11_gaols 34 = .ok (.iconst 0, 1) := by decide +kernel
theorem dX11_gaols_35 : decode cX11_gaols 35 = .ok (.istore 6, 2) := by decide +kernel
theorem dX11_gaols_37 : decode cX11_gaols 37 = .ok (.iconst 0, 1) := by decide +kernel
theorem dX11_gaols_38 : decode cX11_gaols 38 = .ok (.istore 7, 2) := by decide +kernel
theorem dX11_gaols_40 : decode cX11_gaols 40 = .ok (.iload 7, 2) := by decide +kernel
theorem dX11_gaols_42 : decode cX11_gaols 42 = .ok (.iload_n 2, 1) := by decide +kernel
theorem dX11_gaols_43 : decode cX11_gaols 43 = .ok (.if_icmp .ge 60, 3) := by decide +kernel
theorem dX11_gaols_46 : decode cX11_gaols 46 = .ok (.aload_n 0, 1) := by decide +kernel
theorem dX11_gaols_47 : decode cX11_gaols 47 = .ok (.getfield 45, 3) := by decide +kernel
theorem dX11_gaols_50 : decode cX11_gaols 50 = .ok (.aload 4, 2) := by decide +kernel
theorem dX11_gaols_52 : decode cX11_gaols 52 = .ok (.invokevirtual 245, 3) := by decide +kernel
theorem dX11_gaols_55 : decode cX11_gaols 55 = .ok (.istore 8, 2) := by decide +kernel
theorem dX11_gaols_57 : decode cX11_gaols 57 = .ok (.iload 6, 2) := by decide +kernel
theorem dX11_gaols_59 : decode cX11_gaols 59 = .ok (.aload_n 0, 1) := by decide +kernel
theorem dX11_gaols_60 : decode cX11_gaols 60 = .ok (.getfield 45, 3) := by decide +kernel
theorem dX11_gaols_63 : decode cX11_gaols 63 = .ok (.getfield 249, 3) := by decide +kernel
theorem dX11_gaols_66 : decode cX11_gaols 66 = .ok (.iload 8, 2) := by decide +kernel
theorem dX11_gaols_68 : decode cX11_gaols 68 = .ok (.iaload, 1) := by decide +kernel
theorem dX11_gaols_69 : decode cX11_gaols 69 = .ok (.iadd, 1) := by decide +kernel
theorem dX11_gaols_70 : decode cX11_gaols 70 = .ok (.istore 6, 2) := by decide +kernel
theorem dX11_gaols_72 : decode cX11_gaols 72 = .ok (.iload 8, 2) := by decide +kernel
theorem dX11_gaols_74 : decode cX11_gaols 74 = .ok (.aload_n 0, 1) := by decide +kernel
theorem dX11_gaols_75 : decode cX11_gaols 75 = .ok (.getfield 45, 3) := by decide +kernel
theorem dX11_gaols_78 : decode cX11_gaols 78 = .ok (.getfield 252, 3) := by decide +kernel
theorem dX11_gaols_81 : decode cX11_gaols 81 = .ok (.if_icmp .ne 16, 3) := by decide +kernel
theorem dX11_gaols_84 : decode cX11_gaols 84 = .ok (.aload_n 0, 1) := by decide +kernel
theorem dX11_gaols_85 : decode cX11_gaols 85 = .ok (.getfield 45, 3) := by decide +kernel
theorem dX11_gaols_88 : decode cX11_gaols 88 = .ok (.invokevirtual 253, 3) := by decide +kernel
theorem dX11_gaols_91 : decode cX11_gaols 91 = .ok (.ifCond .eq 6, 3) := by decide +kernel
theorem dX11_gaols_94 : decode cX11_gaols 94 = .ok (.iinc 5 1, 3) := by decide +kernel
theorem dX11_gaols_97 : decode cX11_gaols 97 = .ok (.iinc 7 1, 3) := by decide +kernel
theorem dX11_gaols_100 : decode cX11_gaols 100 = .ok (.goto (-60), 3) := by decide +kernel
theorem dX11_gaols_103 : decode cX11_gaols 103 = .ok (.iload_n 3, 1) := by decide +kernel
theorem dX11_gaols_104 : decode cX11_gaols 104 = .ok (.ifCond .ne 8, 3) := by decide +kernel
theorem dX11_gaols_107 : decode cX11_gaols 107 = .ok (.iload 5, 2) := by decide +kernel
theorem dX11_gaols_109 : decode cX11_gaols 109 = .ok (.goto 5, 3) := by decide +kernel
theorem dX11_gaols_112 : decode cX11_gaols 112 = .ok (.iload 6, 2) := by decide +kernel
theorem dX11_gaols_114 : decode cX11_gaols 114 = .ok (.ireturn, 1) := by decide +kernel
theorem dX11_sheet_0 : decode cX11_sheet 0 = .ok (.iload_n 1, 1) := by decide +kernel
theorem dX11_sheet_1 : decode cX11_sheet 1 = .ok (.invokestatic 216, 3) := by decide +kernel
theorem dX11_sheet_4 : decode cX11_sheet 4 = .ok (.ifCond .eq 16, 3) := by decide +kernel
theorem dX11_sheet_7 : decode cX11_sheet 7 = .ok (.iload_n 2, 1) := by decide +kernel
theorem dX11_sheet_8 : decode cX11_sheet 8 = .ok (.invokestatic 256, 3) := by decide +kernel
theorem dX11_sheet_11 : decode cX11_sheet 11 = .ok (.ifCond .eq 9, 3) := by decide +kernel
theorem dX11_sheet_14 : decode cX11_sheet 14 = .ok (.iload_n 3, 1) := by decide +kernel
theorem dX11_sheet_15 : decode cX11_sheet 15 = .ok (.bipush 60, 2) := by decide +kernel
theorem dX11_sheet_17 : decode cX11_sheet 17 = .ok (.if_icmp .le 6, 3) := by decide +kernel
theorem dX11_sheet_20 : decode cX11_sheet 20 = .ok (.bipush (-2), 2) := by decide +kernel
theorem dX11_sheet_22 : decode cX11_sheet 22 = .ok (.ireturn, 1) := by decide +kernel
theorem dX11_sheet_23 : decode cX11_sheet 23 = .ok (.iload_n 3, 1) := by decide +kernel
theorem dX11_sheet_24 : decode cX11_sheet 24 = .ok (.ifCond .ge 9, 3) := by decide +kernel
theorem dX11_sheet_27 : decode cX11_sheet 27 = .ok (.aload_n 0, 1) := by decide +kernel
theorem dX11_sheet_28 : decode cX11_sheet 28 = .ok (.iconst 5, 1) := by decide +kernel
theorem dX11_sheet_29 : decode cX11_sheet 29 = .ok (.invokevirtual 223, 3) := by decide +kernel
theorem dX11_sheet_32 : decode cX11_sheet 32 = .ok (.ireturn, 1) := by decide +kernel
theorem dX11_sheet_33 : decode cX11_sheet 33 = .ok (.aload_n 0, 1) := by decide +kernel
theorem dX11_sheet_34 : decode cX11_sheet 34 = .ok (.getfield 68, 3) := by decide +kernel
theorem dX11_sheet_37 : decode cX11_sheet 37 = .ok (.iload_n 1, 1) := by decide +kernel
theorem dX11_sheet_38 : decode cX11_sheet 38 = .ok (.aaload, 1) := by decide +kernel
theorem dX11_sheet_39 : decode cX11_sheet 39 = .ok (.iload_n 2, 1) := by decide +kernel
theorem dX11_sheet_40 : decode cX11_sheet 40 = .ok (.iload_n 3, 1) := by decide +kernel
theorem dX11_sheet_41 : decode cX11_sheet 41 = .ok (.invokevirtual 259, 3) := by decide +kernel
theorem dX11_sheet_44 : decode cX11_sheet 44 = .ok (.iload_n 3, 1) := by decide +kernel
theorem dX11_sheet_45 : decode cX11_sheet 45 = .ok (.ireturn, 1) := by decide +kernel
theorem dX11_lose_0 : decode cX11_lose 0 = .ok (.iload_n 1, 1) := by decide +kernel
theorem dX11_lose_1 : decode cX11_lose 1 = .ok (.invokestatic 216, 3) := by decide +kernel
theorem dX11_lose_4 : decode cX11_lose 4 = .ok (.ifCond .ne 6, 3) := by decide +kernel
theorem dX11_lose_7 : decode cX11_lose 7 = .ok (.bipush (-2), 2) := by decide +kernel
theorem dX11_lose_9 : decode cX11_lose 9 = .ok (.ireturn, 1) := by decide +kernel
theorem dX11_lose_10 : decode cX11_lose 10 = .ok (.aload_n 0, 1) := by decide +kernel
theorem dX11_lose_11 : decode cX11_lose 11 = .ok (.getfield 68, 3) := by decide +kernel
theorem dX11_lose_14 : decode cX11_lose 14 = .ok (.iload_n 1, 1) := by decide +kernel
theorem dX11_lose_15 : decode cX11_lose 15 = .ok (.aaload, 1) := by decide +kernel
theorem dX11_lose_16 : decode cX11_lose 16 = .ok (.getfield 219, 3) := by decide +kernel
theorem dX11_lose_19 : decode cX11_lose 19 = .ok (.ifCond .eq 9, 3) := by decide +kernel
theorem dX11_lose_22 : decode cX11_lose 22 = .ok (.aload_n 0, 1) := by decide +kernel
theorem dX11_lose_23 : decode cX11_lose 23 = .ok (.iconst 1, 1) := by decide +kernel
theorem dX11_lose_24 : decode cX11_lose 24 = .ok (.invokevirtual 223, 3) := by decide +kernel
theorem dX11_lose_27 : decode cX11_lose 27 = .ok (.ireturn, 1) := by decide +kernel
theorem dX11_lose_28 : decode cX11_lose 28 = .ok (.aload_n 0, 1) := by decide +kernel
theorem dX11_lose_29 : decode cX11_lose 29 = .ok (.getfield 68, 3) := by decide +kernel
theorem dX11_lose_32 : decode cX11_lose 32 = .ok (.iload_n 1, 1) := by decide +kernel
theorem dX11_lose_33 : decode cX11_lose 33 = .ok (.aaload, 1) := by decide +kernel
theorem dX11_lose_34 : decode cX11_lose 34 = .ok (.iconst 1, 1) := by decide +kernel
theorem dX11_lose_35 : decode cX11_lose 35 = .ok (.putfield 219, 3) := by decide +kernel
theorem dX11_lose_38 : decode cX11_lose 38 = .ok (.aload_n 0, 1) := by decide +kernel
theorem dX11_lose_39 : decode cX11_lose 39 = .ok (.getfield 68, 3) := by decide +kernel
theorem dX11_lose_42 : decode cX11_lose 42 = .ok (.iload_n 1, 1) := by decide +kernel
theorem dX11_lose_43 : decode cX11_lose 43 = .ok (.aaload, 1) := by decide +kernel
theorem dX11_lose_44 : decode cX11_lose 44 = .ok (.getfield 226, 3) := by decide +kernel
theorem dX11_lose_47 : decode cX11_lose 47 = .ok (.ireturn, 1) := by decide +kernel
theorem dX11_lay_0 : decode cX11_lay 0 = .ok (.iload_n 1, 1) := by decide +kernel
theorem dX11_lay_1 : decode cX11_lay 1 = .ok (.invokestatic 216, 3) := by decide +kernel
theorem dX11_lay_4 : decode cX11_lay 4 = .ok (.ifCond .eq 10, 3) := by decide +kernel
theorem dX11_lay_7 : decode cX11_lay 7 = .ok (.iload_n 2, 1) := by decide +kernel
theorem dX11_lay_8 : decode cX11_lay 8 = .ok (.invokestatic 256, 3) := by decide +kernel
theorem dX11_lay_11 : decode cX11_lay 11 = .ok (.ifCond .ne 6, 3) := by decide +kernel
theorem dX11_lay_14 : decode cX11_lay 14 = .ok (.bipush (-2), 2) := by decide +kernel
theorem dX11_lay_16 : decode cX11_lay 16 = .ok (.ireturn, 1) := by decide +kernel
theorem dX11_lay_17 : decode cX11_lay 17 = .ok (.aload_n 0, 1) := by decide +kernel
theorem dX11_lay_18 : decode cX11_lay 18 = .ok (.getfield 68, 3) := by decide +kernel
theorem dX11_lay_21 : decode cX11_lay 21 = .ok (.iload_n 1, 1) := by decide +kernel
theorem dX11_lay_22 : decode cX11_lay 22 = .ok (.aaload, 1) := by decide +kernel
theorem dX11_lay_23 : decode cX11_lay 23 = .ok (.iload_n 2, 1) := by decide +kernel
theorem dX11_lay_24 : decode cX11_lay 24 = .ok (.iload_n 3, 1) := by decide +kernel
theorem dX11_lay_25 : decode cX11_lay 25 = .ok (.invokevirtual 262, 3) := by decide +kernel
theorem dX11_lay_28 : decode cX11_lay 28 = .ok (.istore 5, 2) := by decide +kernel
theorem dX11_lay_30 : decode cX11_lay 30 = .ok (.iload 5, 2) := by decide +kernel
theorem dX11_lay_32 : decode cX11_lay 32 = .ok (.ifCond .eq 10, 3) := by decide +kernel
theorem dX11_lay_35 : decode cX11_lay 35 = .ok (.aload_n 0, 1) := by decide +kernel
theorem dX11_lay_36 : decode cX11_lay 36 = .ok (.iload 5, 2) := by decide +kernel
theorem dX11_lay_38 : decode cX11_lay 38 = .ok (.invokevirtual 223, 3) := by decide +kernel
theorem dX11_lay_41 : decode cX11_lay 41 = .ok (.ireturn, 1) := by decide +kernel
theorem dX11_lay_42 : decode cX11_lay 42 = .ok (.aload_n 0, 1) := by decide +kernel
theorem dX11_lay_43 : decode cX11_lay 43 = .ok (.getfield 68, 3) := by decide +kernel
theorem dX11_lay_46 : decode cX11_lay 46 = .ok (.iload_n 1, 1) := by decide +kernel
theorem dX11_lay_47 : decode cX11_lay 47 = .ok (.aaload, 1) := by decide +kernel
theorem dX11_lay_48 : decode cX11_lay 48 = .ok (.iload_n 3, 1) := by decide +kernel
theorem dX11_lay_49 : decode cX11_lay 49 = .ok (.iload 4, 2) := by decide +kernel
theorem dX11_lay_51 : decode cX11_lay 51 = .ok (.invokevirtual 265, 3) := by decide +kernel
theorem dX11_lay_54 : decode cX11_lay 54 = .ok (.iconst 1, 1) := by decide +kernel
theorem dX11_lay_55 : decode cX11_lay 55 = .ok (.ireturn, 1) := by decide +kernel
theorem dX11_get_0 : decode cX11_get 0 = .ok (.iload_n 1, 1) := by decide +kernel
theorem dX11_get_1 : decode cX11_get 1 = .ok (.invokestatic 216, 3) := by decide +kernel
theorem dX11_get_4 : decode cX11_get 4 = .ok (.ifCond .eq 10, 3) := by decide +kernel
theorem dX11_get_7 : decode cX11_get 7 = .ok (.iload_n 2, 1) := by decide +kernel
theorem dX11_get_8 : decode cX11_get 8 = .ok (.invokestatic 256, 3) := by decide +kernel
theorem dX11_get_11 : decode cX11_get 11 = .ok (.ifCond .ne 7, 3) := by decide +kernel
theorem dX11_get_14 : decode cX11_get 14 = .ok (.ldc_w 268, 3) := by decide +kernel
theorem dX11_get_17 : decode cX11_get 17 = .ok (.ireturn, 1) := by decide +kernel
theorem dX11_get_18 : decode cX11_get 18 = .ok (.aload_n 0, 1) := by decide +kernel
theorem dX11_get_19 : decode cX11_get 19 = .ok (.getfield 68, 3) := by decide +kernel
end
section
theorem dX11_get_22 : decode cX11_get 22 = .ok (.iload_n 1, 1) := by decide +kernel
theorem dX11_get_23 : decode cX11_get 23 = .ok (.aaload, 1) := by decide +kernel
theorem dX11_get_24 : decode cX11_get 24 = .ok (.iload_n 2, 1) := by decide +kernel
theorem dX11_get_25 : decode cX11_get 25 = .ok (.iload_n 3, 1) := by decide +kernel
theorem dX11_get_26 : decode cX11_get 26 = .ok (.invokevirtual 262, 3) := by decide +kernel
theorem dX11_get_29 : decode cX11_get 29 = .ok (.istore 4, 2) := by decide +kernel
theorem dX11_get_31 : decode cX11_get 31 = .ok (.iload 4, 2) := by decide +kernel
theorem dX11_get_33 : decode cX11_get 33 = .ok (.ifCond .eq 13, 3) := by decide +kernel
theorem dX11_get_36 : decode cX11_get 36 = .ok (.aload_n 0, 1) := by decide +kernel
theorem dX11_get_37 : decode cX11_get 37 = .ok (.iload 4, 2) := by decide +kernel
theorem dX11_get_39 : decode cX11_get 39 = .ok (.putfield 269, 3) := by decide +kernel
theorem dX11_get_42 : decode cX11_get 42 = .ok (.ldc_w 268, 3) := by decide +kernel
theorem dX11_get_45 : decode cX11_get 45 = .ok (.ireturn, 1) := by decide +kernel
theorem dX11_get_46 : decode cX11_get 46 = .ok (.aload_n 0, 1) := by decide +kernel
theorem dX11_get_47 : decode cX11_get 47 = .ok (.getfield 68, 3) := by decide +kernel
theorem dX11_get_50 : decode cX11_get 50 = .ok (.iload_n 1, 1) := by decide +kernel
theorem dX11_get_51 : decode cX11_get 51 = .ok (.aaload, 1) := by decide +kernel
theorem dX11_get_52 : decode cX11_get 52 = .ok (.getfield 227, 3) := by decide +kernel
theorem dX11_get_55 : decode cX11_get 55 = .ok (.iload_n 3, 1) := by decide +kernel
theorem dX11_get_56 : decode cX11_get 56 = .ok (.iaload, 1) := by decide +kernel
theorem dX11_get_57 : decode cX11_get 57 = .ok (.ireturn, 1) := by decide +kernel
theorem dX11_copy_0 : decode cX11_copy 0 = .ok (.iload_n 1, 1) := by decide +kernel
theorem dX11_copy_1 : decode cX11_copy 1 = .ok (.invokestatic 216, 3) := by decide +kernel
theorem dX11_copy_4 : decode cX11_copy 4 = .ok (.ifCond .eq 10, 3) := by decide +kernel
theorem dX11_copy_7 : decode cX11_copy 7 = .ok (.iload_n 3, 1) := by decide +kernel
theorem dX11_copy_8 : decode cX11_copy 8 = .ok (.invokestatic 216, 3) := by decide +kernel
theorem dX11_copy_11 : decode cX11_copy 11 = .ok (.ifCond .ne 6, 3) := by decide +kernel
theorem dX11_copy_14 : decode cX11_copy 14 = .ok (.bipush (-2), 2) := by decide +kernel
theorem dX11_copy_16 : decode cX11_copy 16 = .ok (.ireturn, 1) := by decide +kernel
theorem dX11_copy_17 : decode cX11_copy 17 = .ok (.aload_n 0, 1) := by decide +kernel
theorem dX11_copy_18 : decode cX11_copy 18 = .ok (.getfield 68, 3) := by decide +kernel
theorem dX11_copy_21 : decode cX11_copy 21 = .ok (.iload_n 1, 1) := by decide +kernel
theorem dX11_copy_22 : decode cX11_copy 22 = .ok (.aaload, 1) := by decide +kernel
theorem dX11_copy_23 : decode cX11_copy 23 = .ok (.astore 6, 2) := by decide +kernel
theorem dX11_copy_25 : decode cX11_copy 25 = .ok (.aload_n 0, 1) := by decide +kernel
theorem dX11_copy_26 : decode cX11_copy 26 = .ok (.getfield 68, 3) := by decide +kernel
theorem dX11_copy_29 : decode cX11_copy 29 = .ok (.iload_n 3, 1) := by decide +kernel
theorem dX11_copy_30 : decode cX11_copy 30 = .ok (.aaload, 1) := by decide +kernel
theorem dX11_copy_31 : decode cX11_copy 31 = .ok (.astore 7, 2) := by decide +kernel
theorem dX11_copy_33 : decode cX11_copy 33 = .ok (.aload 6, 2) := by decide +kernel
theorem dX11_copy_35 : decode cX11_copy 35 = .ok (.getfield 219, 3) := by decide +kernel
theorem dX11_copy_38 : decode cX11_copy 38 = .ok (.ifCond .ne 11, 3) := by decide +kernel
theorem dX11_copy_41 : decode cX11_copy 41 = .ok (.aload 7, 2) := by decide +kernel
theorem dX11_copy_43 : decode cX11_copy 43 = .ok (.getfield 219, 3) := by decide +kernel
theorem dX11_copy_46 : decode cX11_copy 46 = .ok (.ifCond .eq 9, 3) := by decide +kernel
theorem dX11_copy_49 : decode cX11_copy 49 = .ok (.aload_n 0, 1) := by decide +kernel
theorem dX11_copy_50 : decode cX11_copy 50 = .ok (.iconst 1, 1) := by decide +kernel
theorem dX11_copy_51 : decode cX11_copy 51 = .ok (.invokevirtual 223, 3) := by decide +kernel
theorem dX11_copy_54 : decode cX11_copy 54 = .ok (.ireturn, 1) := by decide +kernel
theorem dX11_copy_55 : decode cX11_copy 55 = .ok (.aload 6, 2) := by decide +kernel
theorem dX11_copy_57 : decode cX11_copy 57 = .ok (.getfield 272, 3) := by decide +kernel
theorem dX11_copy_60 : decode cX11_copy 60 = .ok (.aload 7, 2) := by decide +kernel
theorem dX11_copy_62 : decode cX11_copy 62 = .ok (.getfield 272, 3) := by decide +kernel
theorem dX11_copy_65 : decode cX11_copy 65 = .ok (.if_icmp .eq 9, 3) := by decide +kernel
theorem dX11_copy_68 : decode cX11_copy 68 = .ok (.aload_n 0, 1) := by decide +kernel
theorem dX11_copy_69 : decode cX11_copy 69 = .ok (.iconst 4, 1) := by decide +kernel
theorem dX11_copy_70 : decode cX11_copy 70 = .ok (.invokevirtual 223, 3) := by decide +kernel
theorem dX11_copy_73 : decode cX11_copy 73 = .ok (.ireturn, 1) := by decide +kernel
theorem dX11_copy_74 : decode cX11_copy 74 = .ok (.aload 6, 2) := by decide +kernel
theorem dX11_copy_76 : decode cX11_copy 76 = .ok (.iload_n 2, 1) := by decide +kernel
theorem dX11_copy_77 : decode cX11_copy 77 = .ok (.iload 5, 2) := by decide +kernel
theorem dX11_copy_79 : decode cX11_copy 79 = .ok (.invokevirtual 275, 3) := by decide +kernel
theorem dX11_copy_82 : decode cX11_copy 82 = .ok (.ifCond .eq 15, 3) := by decide +kernel
theorem dX11_copy_85 : decode cX11_copy 85 = .ok (.aload 7, 2) := by decide +kernel
theorem dX11_copy_87 : decode cX11_copy 87 = .ok (.iload 4, 2) := by decide +kernel
theorem dX11_copy_89 : decode cX11_copy 89 = .ok (.iload 5, 2) := by decide +kernel
theorem dX11_copy_91 : decode cX11_copy 91 = .ok (.invokevirtual 275, 3) := by decide +kernel
theorem dX11_copy_94 : decode cX11_copy 94 = .ok (.ifCond .ne 9, 3) := by decide +kernel
theorem dX11_copy_97 : decode cX11_copy 97 = .ok (.aload_n 0, 1) := by decide +kernel
theorem dX11_copy_98 : decode cX11_copy 98 = .ok (.iconst 2, 1) := by decide +kernel
theorem dX11_copy_99 : decode cX11_copy 99 = .ok (.invokevirtual 223, 3) := by decide +kernel
theorem dX11_copy_102 : decode cX11_copy 102 = .ok (.ireturn, 1) := by decide +kernel
theorem dX11_copy_103 : decode cX11_copy 103 = .ok (.aload 6, 2) := by decide +kernel
theorem dX11_copy_105 : decode cX11_copy 105 = .ok (.getfield 227, 3) := by decide +kernel
theorem dX11_copy_108 : decode cX11_copy 108 = .ok (.iload_n 2, 1) := by decide +kernel
theorem dX11_copy_109 : decode cX11_copy 109 = .ok (.aload 7, 2) := by decide +kernel
theorem dX11_copy_111 : decode cX11_copy 111 = .ok (.getfield 227, 3) := by decide +kernel
theorem dX11_copy_114 : decode cX11_copy 114 = .ok (.iload 4, 2) := by decide +kernel
theorem dX11_copy_116 : decode cX11_copy 116 = .ok (.iload 5, 2) := by decide +kernel
theorem dX11_copy_118 : decode cX11_copy 118 = .ok (.invokestatic 278, 3) := by decide +kernel
theorem dX11_copy_121 : decode cX11_copy 121 = .ok (.iconst 1, 1) := by decide +kernel
theorem dX11_copy_122 : decode cX11_copy 122 = .ok (.ireturn, 1) := by decide +kernel
theorem dX11_write_0 : decode cX11_write 0 = .ok (.iload_n 1, 1) := by decide +kernel
theorem dX11_write_1 : decode cX11_write 1 = .ok (.invokestatic 216, 3) := by decide +kernel
theorem dX11_write_4 : decode cX11_write 4 = .ok (.ifCond .ne 6, 3) := by decide +kernel
theorem dX11_write_7 : decode cX11_write 7 = .ok (.bipush (-2), 2) := by decide +kernel
theorem dX11_write_9 : decode cX11_write 9 = .ok (.ireturn, 1) := by decide +kernel
theorem dX11_write_10 : decode cX11_write 10 = .ok (.aload_n 0, 1) := by decide +kernel
theorem dX11_write_11 : decode cX11_write 11 = .ok (.getfield 68, 3) := by decide +kernel
theorem dX11_write_14 : decode cX11_write 14 = .ok (.iload_n 1, 1) := by decide +kernel
theorem dX11_write_15 : decode cX11_write 15 = .ok (.aaload, 1) := by decide +kernel
theorem dX11_write_16 : decode cX11_write 16 = .ok (.astore_n 2, 1) := by decide +kernel
theorem dX11_write_17 : decode cX11_write 17 = .ok (.aload_n 2, 1) := by decide +kernel
theorem dX11_write_18 : decode cX11_write 18 = .ok (.getfield 219, 3) := by decide +kernel
theorem dX11_write_21 : decode cX11_write 21 = .ok (.ifCond .eq 9, 3) := by decide +kernel
theorem dX11_write_24 : decode cX11_write 24 = .ok (.aload_n 0, 1) := by decide +kernel
theorem dX11_write_25 : decode cX11_write 25 = .ok (.iconst 1, 1) := by decide +kernel
theorem dX11_write_26 : decode cX11_write 26 = .ok (.invokevirtual 223, 3) := by decide +kernel
theorem dX11_write_29 : decode cX11_write 29 = .ok (.ireturn, 1) := by decide +kernel
theorem dX11_write_30 : decode cX11_write 30 = .ok (.aload_n 2, 1) := by decide +kernel
theorem dX11_write_31 : decode cX11_write 31 = .ok (.getfield 226, 3) := by decide +kernel
theorem dX11_write_34 : decode cX11_write 34 = .ok (.aload_n 0, 1) := by decide +kernel
theorem dX11_write_35 : decode cX11_write 35 = .ok (.getfield 31, 3) := by decide +kernel
theorem dX11_write_38 : decode cX11_write 38 = .ok (.getfield 134, 3) := by decide +kernel
theorem dX11_write_41 : decode cX11_write 41 = .ok (.invokestatic 284, 3) := by decide +kernel
theorem dX11_write_44 : decode cX11_write 44 = .ok (.istore_n 3, 1) := by decide +kernel
theorem dX11_write_45 : decode cX11_write 45 = .ok (.iconst 0, 1) := by decide +kernel
theorem dX11_write_46 : decode cX11_write 46 = .ok (.istore 4, 2) := by decide +kernel
theorem dX11_write_48 : decode cX11_write 48 = .ok (.iload 4, 2) := by decide +kernel
theorem dX11_write_50 : decode cX11_write 50 = .ok (.iload_n 3, 1) := by decide +kernel
theorem dX11_write_51 : decode cX11_write 51 = .ok (.if_icmp .ge 25, 3) := by decide +kernel
theorem dX11_write_54 : decode cX11_write 54 = .ok (.aload_n 2, 1) := by decide +kernel
theorem dX11_write_55 : decode cX11_write 55 = .ok (.iload 4, 2) := by decide +kernel
theorem dX11_write_57 : decode cX11_write 57 = .ok (.aload_n 0, 1) := by decide +kernel
theorem dX11_write_58 : decode cX11_write 58 = .ok (.getfield 45, 3) := by decide +kernel
theorem dX11_write_61 : decode cX11_write 61 = .ok (.getfield 138, 3) := by decide +kernel
theorem dX11_write_64 : decode cX11_write 64 = .ok (.iload 4, 2) := by decide +kernel
theorem dX11_write_66 : decode cX11_write 66 = .ok (.iaload, 1) := by decide +kernel
theorem dX11_write_67 : decode cX11_write 67 = .ok (.invokevirtual 265, 3) := by decide +kernel
theorem dX11_write_70 : decode cX11_write 70 = .ok (.iinc 4 1, 3) := by decide +kernel
theorem dX11_write_73 : decode cX11_write 73 = .ok (.goto (-25), 3) := by decide +kernel
theorem dX11_write_76 : decode cX11_write 76 = .ok (.iload_n 3, 1) := by decide +kernel
theorem dX11_write_77 : decode cX11_write 77 = .ok (.ireturn, 1) := by decide +kernel
theorem dX11_count_0 : decode cX11_count 0 = .ok (.iload_n 1, 1) := by decide +kernel
theorem dX11_count_1 : decode cX11_count 1 = .ok (.tableswitch 135 0 8 #[51, 59, 67, 75, 83, 91, 107, 122, 130], 51) := by decide +kernel
theorem dX11_count_52 : decode cX11_count 52 = .ok (.aload_n 0, 1) := by decide +kernel
theorem dX11_count_53 : decode cX11_count 53 = .ok (.getfield 24, 3) := by decide +kernel
theorem dX11_count_56 : decode cX11_count 56 = .ok (.getfield 238, 3) := by decide +kernel
theorem dX11_count_59 : decode cX11_count 59 = .ok (.ireturn, 1) := by decide +kernel
theorem dX11_count_60 : decode cX11_count 60 = .ok (.aload_n 0, 1) := by decide +kernel
theorem dX11_count_61 : decode cX11_count 61 = .ok (.getfield 31, 3) := by decide +kernel
theorem dX11_count_64 : decode cX11_count 64 = .ok (.getfield 134, 3) := by decide +kernel
theorem dX11_count_67 : decode cX11_count 67 = .ok (.ireturn, 1) := by decide +kernel
theorem dX11_count_68 : decode cX11_count 68 = .ok (.aload_n 0, 1) := by decide +kernel
theorem dX11_count_69 : decode cX11_count 69 = .ok (.getfield 14, 3) := by decide +kernel
theorem dX11_count_72 : decode cX11_count 72 = .ok (.getfield 106, 3) := by decide +kernel
theorem dX11_count_75 : decode cX11_count 75 = .ok (.ireturn, 1) := by decide +kernel
theorem dX11_count_76 : decode cX11_count 76 = .ok (.aload_n 0, 1) := by decide +kernel
theorem dX11_count_77 : decode cX11_count 77 = .ok (.getfield 18, 3) := by decide +kernel
theorem dX11_count_80 : decode cX11_count 80 = .ok (.getfield 106, 3) := by decide +kernel
theorem dX11_count_83 : decode cX11_count 83 = .ok (.ireturn, 1) := by decide +kernel
theorem dX11_count_84 : decode cX11_count 84 = .ok (.aload_n 0, 1) := by decide +kernel
theorem dX11_count_85 : decode cX11_count 85 = .ok (.getfield 45, 3) := by decide +kernel
theorem dX11_count_88 : decode cX11_count 88 = .ok (.invokevirtual 289, 3) := by decide +kernel
theorem dX11_count_91 : decode cX11_count 91 = .ok (.ireturn, 1) := by decide +kernel
theorem dX11_count_92 : decode cX11_count 92 = .ok (.aload_n 0, 1) := by decide +kernel
theorem dX11_count_93 : decode cX11_count 93 = .ok (.getfield 45, 3) := by decide +kernel
theorem dX11_count_96 : decode cX11_count 96 = .ok (.getfield 149, 3) := by decide +kernel
theorem dX11_count_99 : decode cX11_count 99 = .ok (.aload_n 0, 1) := by decide +kernel
theorem dX11_count_100 : decode cX11_count 100 = .ok (.getfield 45, 3) := by decide +kernel
theorem dX11_count_103 : decode cX11_count 103 = .ok (.getfield 252, 3) := by decide +kernel
theorem dX11_count_106 : decode cX11_count 106 = .ok (.iaload, 1) := by decide +kernel
theorem dX11_count_107 : decode cX11_count 107 = .ok (.ireturn, 1) := by decide +kernel
theorem dX11_count_108 : decode cX11_count 108 = .ok (.aload_n 0, 1) := by decide +kernel
theorem dX11_count_109 : decode cX11_count 109 = .ok (.getfield 45, 3) := by decide +kernel
theorem dX11_count_112 : decode cX11_count 112 = .ok (.aload_n 0, 1) := by decide +kernel
theorem dX11_count_113 : decode cX11_count 113 = .ok (.getfield 24, 3) := by decide +kernel
theorem dX11_count_116 : decode cX11_count 116 = .ok (.getfield 238, 3) := by decide +kernel
theorem dX11_count_119 : decode cX11_count 119 = .ok (.invokevirtual 292, 3) := by decide +kernel
theorem dX11_count_122 : decode cX11_count 122 = .ok (.ireturn, 1) := by decide +kernel
theorem dX11_count_123 : decode cX11_count 123 = .ok (.aload_n 0, 1) := by decide +kernel
theorem dX11_count_124 : decode cX11_count 124 = .ok (.getfield 62, 3) := by decide +kernel
theorem dX11_count_127 : decode cX11_count 127 = .ok (.getfield 215, 3) := by decide +kernel
theorem dX11_count_130 : decode cX11_count 130 = .ok (.ireturn, 1) := by decide +kernel
theorem dX11_count_131 : decode cX11_count 131 = .ok (.aload_n 0, 1) := by decide +kernel
theorem dX11_count_132 : decode cX11_count 132 = .ok (.getfield 269, 3) := by decide +kernel
theorem dX11_count_135 : decode cX11_count 135 = .ok (.ireturn, 1) := by decide +kernel
theorem dX11_count_136 : decode cX11_count 136 = .ok (.bipush (-2), 2) := by decide +kernel
theorem dX11_count_138 : decode cX11_count 138 = .ok (.ireturn, 1) := by decide +kernel
theorem dX11_digest_0 : decode cX11_digest 0 = .ok (.ldc2_w 295, 3) := by decide +kernel
theorem dX11_digest_3 : decode cX11_digest 3 = .ok (.lstore_n 1, 1) := by decide +kernel
theorem dX11_digest_4 : decode cX11_digest 4 = .ok (.iconst 0, 1) := by decide +kernel
theorem dX11_digest_5 : decode cX11_digest 5 = .ok (.istore_n 3, 1) := by decide +kernel
theorem dX11_digest_6 : decode cX11_digest 6 = .ok (.iload_n 3, 1) := by decide +kernel
theorem dX11_digest_7 : decode cX11_digest 7 = .ok (.bipush 7, 2) := by decide +kernel
theorem dX11_digest_9 : decode cX11_digest 9 = .ok (.if_icmp .gt 22, 3) := by decide +kernel
theorem dX11_digest_12 : decode cX11_digest 12 = .ok (.ldc2_w 297, 3) := by decide +kernel
theorem dX11_digest_15 : decode cX11_digest 15 = .ok (.lload_n 1, 1) := by decide +kernel
theorem dX11_digest_16 : decode cX11_digest 16 = .ok (.lmul, 1) := by decide +kernel
theorem dX11_digest_17 : decode cX11_digest 17 = .ok (.aload_n 0, 1) := by decide +kernel
theorem dX11_digest_18 : decode cX11_digest 18 = .ok (.iload_n 3, 1) := by decide +kernel
theorem dX11_digest_19 : decode cX11_digest 19 = .ok (.invokevirtual 299, 3) := by decide +kernel
theorem dX11_digest_22 : decode cX11_digest 22 = .ok (.i2l, 1) := by decide +kernel
theorem dX11_digest_23 : decode cX11_digest 23 = .ok (.ladd, 1) := by decide +kernel
theorem dX11_digest_24 : decode cX11_digest 24 = .ok (.lstore_n 1, 1) := by decide +kernel
theorem dX11_digest_25 : decode cX11_digest 25 = .ok (.iinc 3 1, 3) := by decide +kernel
theorem dX11_digest_28 : decode cX11_digest 28 = .ok (.goto (-22), 3) := by decide +kernel
theorem dX11_digest_31 : decode cX11_digest 31 = .ok (.ldc2_w 297, 3) := by decide +kernel
theorem dX11_digest_34 : decode cX11_digest 34 = .ok (.lload_n 1, 1) := by decide +kernel
theorem dX11_digest_35 : decode cX11_digest 35 = .ok (.lmul, 1) := by decide +kernel
theorem dX11_digest_36 : decode cX11_digest 36 = .ok (.aload_n 0, 1) := by decide +kernel
theorem dX11_digest_37 : decode cX11_digest 37 = .ok (.iconst 0, 1) := by decide +kernel
theorem dX11_digest_38 : decode cX11_digest 38 = .ok (.invokevirtual 302, 3) := by decide +kernel
theorem dX11_digest_41 : decode cX11_digest 41 = .ok (.i2l, 1) := by decide +kernel
theorem dX11_digest_42 : decode cX11_digest 42 = .ok (.ladd, 1) := by decide +kernel
theorem dX11_digest_43 : decode cX11_digest 43 = .ok (.lstore_n 1, 1) := by decide +kernel
theorem dX11_digest_44 : decode cX11_digest 44 = .ok (.ldc2_w 297, 3) := by decide +kernel
theorem dX11_digest_47 : decode cX11_digest 47 = .ok (.lload_n 1, 1) := by decide +kernel
theorem dX11_digest_48 : decode cX11_digest 48 = .ok (.lmul, 1) := by decide +kernel
theorem dX11_digest_49 : decode cX11_digest 49 = .ok (.aload_n 0, 1) := by decide +kernel
theorem dX11_digest_50 : decode cX11_digest 50 = .ok (.iconst 1, 1) := by decide +kernel
theorem dX11_digest_51 : decode cX11_digest 51 = .ok (.invokevirtual 302, 3) := by decide +kernel
theorem dX11_digest_54 : decode cX11_digest 54 = .ok (.i2l, 1) := by decide +kernel
theorem dX11_digest_55 : decode cX11_digest 55 = .ok (.ladd, 1) := by decide +kernel
theorem dX11_digest_56 : decode cX11_digest 56 = .ok (.lstore_n 1, 1) := by decide +kernel
theorem dX11_digest_57 : decode cX11_digest 57 = .ok (.aload_n 0, 1) := by decide +kernel
theorem dX11_digest_58 : decode cX11_digest 58 = .ok (.aload_n 0, 1) := by decide +kernel
theorem dX11_digest_59 : decode cX11_digest 59 = .ok (.aload_n 0, 1) := by decide +kernel
theorem dX11_digest_60 : decode cX11_digest 60 = .ok (.lload_n 1, 1) := by decide +kernel
theorem dX11_digest_61 : decode cX11_digest 61 = .ok (.invokevirtual 305, 3) := by decide +kernel
theorem dX11_digest_64 : decode cX11_digest 64 = .ok (.invokevirtual 309, 3) := by decide +kernel
theorem dX11_digest_67 : decode cX11_digest 67 = .ok (.invokevirtual 312, 3) := by decide +kernel
theorem dX11_digest_70 : decode cX11_digest 70 = .ok (.lstore_n 1, 1) := by decide +kernel
theorem dX11_digest_71 : decode cX11_digest 71 = .ok (.ldc2_w 297, 3) := by decide +kernel
theorem dX11_digest_74 : decode cX11_digest 74 = .ok (.lload_n 1, 1) := by decide +kernel
theorem dX11_digest_75 : decode cX11_digest 75 = .ok (.lmul, 1) := by decide +kernel
theorem dX11_digest_76 : decode cX11_digest 76 = .ok (.aload_n 0, 1) := by decide +kernel
theorem dX11_digest_77 : decode cX11_digest 77 = .ok (.invokevirtual 315, 3) := by decide +kernel
theorem dX11_digest_80 : decode cX11_digest 80 = .ok (.i2l, 1) := by decide +kernel
theorem dX11_digest_81 : decode cX11_digest 81 = .ok (.ladd, 1) := by decide +kernel
theorem dX11_digest_82 : decode cX11_digest 82 = .ok (.lstore_n 1, 1) := by decide +kernel
theorem dX11_digest_83 : decode cX11_digest 83 = .ok (.ldc2_w 297, 3) := by decide +kernel
theorem dX11_digest_86 : decode cX11_digest 86 = .ok (.lload_n 1, 1) := by decide +kernel
theorem dX11_digest_87 : decode cX11_digest 87 = .ok (.lmul, 1) := by decide +kernel
theorem dX11_digest_88 : decode cX11_digest 88 = .ok (.aload_n 0, 1) := by decide +kernel
theorem dX11_digest_89 : decode cX11_digest 89 = .ok (.invokevirtual 318, 3) := by decide +kernel
theorem dX11_digest_92 : decode cX11_digest 92 = .ok (.i2l, 1) := by decide +kernel
theorem dX11_digest_93 : decode cX11_digest 93 = .ok (.ladd, 1) := by decide +kernel
theorem dX11_digest_94 : decode cX11_digest 94 = .ok (.lstore_n 1, 1) := by decide +kernel
theorem dX11_digest_95 : decode cX11_digest 95 = .ok (.ldc2_w 297, 3) := by decide +kernel
theorem dX11_digest_98 : decode cX11_digest 98 = .ok (.lload_n 1, 1) := by decide +kernel
theorem dX11_digest_99 : decode cX11_digest 99 = .ok (.lmul, 1) := by decide +kernel
theorem dX11_digest_100 : decode cX11_digest 100 = .ok (.aload_n 0, 1) := by decide +kernel
theorem dX11_digest_101 : decode cX11_digest 101 = .ok (.bipush 7, 2) := by decide +kernel
theorem dX11_digest_103 : decode cX11_digest 103 = .ok (.bipush 30, 2) := by decide +kernel
theorem dX11_digest_105 : decode cX11_digest 105 = .ok (.iconst 0, 1) := by decide +kernel
theorem dX11_digest_106 : decode cX11_digest 106 = .ok (.invokevirtual 321, 3) := by decide +kernel
theorem dX11_digest_109 : decode cX11_digest 109 = .ok (.i2l, 1) := by decide +kernel
theorem dX11_digest_110 : decode cX11_digest 110 = .ok (.ladd, 1) := by decide +kernel
theorem dX11_digest_111 : decode cX11_digest 111 = .ok (.lstore_n 1, 1) := by decide +kernel
theorem dX11_digest_112 : decode cX11_digest 112 = .ok (.ldc2_w 297, 3) := by decide +kernel
theorem dX11_digest_115 : decode cX11_digest 115 = .ok (.lload_n 1, 1) := by decide +kernel
theorem dX11_digest_116 : decode cX11_digest 116 = .ok (.lmul, 1) := by decide +kernel
theorem dX11_digest_117 : decode cX11_digest 117 = .ok (.aload_n 0, 1) := by decide +kernel
theorem dX11_digest_118 : decode cX11_digest 118 = .ok (.bipush 7, 2) := by decide +kernel
theorem dX11_digest_120 : decode cX11_digest 120 = .ok (.bipush 30, 2) := by decide +kernel
theorem dX11_digest_122 : decode cX11_digest 122 = .ok (.iconst 1, 1) := by decide +kernel
theorem dX11_digest_123 : decode cX11_digest 123 = .ok (.invokevirtual 321, 3) := by decide +kernel
theorem dX11_digest_126 : decode cX11_digest 126 = .ok (.i2l, 1) := by decide +kernel
theorem dX11_digest_127 : decode cX11_digest 127 = .ok (.ladd, 1) := by decide +kernel
theorem dX11_digest_128 : decode cX11_digest 128 = .ok (.lreturn, 1) := by decide +kernel
theorem dX11_digestOfFelons_0 : decode cX11_digestOfFelons 0 = .ok (.lload_n 1, 1) := by decide +kernel
theorem dX11_digestOfFelons_1 : decode cX11_digestOfFelons 1 = .ok (.lstore_n 3, 1) := by decide +kernel
theorem dX11_digestOfFelons_2 : decode cX11_digestOfFelons 2 = .ok (.iconst 0, 1) := by decide +kernel
theorem dX11_digestOfFelons_3 : decode cX11_digestOfFelons 3 = .ok (.istore 5, 2) := by decide +kernel
theorem dX11_digestOfFelons_5 : decode cX11_digestOfFelons 5 = .ok (.iload 5, 2) := by decide +kernel
theorem dX11_digestOfFelons_7 : decode cX11_digestOfFelons 7 = .ok (.aload_n 0, 1) := by decide +kernel
theorem dX11_digestOfFelons_8 : decode cX11_digestOfFelons 8 = .ok (.getfield 24, 3) := by decide +kernel
theorem dX11_digestOfFelons_11 : decode cX11_digestOfFelons 11 = .ok (.getfield 238, 3) := by decide +kernel
theorem dX11_digestOfFelons_14 : decode cX11_digestOfFelons 14 = .ok (.if_icmp .ge 82, 3) := by decide +kernel
theorem dX11_digestOfFelons_17 : decode cX11_digestOfFelons 17 = .ok (.iconst 0, 1) := by decide +kernel
theorem dX11_digestOfFelons_18 : decode cX11_digestOfFelons 18 = .ok (.istore 6, 2) := by decide +kernel
theorem dX11_digestOfFelons_20 : decode cX11_digestOfFelons 20 = .ok (.iload 6, 2) := by decide +kernel
theorem dX11_digestOfFelons_22 : decode cX11_digestOfFelons 22 = .ok (.iconst 4, 1) := by decide +kernel
theorem dX11_digestOfFelons_23 : decode cX11_digestOfFelons 23 = .ok (.if_icmp .gt 25, 3) := by decide +kernel
theorem dX11_digestOfFelons_26 : decode cX11_digestOfFelons 26 = .ok (.ldc2_w 297, 3) := by decide +kernel
theorem dX11_digestOfFelons_29 : decode cX11_digestOfFelons 29 = .ok (.lload_n 3, 1) := by decide +kernel
theorem dX11_digestOfFelons_30 : decode cX11_digestOfFelons 30 = .ok (.lmul, 1) := by decide +kernel
theorem dX11_digestOfFelons_31 : decode cX11_digestOfFelons 31 = .ok (.aload_n 0, 1) := by decide +kernel
theorem dX11_digestOfFelons_32 : decode cX11_digestOfFelons 32 = .ok (.iload 5, 2) := by decide +kernel
theorem dX11_digestOfFelons_34 : decode cX11_digestOfFelons 34 = .ok (.iload 6, 2) := by decide +kernel
theorem dX11_digestOfFelons_36 : decode cX11_digestOfFelons 36 = .ok (.invokevirtual 325, 3) := by decide +kernel
theorem dX11_digestOfFelons_39 : decode cX11_digestOfFelons 39 = .ok (.i2l, 1) := by decide +kernel
theorem dX11_digestOfFelons_40 : decode cX11_digestOfFelons 40 = .ok (.ladd, 1) := by decide +kernel
theorem dX11_digestOfFelons_41 : decode cX11_digestOfFelons 41 = .ok (.lstore_n 3, 1) := by decide +kernel
theorem dX11_digestOfFelons_42 : decode cX11_digestOfFelons 42 = .ok (.iinc 6 1, 3) := by decide +kernel
theorem dX11_digestOfFelons_45 : decode cX11_digestOfFelons 45 = .ok (.goto (-25), 3) := by decide +kernel
theorem dX11_digestOfFelons_48 : decode cX11_digestOfFelons 48 = .ok (.ldc2_w 297, 3) := by decide +kernel
theorem dX11_digestOfFelons_51 : decode cX11_digestOfFelons 51 = .ok (.lload_n 3, 1) := by decide +kernel
theorem dX11_digestOfFelons_52 : decode cX11_digestOfFelons 52 = .ok (.lmul, 1) := by decide +kernel
theorem dX11_digestOfFelons_53 : decode cX11_digestOfFelons 53 = .ok (.aload_n 0, 1) := by decide +kernel
theorem dX11_digestOfFelons_54 : decode cX11_digestOfFelons 54 = .ok (.iload 5, 2) := by decide +kernel
theorem dX11_digestOfFelons_56 : decode cX11_digestOfFelons 56 = .ok (.invokevirtual 328, 3) := by decide +kernel
theorem dX11_digestOfFelons_59 : decode cX11_digestOfFelons 59 = .ok (.i2l, 1) := by decide +kernel
theorem dX11_digestOfFelons_60 : decode cX11_digestOfFelons 60 = .ok (.ladd, 1) := by decide +kernel
theorem dX11_digestOfFelons_61 : decode cX11_digestOfFelons 61 = .ok (.lstore_n 3, 1) := by decide +kernel
theorem dX11_digestOfFelons_62 : decode cX11_digestOfFelons 62 = .ok (.ldc2_w 297, 3) := by decide +kernel
theorem dX11_digestOfFelons_65 : decode cX11_digestOfFelons 65 = .ok (.lload_n 3, 1) := by decide +kernel
theorem dX11_digestOfFelons_66 : decode cX11_digestOfFelons 66 = .ok (.lmul, 1) := by decide +kernel
theorem dX11_digestOfFelons_67 : decode cX11_digestOfFelons 67 = .ok (.aload_n 0, 1) := by decide +kernel
theorem dX11_digestOfFelons_68 : decode cX11_digestOfFelons 68 = .ok (.iload 5, 2) := by decide +kernel
theorem dX11_digestOfFelons_70 : decode cX11_digestOfFelons 70 = .ok (.invokevirtual 331, 3) := by decide +kernel
theorem dX11_digestOfFelons_73 : decode cX11_digestOfFelons 73 = .ok (.i2l, 1) := by decide +kernel
theorem dX11_digestOfFelons_74 : decode cX11_digestOfFelons 74 = .ok (.ladd, 1) := by decide +kernel
theorem dX11_digestOfFelons_75 : decode cX11_digestOfFelons 75 = .ok (.lstore_n 3, 1) := by decide +kernel
theorem dX11_digestOfFelons_76 : decode cX11_digestOfFelons 76 = .ok (.ldc2_w 297, 3) := by decide +kernel
theorem dX11_digestOfFelons_79 : decode cX11_digestOfFelons 79 = .ok (.lload_n 3, 1) := by decide +kernel
theorem dX11_digestOfFelons_80 : decode cX11_digestOfFelons 80 = .ok (.lmul, 1) := by decide +kernel
theorem dX11_digestOfFelons_81 : decode cX11_digestOfFelons 81 = .ok (.aload_n 0, 1) := by decide +kernel
theorem dX11_digestOfFelons_82 : decode cX11_digestOfFelons 82 = .ok (.iload 5, 2) := by decide +kernel
theorem dX11_digestOfFelons_84 : decode cX11_digestOfFelons 84 = .ok (.invokevirtual 334, 3) := by decide +kernel
theorem dX11_digestOfFelons_87 : decode cX11_digestOfFelons 87 = .ok (.i2l, 1) := by decide +kernel
theorem dX11_digestOfFelons_88 : decode cX11_digestOfFelons 88 = .ok (.ladd, 1) := by decide +kernel
theorem dX11_digestOfFelons_89 : decode cX11_digestOfFelons 89 = .ok (.lstore_n 3, 1) := by decide +kernel
theorem dX11_digestOfFelons_90 : decode cX11_digestOfFelons 90 = .ok (.iinc 5 1, 3) := by decide +kernel
theorem dX11_digestOfFelons_93 : decode cX11_digestOfFelons 93 = .ok (.goto (-88), 3) := by decide +kernel
theorem dX11_digestOfFelons_96 : decode cX11_digestOfFelons 96 = .ok (.lload_n 3, 1) := by decide +kernel
theorem dX11_digestOfFelons_97 : decode cX11_digestOfFelons 97 = .ok (.lreturn, 1) := by decide +kernel
theorem dX11_digestOfNames_0 : decode cX11_digestOfNames 0 = .ok (.lload_n 1, 1) := by decide +kernel
theorem dX11_digestOfNames_1 : decode cX11_digestOfNames 1 = .ok (.lstore_n 3, 1) := by decide +kernel
theorem dX11_digestOfNames_2 : decode cX11_digestOfNames 2 = .ok (.iconst 0, 1) := by decide +kernel
theorem dX11_digestOfNames_3 : decode cX11_digestOfNames 3 = .ok (.istore 5, 2) := by decide +kernel
theorem dX11_digestOfNames_5 : decode cX11_digestOfNames 5 = .ok (.iload 5, 2) := by decide +kernel
theorem dX11_digestOfNames_7 : decode cX11_digestOfNames 7 = .ok (.aload_n 0, 1) := by decide +kernel
theorem dX11_digestOfNames_8 : decode cX11_digestOfNames 8 = .ok (.getfield 31, 3) := by decide +kernel
theorem dX11_digestOfNames_11 : decode cX11_digestOfNames 11 = .ok (.getfield 134, 3) := by decide +kernel
theorem dX11_digestOfNames_14 : decode cX11_digestOfNames 14 = .ok (.if_icmp .ge 53, 3) := by decide +kernel
theorem dX11_digestOfNames_17 : decode cX11_digestOfNames 17 = .ok (.ldc2_w 297, 3) := by decide +kernel
theorem dX11_digestOfNames_20 : decode cX11_digestOfNames 20 = .ok (.lload_n 3, 1) := by decide +kernel
theorem dX11_digestOfNames_21 : decode cX11_digestOfNames 21 = .ok (.lmul, 1) := by decide +kernel
theorem dX11_digestOfNames_22 : decode cX11_digestOfNames 22 = .ok (.aload_n 0, 1) := by decide +kernel
theorem dX11_digestOfNames_23 : decode cX11_digestOfNames 23 = .ok (.iload 5, 2) := by decide +kernel
theorem dX11_digestOfNames_25 : decode cX11_digestOfNames 25 = .ok (.invokevirtual 337, 3) := by decide +kernel
theorem dX11_digestOfNames_28 : decode cX11_digestOfNames 28 = .ok (.i2l, 1) := by decide +kernel
theorem dX11_digestOfNames_29 : decode cX11_digestOfNames 29 = .ok (.ladd, 1) := by decide +kernel
theorem dX11_digestOfNames_30 : decode cX11_digestOfNames 30 = .ok (.lstore_n 3, 1) := by decide +kernel
theorem dX11_digestOfNames_31 : decode cX11_digestOfNames 31 = .ok (.ldc2_w 297, 3) := by decide +kernel
theorem dX11_digestOfNames_34 : decode cX11_digestOfNames 34 = .ok (.lload_n 3, 1) := by decide +kernel
theorem dX11_digestOfNames_35 : decode cX11_digestOfNames 35 = .ok (.lmul, 1) := by decide +kernel
theorem dX11_digestOfNames_36 : decode cX11_digestOfNames 36 = .ok (.aload_n 0, 1) := by decide +kernel
theorem dX11_digestOfNames_37 : decode cX11_digestOfNames 37 = .ok (.iload 5, 2) := by decide +kernel
theorem dX11_digestOfNames_39 : decode cX11_digestOfNames 39 = .ok (.iconst 0, 1) := by decide +kernel
theorem dX11_digestOfNames_40 : decode cX11_digestOfNames 40 = .ok (.invokevirtual 340, 3) := by decide +kernel
theorem dX11_digestOfNames_43 : decode cX11_digestOfNames 43 = .ok (.i2l, 1) := by decide +kernel
theorem dX11_digestOfNames_44 : decode cX11_digestOfNames 44 = .ok (.ladd, 1) := by decide +kernel
theorem dX11_digestOfNames_45 : decode cX11_digestOfNames 45 = .ok (.lstore_n 3, 1) := by decide +kernel
theorem dX11_digestOfNames_46 : decode cX11_digestOfNames 46 = .ok (.ldc2_w 297, 3) := by decide +kernel
theorem dX11_digestOfNames_49 : decode cX11_digestOfNames 49 = .ok (.lload_n 3, 1) := by decide +kernel
theorem dX11_digestOfNames_50 : decode cX11_digestOfNames 50 = .ok (.lmul, 1) := by decide +kernel
theorem dX11_digestOfNames_51 : decode cX11_digestOfNames 51 = .ok (.aload_n 0, 1) := by decide +kernel
theorem dX11_digestOfNames_52 : decode cX11_digestOfNames 52 = .ok (.iload 5, 2) := by decide +kernel
theorem dX11_digestOfNames_54 : decode cX11_digestOfNames 54 = .ok (.iconst 1, 1) := by decide +kernel
theorem dX11_digestOfNames_55 : decode cX11_digestOfNames 55 = .ok (.invokevirtual 340, 3) := by decide +kernel
theorem dX11_digestOfNames_58 : decode cX11_digestOfNames 58 = .ok (.i2l, 1) := by decide +kernel
theorem dX11_digestOfNames_59 : decode cX11_digestOfNames 59 = .ok (.ladd, 1) := by decide +kernel
theorem dX11_digestOfNames_60 : decode cX11_digestOfNames 60 = .ok (.lstore_n 3, 1) := by decide +kernel
theorem dX11_digestOfNames_61 : decode cX11_digestOfNames 61 = .ok (.iinc 5 1, 3) := by decide +kernel
theorem dX11_digestOfNames_64 : decode cX11_digestOfNames 64 = .ok (.goto (-59), 3) := by decide +kernel
theorem dX11_digestOfNames_67 : decode cX11_digestOfNames 67 = .ok (.iconst 0, 1) := by decide +kernel
theorem dX11_digestOfNames_68 : decode cX11_digestOfNames 68 = .ok (.istore 5, 2) := by decide +kernel
theorem dX11_digestOfNames_70 : decode cX11_digestOfNames 70 = .ok (.iload 5, 2) := by decide +kernel
theorem dX11_digestOfNames_72 : decode cX11_digestOfNames 72 = .ok (.aload_n 0, 1) := by decide +kernel
theorem dX11_digestOfNames_73 : decode cX11_digestOfNames 73 = .ok (.getfield 31, 3) := by decide +kernel
theorem dX11_digestOfNames_76 : decode cX11_digestOfNames 76 = .ok (.getfield 134, 3) := by decide +kernel
theorem dX11_digestOfNames_79 : decode cX11_digestOfNames 79 = .ok (.if_icmp .gt 67, 3) := by decide +kernel
theorem dX11_digestOfNames_82 : decode cX11_digestOfNames 82 = .ok (.ldc2_w 297, 3) := by decide +kernel
theorem dX11_digestOfNames_85 : decode cX11_digestOfNames 85 = .ok (.lload_n 3, 1) := by decide +kernel
theorem dX11_digestOfNames_86 : decode cX11_digestOfNames 86 = .ok (.lmul, 1) := by decide +kernel
theorem dX11_digestOfNames_87 : decode cX11_digestOfNames 87 = .ok (.aload_n 0, 1) := by decide +kernel
theorem dX11_digestOfNames_88 : decode cX11_digestOfNames 88 = .ok (.iload 5, 2) := by decide +kernel
theorem dX11_digestOfNames_90 : decode cX11_digestOfNames 90 = .ok (.iconst 0, 1) := by decide +kernel
theorem dX11_digestOfNames_91 : decode cX11_digestOfNames 91 = .ok (.invokevirtual 343, 3) := by decide +kernel
theorem dX11_digestOfNames_94 : decode cX11_digestOfNames 94 = .ok (.i2l, 1) := by decide +kernel
theorem dX11_digestOfNames_95 : decode cX11_digestOfNames 95 = .ok (.ladd, 1) := by decide +kernel
theorem dX11_digestOfNames_96 : decode cX11_digestOfNames 96 = .ok (.lstore_n 3, 1) := by decide +kernel
theorem dX11_digestOfNames_97 : decode cX11_digestOfNames 97 = .ok (.ldc2_w 297, 3) := by decide +kernel
theorem dX11_digestOfNames_100 : decode cX11_digestOfNames 100 = .ok (.lload_n 3, 1) := by decide +kernel
theorem dX11_digestOfNames_101 : decode cX11_digestOfNames 101 = .ok (.lmul, 1) := by decide +kernel
theorem dX11_digestOfNames_102 : decode cX11_digestOfNames 102 = .ok (.aload_n 0, 1) := by decide +kernel
theorem dX11_digestOfNames_103 : decode cX11_digestOfNames 103 = .ok (.iload 5, 2) := by decide +kernel
theorem dX11_digestOfNames_105 : decode cX11_digestOfNames 105 = .ok (.iconst 1, 1) := by decide +kernel
theorem dX11_digestOfNames_106 : decode cX11_digestOfNames 106 = .ok (.invokevirtual 343, 3) := by decide +kernel
theorem dX11_digestOfNames_109 : decode cX11_digestOfNames 109 = .ok (.i2l, 1) := by decide +kernel
theorem dX11_digestOfNames_110 : decode cX11_digestOfNames 110 = .ok (.ladd, 1) := by decide +kernel
theorem dX11_digestOfNames_111 : decode cX11_digestOfNames 111 = .ok (.lstore_n 3, 1) := by decide +kernel
theorem dX11_digestOfNames_112 : decode cX11_digestOfNames 112 = .ok (.ldc2_w 297, 3) := by decide +kernel
theorem dX11_digestOfNames_115 : decode cX11_digestOfNames 115 = .ok (.lload_n 3, 1) := by decide +kernel
theorem dX11_digestOfNames_116 : decode cX11_digestOfNames 116 = .ok (.lmul, 1) := by decide +kernel
theorem dX11_digestOfNames_117 : decode cX11_digestOfNames 117 = .ok (.aload_n 0, 1) := by decide +kernel
theorem dX11_digestOfNames_118 : decode cX11_digestOfNames 118 = .ok (.iload 5, 2) := by decide +kernel
theorem dX11_digestOfNames_120 : decode cX11_digestOfNames 120 = .ok (.iconst 0, 1) := by decide +kernel
theorem dX11_digestOfNames_121 : decode cX11_digestOfNames 121 = .ok (.invokevirtual 346, 3) := by decide +kernel
theorem dX11_digestOfNames_124 : decode cX11_digestOfNames 124 = .ok (.ladd, 1) := by decide +kernel
theorem dX11_digestOfNames_125 : decode cX11_digestOfNames 125 = .ok (.lstore_n 3, 1) := by decide +kernel
theorem dX11_digestOfNames_126 : decode cX11_digestOfNames 126 = .ok (.ldc2_w 297, 3) := by decide +kernel
theorem dX11_digestOfNames_129 : decode cX11_digestOfNames 129 = .ok (.lload_n 3, 1) := by decide +kernel
theorem dX11_digestOfNames_130 : decode cX11_digestOfNames 130 = .ok (.lmul, 1) := by decide +kernel
theorem dX11_digestOfNames_131 : decode cX11_digestOfNames 131 = .ok (.aload_n 0, 1) := by decide +kernel
theorem dX11_digestOfNames_132 : decode cX11_digestOfNames 132 = .ok (.iload 5, 2) := by decide +kernel
theorem dX11_digestOfNames_134 : decode cX11_digestOfNames 134 = .ok (.iconst 1, 1) := by decide +kernel
theorem dX11_digestOfNames_135 : decode cX11_digestOfNames 135 = .ok (.invokevirtual 346, 3) := by decide +kernel
theorem dX11_digestOfNames_138 : decode cX11_digestOfNames 138 = .ok (.ladd, 1) := by decide +kernel
theorem dX11_digestOfNames_139 : decode cX11_digestOfNames 139 = .ok (.lstore_n 3, 1) := by decide +kernel
theorem dX11_digestOfNames_140 : decode cX11_digestOfNames 140 = .ok (.iinc 5 1, 3) := by decide +kernel
theorem dX11_digestOfNames_143 : decode cX11_digestOfNames 143 = .ok (.goto (-73), 3) := by decide +kernel
theorem dX11_digestOfNames_146 : decode cX11_digestOfNames 146 = .ok (.lload_n 3, 1) := by decide +kernel
theorem dX11_digestOfNames_147 : decode cX11_digestOfNames 147 = .ok (.lreturn, 1) := by decide +kernel
theorem dX11_digestOfPlans_0 : decode cX11_digestOfPlans 0 = .ok (.ldc2_w 297, 3) := by decide +kernel
theorem dX11_digestOfPlans_3 : decode cX11_digestOfPlans 3 = .ok (.lload_n 1, 1) := by decide +kernel
theorem dX11_digestOfPlans_4 : decode cX11_digestOfPlans 4 = .ok (.lmul, 1) := by decide +kernel
theorem dX11_digestOfPlans_5 : decode cX11_digestOfPlans 5 = .ok (.aload_n 0, 1) := by decide +kernel
theorem dX11_digestOfPlans_6 : decode cX11_digestOfPlans 6 = .ok (.iconst 0, 1) := by decide +kernel
theorem dX11_digestOfPlans_7 : decode cX11_digestOfPlans 7 = .ok (.invokevirtual 350, 3) := by decide +kernel
theorem dX11_digestOfPlans_10 : decode cX11_digestOfPlans 10 = .ok (.ladd, 1) := by decide +kernel
theorem dX11_digestOfPlans_11 : decode cX11_digestOfPlans 11 = .ok (.lstore_n 3, 1) := by decide +kernel
theorem dX11_digestOfPlans_12 : decode cX11_digestOfPlans 12 = .ok (.ldc2_w 297, 3) := by decide +kernel
theorem dX11_digestOfPlans_15 : decode cX11_digestOfPlans 15 = .ok (.lload_n 3, 1) := by decide +kernel
theorem dX11_digestOfPlans_16 : decode cX11_digestOfPlans 16 = .ok (.lmul, 1) := by decide +kernel
theorem dX11_digestOfPlans_17 : decode cX11_digestOfPlans 17 = .ok (.aload_n 0, 1) := by decide +kernel
theorem dX11_digestOfPlans_18 : decode cX11_digestOfPlans 18 = .ok (.iconst 1, 1) := by decide +kernel
theorem dX11_digestOfPlans_19 : decode cX11_digestOfPlans 19 = .ok (.invokevirtual 350, 3) := by decide +kernel
theorem dX11_digestOfPlans_22 : decode cX11_digestOfPlans 22 = .ok (.ladd, 1) := by decide +kernel
theorem dX11_digestOfPlans_23 : decode cX11_digestOfPlans 23 = .ok (.lstore_n 3, 1) := by decide +kernel
theorem dX11_digestOfPlans_24 : decode cX11_digestOfPlans 24 = .ok (.ldc2_w 297, 3) := by decide +kernel
theorem dX11_digestOfPlans_27 : decode cX11_digestOfPlans 27 = .ok (.lload_n 3, 1) := by decide +kernel
theorem dX11_digestOfPlans_28 : decode cX11_digestOfPlans 28 = .ok (.lmul, 1) := by decide +kernel
theorem dX11_digestOfPlans_29 : decode cX11_digestOfPlans 29 = .ok (.aload_n 0, 1) := by decide +kernel
theorem dX11_digestOfPlans_30 : decode cX11_digestOfPlans 30 = .ok (.iconst 0, 1) := by decide +kernel
theorem dX11_digestOfPlans_31 : decode cX11_digestOfPlans 31 = .ok (.invokevirtual 353, 3) := by decide +kernel
theorem dX11_digestOfPlans_34 : decode cX11_digestOfPlans 34 = .ok (.ladd, 1) := by decide +kernel
theorem dX11_digestOfPlans_35 : decode cX11_digestOfPlans 35 = .ok (.lstore_n 3, 1) := by decide +kernel
theorem dX11_digestOfPlans_36 : decode cX11_digestOfPlans 36 = .ok (.ldc2_w 297, 3) := by decide +kernel
theorem dX11_digestOfPlans_39 : decode cX11_digestOfPlans 39 = .ok (.lload_n 3, 1) := by decide +kernel
theorem dX11_digestOfPlans_40 : decode cX11_digestOfPlans 40 = .ok (.lmul, 1) := by decide +kernel
theorem dX11_digestOfPlans_41 : decode cX11_digestOfPlans 41 = .ok (.aload_n 0, 1) := by decide +kernel
theorem dX11_digestOfPlans_42 : decode cX11_digestOfPlans 42 = .ok (.iconst 1, 1) := by decide +kernel
theorem dX11_digestOfPlans_43 : decode cX11_digestOfPlans 43 = .ok (.invokevirtual 353, 3) := by decide +kernel
theorem dX11_digestOfPlans_46 : decode cX11_digestOfPlans 46 = .ok (.ladd, 1) := by decide +kernel
theorem dX11_digestOfPlans_47 : decode cX11_digestOfPlans 47 = .ok (.lstore_n 3, 1) := by decide +kernel
theorem dX11_digestOfPlans_48 : decode cX11_digestOfPlans 48 = .ok (.ldc2_w 297, 3) := by decide +kernel
theorem dX11_digestOfPlans_51 : decode cX11_digestOfPlans 51 = .ok (.lload_n 3, 1) := by decide +kernel
theorem dX11_digestOfPlans_52 : decode cX11_digestOfPlans 52 = .ok (.lmul, 1) := by decide +kernel
theorem dX11_digestOfPlans_53 : decode cX11_digestOfPlans 53 = .ok (.aload_n 0, 1) := by decide +kernel
theorem dX11_digestOfPlans_54 : decode cX11_digestOfPlans 54 = .ok (.invokevirtual 356, 3) := by decide +kernel
theorem dX11_digestOfPlans_57 : decode cX11_digestOfPlans 57 = .ok (.i2l, 1) := by decide +kernel
theorem dX11_digestOfPlans_58 : decode cX11_digestOfPlans 58 = .ok (.ladd, 1) := by decide +kernel
theorem dX11_digestOfPlans_59 : decode cX11_digestOfPlans 59 = .ok (.lstore_n 3, 1) := by decide +kernel
theorem dX11_digestOfPlans_60 : decode cX11_digestOfPlans 60 = .ok (.ldc2_w 297, 3) := by decide +kernel
theorem dX11_digestOfPlans_63 : decode cX11_digestOfPlans 63 = .ok (.lload_n 3, 1) := by decide +kernel
theorem dX11_digestOfPlans_64 : decode cX11_digestOfPlans 64 = .ok (.lmul, 1) := by decide +kernel
theorem dX11_digestOfPlans_65 : decode cX11_digestOfPlans 65 = .ok (.aload_n 0, 1) := by decide +kernel
theorem dX11_digestOfPlans_66 : decode cX11_digestOfPlans 66 = .ok (.iconst (-1), 1) := by decide +kernel
theorem dX11_digestOfPlans_67 : decode cX11_digestOfPlans 67 = .ok (.invokevirtual 359, 3) := by decide +kernel
theorem dX11_digestOfPlans_70 : decode cX11_digestOfPlans 70 = .ok (.i2l, 1) := by decide +kernel
theorem dX11_digestOfPlans_71 : decode cX11_digestOfPlans 71 = .ok (.ladd, 1) := by decide +kernel
theorem dX11_digestOfPlans_72 : decode cX11_digestOfPlans 72 = .ok (.lstore_n 3, 1) := by decide +kernel
theorem dX11_digestOfPlans_73 : decode cX11_digestOfPlans 73 = .ok (.ldc2_w 297, 3) := by decide +kernel
theorem dX11_digestOfPlans_76 : decode cX11_digestOfPlans 76 = .ok (.lload_n 3, 1) := by decide +kernel
theorem dX11_digestOfPlans_77 : decode cX11_digestOfPlans 77 = .ok (.lmul, 1) := by decide +kernel
theorem dX11_digestOfPlans_78 : decode cX11_digestOfPlans 78 = .ok (.aload_n 0, 1) := by decide +kernel
theorem dX11_digestOfPlans_79 : decode cX11_digestOfPlans 79 = .ok (.iconst 0, 1) := by decide +kernel
theorem dX11_digestOfPlans_80 : decode cX11_digestOfPlans 80 = .ok (.invokevirtual 359, 3) := by decide +kernel
theorem dX11_digestOfPlans_83 : decode cX11_digestOfPlans 83 = .ok (.i2l, 1) := by decide +kernel
theorem dX11_digestOfPlans_84 : decode cX11_digestOfPlans 84 = .ok (.ladd, 1) := by decide +kernel
theorem dX11_digestOfPlans_85 : decode cX11_digestOfPlans 85 = .ok (.lstore_n 3, 1) := by decide +kernel
theorem dX11_digestOfPlans_86 : decode cX11_digestOfPlans 86 = .ok (.ldc2_w 297, 3) := by decide +kernel
theorem dX11_digestOfPlans_89 : decode cX11_digestOfPlans 89 = .ok (.lload_n 3, 1) := by decide +kernel
theorem dX11_digestOfPlans_90 : decode cX11_digestOfPlans 90 = .ok (.lmul, 1) := by decide +kernel
theorem dX11_digestOfPlans_91 : decode cX11_digestOfPlans 91 = .ok (.aload_n 0, 1) := by decide +kernel
theorem dX11_digestOfPlans_92 : decode cX11_digestOfPlans 92 = .ok (.iconst 0, 1) := by decide +kernel
theorem dX11_digestOfPlans_93 : decode cX11_digestOfPlans 93 = .ok (.invokevirtual 362, 3) := by decide +kernel
theorem dX11_digestOfPlans_96 : decode cX11_digestOfPlans 96 = .ok (.ladd, 1) := by decide +kernel
theorem dX11_digestOfPlans_97 : decode cX11_digestOfPlans 97 = .ok (.lstore_n 3, 1) := by decide +kernel
theorem dX11_digestOfPlans_98 : decode cX11_digestOfPlans 98 = .ok (.ldc2_w 297, 3) := by decide +kernel
theorem dX11_digestOfPlans_101 : decode cX11_digestOfPlans 101 = .ok (.lload_n 3, 1) := by decide +kernel
theorem dX11_digestOfPlans_102 : decode cX11_digestOfPlans 102 = .ok (.lmul, 1) := by decide +kernel
theorem dX11_digestOfPlans_103 : decode cX11_digestOfPlans 103 = .ok (.aload_n 0, 1) := by decide +kernel
theorem dX11_digestOfPlans_104 : decode cX11_digestOfPlans 104 = .ok (.iconst 1, 1) := by decide +kernel
theorem dX11_digestOfPlans_105 : decode cX11_digestOfPlans 105 = .ok (.invokevirtual 362, 3) := by decide +kernel
theorem dX11_digestOfPlans_108 : decode cX11_digestOfPlans 108 = .ok (.ladd, 1) := by decide +kernel
theorem dX11_digestOfPlans_109 : decode cX11_digestOfPlans 109 = .ok (.lstore_n 3, 1) := by decide +kernel
theorem dX11_digestOfPlans_110 : decode cX11_digestOfPlans 110 = .ok (.ldc2_w 297, 3) := by decide +kernel
theorem dX11_digestOfPlans_113 : decode cX11_digestOfPlans 113 = .ok (.lload_n 3, 1) := by decide +kernel
theorem dX11_digestOfPlans_114 : decode cX11_digestOfPlans 114 = .ok (.lmul, 1) := by decide +kernel
theorem dX11_digestOfPlans_115 : decode cX11_digestOfPlans 115 = .ok (.aload_n 0, 1) := by decide +kernel
theorem dX11_digestOfPlans_116 : decode cX11_digestOfPlans 116 = .ok (.invokevirtual 365, 3) := by decide +kernel
theorem dX11_digestOfPlans_119 : decode cX11_digestOfPlans 119 = .ok (.i2l, 1) := by decide +kernel
theorem dX11_digestOfPlans_120 : decode cX11_digestOfPlans 120 = .ok (.ladd, 1) := by decide +kernel
theorem dX11_digestOfPlans_121 : decode cX11_digestOfPlans 121 = .ok (.lstore_n 3, 1) := by decide +kernel
theorem dX11_digestOfPlans_122 : decode cX11_digestOfPlans 122 = .ok (.ldc2_w 297, 3) := by decide +kernel
theorem dX11_digestOfPlans_125 : decode cX11_digestOfPlans 125 = .ok (.lload_n 3, 1) := by decide +kernel
theorem dX11_digestOfPlans_126 : decode cX11_digestOfPlans 126 = .ok (.lmul, 1) := by decide +kernel
theorem dX11_digestOfPlans_127 : decode cX11_digestOfPlans 127 = .ok (.aload_n 0, 1) := by decide +kernel
theorem dX11_digestOfPlans_128 : decode cX11_digestOfPlans 128 = .ok (.iconst 4, 1) := by decide +kernel
theorem dX11_digestOfPlans_129 : decode cX11_digestOfPlans 129 = .ok (.invokevirtual 368, 3) := by decide +kernel
theorem dX11_digestOfPlans_132 : decode cX11_digestOfPlans 132 = .ok (.i2l, 1) := by decide +kernel
theorem dX11_digestOfPlans_133 : decode cX11_digestOfPlans 133 = .ok (.ladd, 1) := by decide +kernel
theorem dX11_digestOfPlans_134 : decode cX11_digestOfPlans 134 = .ok (.lstore_n 3, 1) := by decide +kernel
theorem dX11_digestOfPlans_135 : decode cX11_digestOfPlans 135 = .ok (.ldc2_w 297, 3) := by decide +kernel
theorem dX11_digestOfPlans_138 : decode cX11_digestOfPlans 138 = .ok (.lload_n 3, 1) := by decide +kernel
theorem dX11_digestOfPlans_139 : decode cX11_digestOfPlans 139 = .ok (.lmul, 1) := by decide +kernel
theorem dX11_digestOfPlans_140 : decode cX11_digestOfPlans 140 = .ok (.aload_n 0, 1) := by decide +kernel
theorem dX11_digestOfPlans_141 : decode cX11_digestOfPlans 141 = .ok (.bipush 9, 2) := by decide +kernel
theorem dX11_digestOfPlans_143 : decode cX11_digestOfPlans 143 = .ok (.invokevirtual 368, 3) := by decide +kernel
theorem dX11_digestOfPlans_146 : decode cX11_digestOfPlans 146 = .ok (.i2l, 1) := by decide +kernel
theorem dX11_digestOfPlans_147 : decode cX11_digestOfPlans 147 = .ok (.ladd, 1) := by decide +kernel
theorem dX11_digestOfPlans_148 : decode cX11_digestOfPlans 148 = .ok (.lreturn, 1) := by decide +kernel
theorem dX11_isText_0 : decode cX11_isText 0 = .ok (.iload_n 0, 1) := by decide +kernel
theorem dX11_isText_1 : decode cX11_isText 1 = .ok (.ifCond .eq 8, 3) := by decide +kernel
theorem dX11_isText_4 : decode cX11_isText 4 = .ok (.iload_n 0, 1) := by decide +kernel
theorem dX11_isText_5 : decode cX11_isText 5 = .ok (.iconst 1, 1) := by decide +kernel
theorem dX11_isText_6 : decode cX11_isText 6 = .ok (.if_icmp .ne 7, 3) := by decide +kernel
theorem dX11_isText_9 : decode cX11_isText 9 = .ok (.iconst 1, 1) := by decide +kernel
theorem dX11_isText_10 : decode cX11_isText 10 = .ok (.goto 4, 3) := by decide +kernel
theorem dX11_isText_13 : decode cX11_isText 13 = .ok (.iconst 0, 1) := by decide +kernel
theorem dX11_isText_14 : decode cX11_isText 14 = .ok (.ireturn, 1) := by decide +kernel
theorem dX11_isEither_0 : decode cX11_isEither 0 = .ok (.iload_n 0, 1) := by decide +kernel
theorem dX11_isEither_1 : decode cX11_isEither 1 = .ok (.ifCond .eq 8, 3) := by decide +kernel
theorem dX11_isEither_4 : decode cX11_isEither 4 = .ok (.iload_n 0, 1) := by decide +kernel
theorem dX11_isEither_5 : decode cX11_isEither 5 = .ok (.iconst 1, 1) := by decide +kernel
theorem dX11_isEither_6 : decode cX11_isEither 6 = .ok (.if_icmp .ne 7, 3) := by decide +kernel
theorem dX11_isEither_9 : decode cX11_isEither 9 = .ok (.iconst 1, 1) := by decide +kernel
theorem dX11_isEither_10 : decode cX11_isEither 10 = .ok (.goto 4, 3) := by decide +kernel
theorem dX11_isEither_13 : decode cX11_isEither 13 = .ok (.iconst 0, 1) := by decide +kernel
theorem dX11_isEither_14 : decode cX11_isEither 14 = .ok (.ireturn, 1) := by decide +kernel
theorem dX11_isSheet_0 : decode cX11_isSheet 0 = .ok (.iload_n 0, 1) := by decide +kernel
theorem dX11_isSheet_1 : decode cX11_isSheet 1 = .ok (.ifCond .lt 12, 3) := by decide +kernel
theorem dX11_isSheet_4 : decode cX11_isSheet 4 = .ok (.iload_n 0, 1) := by decide +kernel
theorem dX11_isSheet_5 : decode cX11_isSheet 5 = .ok (.iconst 4, 1) := by decide +kernel
theorem dX11_isSheet_6 : decode cX11_isSheet 6 = .ok (.if_icmp .ge 7, 3) := by decide +kernel
theorem dX11_isSheet_9 : decode cX11_isSheet 9 = .ok (.iconst 1, 1) := by decide +kernel
theorem dX11_isSheet_10 : decode cX11_isSheet 10 = .ok (.goto 4, 3) := by decide +kernel
theorem dX11_isSheet_13 : decode cX11_isSheet 13 = .ok (.iconst 0, 1) := by decide +kernel
theorem dX11_isSheet_14 : decode cX11_isSheet 14 = .ok (.ireturn, 1) := by decide +kernel
theorem dX11_isForm_0 : decode cX11_isForm 0 = .ok (.iload_n 0, 1) := by decide +kernel
theorem dX11_isForm_1 : decode cX11_isForm 1 = .ok (.ifCond .lt 12, 3) := by decide +kernel
theorem dX11_isForm_4 : decode cX11_isForm 4 = .ok (.iload_n 0, 1) := by decide +kernel
theorem dX11_isForm_5 : decode cX11_isForm 5 = .ok (.iconst 3, 1) := by decide +kernel
theorem dX11_isForm_6 : decode cX11_isForm 6 = .ok (.if_icmp .ge 7, 3) := by decide +kernel
theorem dX11_isForm_9 : decode cX11_isForm 9 = .ok (.iconst 1, 1) := by decide +kernel
theorem dX11_isForm_10 : decode cX11_isForm 10 = .ok (.goto 4, 3) := by decide +kernel
theorem dX11_isForm_13 : decode cX11_isForm 13 = .ok (.iconst 0, 1) := by decide +kernel
theorem dX11_isForm_14 : decode cX11_isForm 14 = .ok (.ireturn, 1) := by decide +kernel
theorem dX11_longRefusal_0 : decode cX11_longRefusal 0 = .ok (.ldc2_w 371, 3) := by decide +kernel
theorem dX11_longRefusal_3 : decode cX11_longRefusal 3 = .ok (.iload_n 0, 1) := by decide +kernel
theorem dX11_longRefusal_4 : decode cX11_longRefusal 4 = .ok (.i2l, 1) := by decide +kernel
theorem dX11_longRefusal_5 : decode cX11_longRefusal 5 = .ok (.lsub, 1) := by decide +kernel
theorem dX11_longRefusal_6 : decode cX11_longRefusal 6 = .ok (.lreturn, 1) := by decide +kernel
theorem dX11_isNumberOfNames_0 : decode cX11_isNumberOfNames 0 = .ok (.iload_n 1, 1) := by decide +kernel
theorem dX11_isNumberOfNames_1 : decode cX11_isNumberOfNames 1 = .ok (.ifCond .lt 18, 3) := by decide +kernel
theorem dX11_isNumberOfNames_4 : decode cX11_isNumberOfNames 4 = .ok (.iload_n 1, 1) := by decide +kernel
theorem dX11_isNumberOfNames_5 : decode cX11_isNumberOfNames 5 = .ok (.aload_n 0, 1) := by decide +kernel
theorem dX11_isNumberOfNames_6 : decode cX11_isNumberOfNames 6 = .ok (.getfield 31, 3) := by decide +kernel
theorem dX11_isNumberOfNames_9 : decode cX11_isNumberOfNames 9 = .ok (.getfield 134, 3) := by decide +kernel
theorem dX11_isNumberOfNames_12 : decode cX11_isNumberOfNames 12 = .ok (.if_icmp .gt 7, 3) := by decide +kernel
theorem dX11_isNumberOfNames_15 : decode cX11_isNumberOfNames 15 = .ok (.iconst 1, 1) := by decide +kernel
theorem dX11_isNumberOfNames_16 : decode cX11_isNumberOfNames 16 = .ok (.goto 4, 3) := by decide +kernel
theorem dX11_isNumberOfNames_19 : decode cX11_isNumberOfNames 19 = .ok (.iconst 0, 1) := by decide +kernel
theorem dX11_isNumberOfNames_20 : decode cX11_isNumberOfNames 20 = .ok (.ireturn, 1) := by decide +kernel
theorem dX11_textOf_0 : decode cX11_textOf 0 = .ok (.iload_n 1, 1) := by decide +kernel
theorem dX11_textOf_1 : decode cX11_textOf 1 = .ok (.ifCond .ne 10, 3) := by decide +kernel
theorem dX11_textOf_4 : decode cX11_textOf 4 = .ok (.aload_n 0, 1) := by decide +kernel
theorem dX11_textOf_5 : decode cX11_textOf 5 = .ok (.getfield 14, 3) := by decide +kernel
theorem dX11_textOf_8 : decode cX11_textOf 8 = .ok (.goto 7, 3) := by decide +kernel
theorem dX11_textOf_11 : decode cX11_textOf 11 = .ok (.aload_n 0, 1) := by decide +kernel
theorem dX11_textOf_12 : decode cX11_textOf 12 = .ok (.getfield 18, 3) := by decide +kernel
theorem dX11_textOf_15 : decode cX11_textOf 15 = .ok (.areturn, 1) := by decide +kernel
theorem dX11_finding_0 : decode cX11_finding 0 = .ok (.aload_n 0, 1) := by decide +kernel
theorem dX11_finding_1 : decode cX11_finding 1 = .ok (.iload_n 1, 1) := by decide +kernel
theorem dX11_finding_2 : decode cX11_finding 2 = .ok (.putfield 269, 3) := by decide +kernel
theorem dX11_finding_5 : decode cX11_finding 5 = .ok (.bipush (-10), 2) := by decide +kernel
theorem dX11_finding_7 : decode cX11_finding 7 = .ok (.iload_n 1, 1) := by decide +kernel
theorem dX11_finding_8 : decode cX11_finding 8 = .ok (.isub, 1) := by decide +kernel
theorem dX11_finding_9 : decode cX11_finding 9 = .ok (.ireturn, 1) := by decide +kernel
theorem dX11_readAnew_0 : decode cX11_readAnew 0 = .ok (.iload_n 1, 1) := by decide +kernel
theorem dX11_readAnew_1 : decode cX11_readAnew 1 = .ok (.ifCond .ne 17, 3) := by decide +kernel
theorem dX11_readAnew_4 : decode cX11_readAnew 4 = .ok (.aload_n 0, 1) := by decide +kernel
theorem dX11_readAnew_5 : decode cX11_readAnew 5 = .ok (.getfield 24, 3) := by decide +kernel
theorem dX11_readAnew_8 : decode cX11_readAnew 8 = .ok (.aload_n 0, 1) := by decide +kernel
theorem dX11_readAnew_9 : decode cX11_readAnew 9 = .ok (.getfield 14, 3) := by decide +kernel
theorem dX11_readAnew_12 : decode cX11_readAnew 12 = .ok (.invokevirtual 373, 3) := by decide +kernel
theorem dX11_readAnew_15 : decode cX11_readAnew 15 = .ok (.goto 14, 3) := by decide +kernel
theorem dX11_readAnew_18 : decode cX11_readAnew 18 = .ok (.aload_n 0, 1) := by decide +kernel
theorem dX11_readAnew_19 : decode cX11_readAnew 19 = .ok (.getfield 31, 3) := by decide +kernel
theorem dX11_readAnew_22 : decode cX11_readAnew 22 = .ok (.aload_n 0, 1) := by decide +kernel
theorem dX11_readAnew_23 : decode cX11_readAnew 23 = .ok (.getfield 18, 3) := by decide +kernel
theorem dX11_readAnew_26 : decode cX11_readAnew 26 = .ok (.invokevirtual 377, 3) := by decide +kernel
theorem dX11_readAnew_29 : decode cX11_readAnew 29 = .ok (.aload_n 0, 1) := by decide +kernel
theorem dX11_readAnew_30 : decode cX11_readAnew 30 = .ok (.invokevirtual 131, 3) := by decide +kernel
theorem dX11_readAnew_33 : decode cX11_readAnew 33 = .ok (.return_, 1) := by decide +kernel
theorem dX11_reckonAnew_0 : decode cX11_reckonAnew 0 = .ok (.aload_n 0, 1) := by decide +kernel
theorem dX11_reckonAnew_1 : decode cX11_reckonAnew 1 = .ok (.getfield 45, 3) := by decide +kernel
theorem dX11_reckonAnew_4 : decode cX11_reckonAnew 4 = .ok (.aload_n 0, 1) := by decide +kernel
theorem dX11_reckonAnew_5 : decode cX11_reckonAnew 5 = .ok (.getfield 24, 3) := by decide +kernel
theorem dX11_reckonAnew_8 : decode cX11_reckonAnew 8 = .ok (.aload_n 0, 1) := by decide +kernel
theorem dX11_reckonAnew_9 : decode cX11_reckonAnew 9 = .ok (.getfield 31, 3) := by decide +kernel
theorem dX11_reckonAnew_12 : decode cX11_reckonAnew 12 = .ok (.aload_n 0, 1) := by decide +kernel
theorem dX11_reckonAnew_13 : decode cX11_reckonAnew 13 = .ok (.getfield 38, 3) := by decide +kernel
theorem dX11_reckonAnew_16 : decode cX11_reckonAnew 16 = .ok (.getfield 77, 3) := by decide +kernel
theorem dX11_reckonAnew_19 : decode cX11_reckonAnew 19 = .ok (.aload_n 0, 1) := by decide +kernel
theorem dX11_reckonAnew_20 : decode cX11_reckonAnew 20 = .ok (.getfield 38, 3) := by decide +kernel
theorem dX11_reckonAnew_23 : decode cX11_reckonAnew 23 = .ok (.getfield 81, 3) := by decide +kernel
theorem dX11_reckonAnew_26 : decode cX11_reckonAnew 26 = .ok (.aload_n 0, 1) := by decide +kernel
theorem dX11_reckonAnew_27 : decode cX11_reckonAnew 27 = .ok (.getfield 38, 3) := by decide +kernel
theorem dX11_reckonAnew_30 : decode cX11_reckonAnew 30 = .ok (.getfield 201, 3) := by decide +kernel
theorem dX11_reckonAnew_33 : decode cX11_reckonAnew 33 = .ok (.invokevirtual 204, 3) := by decide +kernel
theorem dX11_reckonAnew_36 : decode cX11_reckonAnew 36 = .ok (.aload_n 0, 1) := by decide +kernel
theorem dX11_reckonAnew_37 : decode cX11_reckonAnew 37 = .ok (.getfield 55, 3) := by decide +kernel
theorem dX11_reckonAnew_40 : decode cX11_reckonAnew 40 = .ok (.iconst 0, 1) := by decide +kernel
theorem dX11_reckonAnew_41 : decode cX11_reckonAnew 41 = .ok (.putfield 378, 3) := by decide +kernel
end
section
theorem dX11_reckonAnew_44 : decode cX11_reckonAnew 44 = .ok (.return_, 1) := by decide +kernel
theorem dX11_tryBribe_0 : decode cX11_tryBribe 0 = .ok (.aload_n 0, 1) := by decide +kernel
theorem dX11_tryBribe_1 : decode cX11_tryBribe 1 = .ok (.getfield 49, 3) := by decide +kernel
theorem dX11_tryBribe_4 : decode cX11_tryBribe 4 = .ok (.aload_n 0, 1) := by decide +kernel
theorem dX11_tryBribe_5 : decode cX11_tryBribe 5 = .ok (.getfield 24, 3) := by decide +kernel
theorem dX11_tryBribe_8 : decode cX11_tryBribe 8 = .ok (.aload_n 0, 1) := by decide +kernel
theorem dX11_tryBribe_9 : decode cX11_tryBribe 9 = .ok (.getfield 31, 3) := by decide +kernel
theorem dX11_tryBribe_12 : decode cX11_tryBribe 12 = .ok (.aload_n 0, 1) := by decide +kernel
theorem dX11_tryBribe_13 : decode cX11_tryBribe 13 = .ok (.getfield 38, 3) := by decide +kernel
theorem dX11_tryBribe_16 : decode cX11_tryBribe 16 = .ok (.getfield 77, 3) := by decide +kernel
theorem dX11_tryBribe_19 : decode cX11_tryBribe 19 = .ok (.aload_n 0, 1) := by decide +kernel
theorem dX11_tryBribe_20 : decode cX11_tryBribe 20 = .ok (.getfield 38, 3) := by decide +kernel
theorem dX11_tryBribe_23 : decode cX11_tryBribe 23 = .ok (.getfield 81, 3) := by decide +kernel
theorem dX11_tryBribe_26 : decode cX11_tryBribe 26 = .ok (.iload_n 1, 1) := by decide +kernel
theorem dX11_tryBribe_27 : decode cX11_tryBribe 27 = .ok (.invokevirtual 204, 3) := by decide +kernel
theorem dX11_tryBribe_30 : decode cX11_tryBribe 30 = .ok (.return_, 1) := by decide +kernel
theorem dX11_tallyFates_0 : decode cX11_tallyFates 0 = .ok (.iconst 0, 1) := by decide +kernel
theorem dX11_tallyFates_1 : decode cX11_tallyFates 1 = .ok (.istore_n 1, 1) := by decide +kernel
theorem dX11_tallyFates_2 : decode cX11_tallyFates 2 = .ok (.iload_n 1, 1) := by decide +kernel
theorem dX11_tallyFates_3 : decode cX11_tallyFates 3 = .ok (.aload_n 0, 1) := by decide +kernel
theorem dX11_tallyFates_4 : decode cX11_tallyFates 4 = .ok (.getfield 72, 3) := by decide +kernel
theorem dX11_tallyFates_7 : decode cX11_tallyFates 7 = .ok (.arraylength, 1) := by decide +kernel
theorem dX11_tallyFates_8 : decode cX11_tallyFates 8 = .ok (.if_icmp .ge 16, 3) := by decide +kernel
theorem dX11_tallyFates_11 : decode cX11_tallyFates 11 = .ok (.aload_n 0, 1) := by decide +kernel
theorem dX11_tallyFates_12 : decode cX11_tallyFates 12 = .ok (.getfield 72, 3) := by decide +kernel
theorem dX11_tallyFates_15 : decode cX11_tallyFates 15 = .ok (.iload_n 1, 1) := by decide +kernel
theorem dX11_tallyFates_16 : decode cX11_tallyFates 16 = .ok (.iconst 0, 1) := by decide +kernel
theorem dX11_tallyFates_17 : decode cX11_tallyFates 17 = .ok (.iastore, 1) := by decide +kernel
theorem dX11_tallyFates_18 : decode cX11_tallyFates 18 = .ok (.iinc 1 1, 3) := by decide +kernel
theorem dX11_tallyFates_21 : decode cX11_tallyFates 21 = .ok (.goto (-19), 3) := by decide +kernel
theorem dX11_tallyFates_24 : decode cX11_tallyFates 24 = .ok (.iconst 0, 1) := by decide +kernel
theorem dX11_tallyFates_25 : decode cX11_tallyFates 25 = .ok (.istore_n 1, 1) := by decide +kernel
theorem dX11_tallyFates_26 : decode cX11_tallyFates 26 = .ok (.iload_n 1, 1) := by decide +kernel
theorem dX11_tallyFates_27 : decode cX11_tallyFates 27 = .ok (.bipush 10, 2) := by decide +kernel
theorem dX11_tallyFates_29 : decode cX11_tallyFates 29 = .ok (.if_icmp .ge 66, 3) := by decide +kernel
theorem dX11_tallyFates_32 : decode cX11_tallyFates 32 = .ok (.aload_n 0, 1) := by decide +kernel
theorem dX11_tallyFates_33 : decode cX11_tallyFates 33 = .ok (.iload_n 1, 1) := by decide +kernel
theorem dX11_tallyFates_34 : decode cX11_tallyFates 34 = .ok (.invokevirtual 198, 3) := by decide +kernel
theorem dX11_tallyFates_37 : decode cX11_tallyFates 37 = .ok (.aload_n 0, 1) := by decide +kernel
theorem dX11_tallyFates_38 : decode cX11_tallyFates 38 = .ok (.getfield 62, 3) := by decide +kernel
theorem dX11_tallyFates_41 : decode cX11_tallyFates 41 = .ok (.aload_n 0, 1) := by decide +kernel
theorem dX11_tallyFates_42 : decode cX11_tallyFates 42 = .ok (.getfield 49, 3) := by decide +kernel
theorem dX11_tallyFates_45 : decode cX11_tallyFates 45 = .ok (.invokevirtual 228, 3) := by decide +kernel
theorem dX11_tallyFates_48 : decode cX11_tallyFates 48 = .ok (.ifCond .eq 41, 3) := by decide +kernel
theorem dX11_tallyFates_51 : decode cX11_tallyFates 51 = .ok (.iconst 0, 1) := by decide +kernel
theorem dX11_tallyFates_52 : decode cX11_tallyFates 52 = .ok (.istore_n 2, 1) := by decide +kernel
theorem dX11_tallyFates_53 : decode cX11_tallyFates 53 = .ok (.iload_n 2, 1) := by decide +kernel
theorem dX11_tallyFates_54 : decode cX11_tallyFates 54 = .ok (.bipush 8, 2) := by decide +kernel
theorem dX11_tallyFates_56 : decode cX11_tallyFates 56 = .ok (.if_icmp .ge 33, 3) := by decide +kernel
theorem dX11_tallyFates_59 : decode cX11_tallyFates 59 = .ok (.aload_n 0, 1) := by decide +kernel
theorem dX11_tallyFates_60 : decode cX11_tallyFates 60 = .ok (.getfield 72, 3) := by decide +kernel
theorem dX11_tallyFates_63 : decode cX11_tallyFates 63 = .ok (.iload_n 2, 1) := by decide +kernel
theorem dX11_tallyFates_64 : decode cX11_tallyFates 64 = .ok (.bipush 6, 2) := by decide +kernel
theorem dX11_tallyFates_66 : decode cX11_tallyFates 66 = .ok (.imul, 1) := by decide +kernel
theorem dX11_tallyFates_67 : decode cX11_tallyFates 67 = .ok (.aload_n 0, 1) := by decide +kernel
theorem dX11_tallyFates_68 : decode cX11_tallyFates 68 = .ok (.getfield 49, 3) := by decide +kernel
theorem dX11_tallyFates_71 : decode cX11_tallyFates 71 = .ok (.iload_n 2, 1) := by decide +kernel
theorem dX11_tallyFates_72 : decode cX11_tallyFates 72 = .ok (.invokevirtual 181, 3) := by decide +kernel
theorem dX11_tallyFates_75 : decode cX11_tallyFates 75 = .ok (.iadd, 1) := by decide +kernel
theorem dX11_tallyFates_76 : decode cX11_tallyFates 76 = .ok (.iconst 1, 1) := by decide +kernel
theorem dX11_tallyFates_77 : decode cX11_tallyFates 77 = .ok (.iadd, 1) := by decide +kernel
theorem dX11_tallyFates_78 : decode cX11_tallyFates 78 = .ok (.dup2, 1) := by decide +kernel
theorem dX11_tallyFates_79 : decode cX11_tallyFates 79 = .ok (.iaload, 1) := by decide +kernel
theorem dX11_tallyFates_80 : decode cX11_tallyFates 80 = .ok (.iconst 1, 1) := by decide +kernel
theorem dX11_tallyFates_81 : decode cX11_tallyFates 81 = .ok (.iadd, 1) := by decide +kernel
theorem dX11_tallyFates_82 : decode cX11_tallyFates 82 = .ok (.iastore, 1) := by decide +kernel
theorem dX11_tallyFates_83 : decode cX11_tallyFates 83 = .ok (.iinc 2 1, 3) := by decide +kernel
theorem dX11_tallyFates_86 : decode cX11_tallyFates 86 = .ok (.goto (-33), 3) := by decide +kernel
theorem dX11_tallyFates_89 : decode cX11_tallyFates 89 = .ok (.iinc 1 1, 3) := by decide +kernel
theorem dX11_tallyFates_92 : decode cX11_tallyFates 92 = .ok (.goto (-66), 3) := by decide +kernel
theorem dX11_tallyFates_95 : decode cX11_tallyFates 95 = .ok (.return_, 1) := by decide +kernel
theorem dX11_mostAlike_0 : decode cX11_mostAlike 0 = .ok (.iconst 0, 1) := by decide +kernel
theorem dX11_mostAlike_1 : decode cX11_mostAlike 1 = .ok (.istore_n 2, 1) := by decide +kernel
theorem dX11_mostAlike_2 : decode cX11_mostAlike 2 = .ok (.iconst (-1), 1) := by decide +kernel
theorem dX11_mostAlike_3 : decode cX11_mostAlike 3 = .ok (.istore_n 3, 1) := by decide +kernel
theorem dX11_mostAlike_4 : decode cX11_mostAlike 4 = .ok (.iload_n 3, 1) := by decide +kernel
theorem dX11_mostAlike_5 : decode cX11_mostAlike 5 = .ok (.iconst 5, 1) := by decide +kernel
theorem dX11_mostAlike_6 : decode cX11_mostAlike 6 = .ok (.if_icmp .ge 27, 3) := by decide +kernel
theorem dX11_mostAlike_9 : decode cX11_mostAlike 9 = .ok (.iload_n 2, 1) := by decide +kernel
theorem dX11_mostAlike_10 : decode cX11_mostAlike 10 = .ok (.aload_n 0, 1) := by decide +kernel
theorem dX11_mostAlike_11 : decode cX11_mostAlike 11 = .ok (.getfield 72, 3) := by decide +kernel
theorem dX11_mostAlike_14 : decode cX11_mostAlike 14 = .ok (.iload_n 1, 1) := by decide +kernel
theorem dX11_mostAlike_15 : decode cX11_mostAlike 15 = .ok (.bipush 6, 2) := by decide +kernel
theorem dX11_mostAlike_17 : decode cX11_mostAlike 17 = .ok (.imul, 1) := by decide +kernel
theorem dX11_mostAlike_18 : decode cX11_mostAlike 18 = .ok (.iload_n 3, 1) := by decide +kernel
theorem dX11_mostAlike_19 : decode cX11_mostAlike 19 = .ok (.iadd, 1) := by decide +kernel
theorem dX11_mostAlike_20 : decode cX11_mostAlike 20 = .ok (.iconst 1, 1) := by decide +kernel
theorem dX11_mostAlike_21 : decode cX11_mostAlike 21 = .ok (.iadd, 1) := by decide +kernel
theorem dX11_mostAlike_22 : decode cX11_mostAlike 22 = .ok (.iaload, 1) := by decide +kernel
theorem dX11_mostAlike_23 : decode cX11_mostAlike 23 = .ok (.invokestatic 381, 3) := by decide +kernel
theorem dX11_mostAlike_26 : decode cX11_mostAlike 26 = .ok (.istore_n 2, 1) := by decide +kernel
theorem dX11_mostAlike_27 : decode cX11_mostAlike 27 = .ok (.iinc 3 1, 3) := by decide +kernel
theorem dX11_mostAlike_30 : decode cX11_mostAlike 30 = .ok (.goto (-26), 3) := by decide +kernel
theorem dX11_mostAlike_33 : decode cX11_mostAlike 33 = .ok (.iload_n 2, 1) := by decide +kernel
theorem dX11_mostAlike_34 : decode cX11_mostAlike 34 = .ok (.ireturn, 1) := by decide +kernel
theorem dX12_init_0 : decode cX12_init 0 = .ok (.aload_n 0, 1) := by decide +kernel
theorem dX12_init_1 : decode cX12_init 1 = .ok (.invokespecial 1, 3) := by decide +kernel
theorem dX12_init_4 : decode cX12_init 4 = .ok (.aload_n 0, 1) := by decide +kernel
theorem dX12_init_5 : decode cX12_init 5 = .ok (.iconst 4, 1) := by decide +kernel
theorem dX12_init_6 : decode cX12_init 6 = .ok (.newarray .int, 2) := by decide +kernel
theorem dX12_init_8 : decode cX12_init 8 = .ok (.putfield 7, 3) := by decide +kernel
theorem dX12_init_11 : decode cX12_init 11 = .ok (.aload_n 0, 1) := by decide +kernel
theorem dX12_init_12 : decode cX12_init 12 = .ok (.iconst 4, 1) := by decide +kernel
theorem dX12_init_13 : decode cX12_init 13 = .ok (.newarray .int, 2) := by decide +kernel
theorem dX12_init_15 : decode cX12_init 15 = .ok (.putfield 13, 3) := by decide +kernel
theorem dX12_init_18 : decode cX12_init 18 = .ok (.aload_n 0, 1) := by decide +kernel
theorem dX12_init_19 : decode cX12_init 19 = .ok (.sipush 240, 3) := by decide +kernel
theorem dX12_init_22 : decode cX12_init 22 = .ok (.newarray .int, 2) := by decide +kernel
theorem dX12_init_24 : decode cX12_init 24 = .ok (.putfield 16, 3) := by decide +kernel
theorem dX12_init_27 : decode cX12_init 27 = .ok (.aload_n 0, 1) := by decide +kernel
theorem dX12_init_28 : decode cX12_init 28 = .ok (.bipush 60, 2) := by decide +kernel
theorem dX12_init_30 : decode cX12_init 30 = .ok (.newarray .int, 2) := by decide +kernel
theorem dX12_init_32 : decode cX12_init 32 = .ok (.putfield 19, 3) := by decide +kernel
theorem dX12_init_35 : decode cX12_init 35 = .ok (.aload_n 0, 1) := by decide +kernel
theorem dX12_init_36 : decode cX12_init 36 = .ok (.bipush 96, 2) := by decide +kernel
theorem dX12_init_38 : decode cX12_init 38 = .ok (.newarray .int, 2) := by decide +kernel
theorem dX12_init_40 : decode cX12_init 40 = .ok (.putfield 22, 3) := by decide +kernel
theorem dX12_init_43 : decode cX12_init 43 = .ok (.aload_n 0, 1) := by decide +kernel
theorem dX12_init_44 : decode cX12_init 44 = .ok (.iconst 2, 1) := by decide +kernel
theorem dX12_init_45 : decode cX12_init 45 = .ok (.newarray .int, 2) := by decide +kernel
theorem dX12_init_47 : decode cX12_init 47 = .ok (.putfield 25, 3) := by decide +kernel
theorem dX12_init_50 : decode cX12_init 50 = .ok (.aload_n 0, 1) := by decide +kernel
theorem dX12_init_51 : decode cX12_init 51 = .ok (.bipush 40, 2) := by decide +kernel
theorem dX12_init_53 : decode cX12_init 53 = .ok (.newarray .int, 2) := by decide +kernel
theorem dX12_init_55 : decode cX12_init 55 = .ok (.putfield 28, 3) := by decide +kernel
theorem dX12_init_58 : decode cX12_init 58 = .ok (.aload_n 0, 1) := by decide +kernel
theorem dX12_init_59 : decode cX12_init 59 = .ok (.bipush 12, 2) := by decide +kernel
theorem dX12_init_61 : decode cX12_init 61 = .ok (.newarray .int, 2) := by decide +kernel
theorem dX12_init_63 : decode cX12_init 63 = .ok (.putfield 31, 3) := by decide +kernel
theorem dX12_init_66 : decode cX12_init 66 = .ok (.aload_n 0, 1) := by decide +kernel
theorem dX12_init_67 : decode cX12_init 67 = .ok (.iconst 3, 1) := by decide +kernel
theorem dX12_init_68 : decode cX12_init 68 = .ok (.newarray .int, 2) := by decide +kernel
theorem dX12_init_70 : decode cX12_init 70 = .ok (.putfield 34, 3) := by decide +kernel
theorem dX12_init_73 : decode cX12_init 73 = .ok (.aload_n 0, 1) := by decide +kernel
theorem dX12_init_74 : decode cX12_init 74 = .ok (.bipush 12, 2) := by decide +kernel
theorem dX12_init_76 : decode cX12_init 76 = .ok (.newarray .int, 2) := by decide +kernel
theorem dX12_init_78 : decode cX12_init 78 = .ok (.putfield 37, 3) := by decide +kernel
theorem dX12_init_81 : decode cX12_init 81 = .ok (.aload_n 0, 1) := by decide +kernel
theorem dX12_init_82 : decode cX12_init 82 = .ok (.bipush 12, 2) := by decide +kernel
theorem dX12_init_84 : decode cX12_init 84 = .ok (.newarray .int, 2) := by decide +kernel
theorem dX12_init_86 : decode cX12_init 86 = .ok (.putfield 40, 3) := by decide +kernel
theorem dX12_init_89 : decode cX12_init 89 = .ok (.aload_n 0, 1) := by decide +kernel
theorem dX12_init_90 : decode cX12_init 90 = .ok (.bipush 13, 2) := by decide +kernel
theorem dX12_init_92 : decode cX12_init 92 = .ok (.newarray .int, 2) := by decide +kernel
theorem dX12_init_94 : decode cX12_init 94 = .ok (.putfield 43, 3) := by decide +kernel
theorem dX12_init_97 : decode cX12_init 97 = .ok (.aload_n 0, 1) := by decide +kernel
theorem dX12_init_98 : decode cX12_init 98 = .ok (.bipush 13, 2) := by decide +kernel
theorem dX12_init_100 : decode cX12_init 100 = .ok (.newarray .int, 2) := by decide +kernel
theorem dX12_init_102 : decode cX12_init 102 = .ok (.putfield 46, 3) := by decide +kernel
theorem dX12_init_105 : decode cX12_init 105 = .ok (.aload_n 0, 1) := by decide +kernel
theorem dX12_init_106 : decode cX12_init 106 = .ok (.bipush 9, 2) := by decide +kernel
theorem dX12_init_108 : decode cX12_init 108 = .ok (.newarray .int, 2) := by decide +kernel
theorem dX12_init_110 : decode cX12_init 110 = .ok (.putfield 49, 3) := by decide +kernel
theorem dX12_init_113 : decode cX12_init 113 = .ok (.aload_n 0, 1) := by decide +kernel
theorem dX12_init_114 : decode cX12_init 114 = .ok (.bipush 10, 2) := by decide +kernel
theorem dX12_init_116 : decode cX12_init 116 = .ok (.newarray .int, 2) := by decide +kernel
theorem dX12_init_118 : decode cX12_init 118 = .ok (.putfield 52, 3) := by decide +kernel
theorem dX12_init_121 : decode cX12_init 121 = .ok (.aload_n 0, 1) := by decide +kernel
theorem dX12_init_122 : decode cX12_init 122 = .ok (.bipush 10, 2) := by decide +kernel
theorem dX12_init_124 : decode cX12_init 124 = .ok (.newarray .int, 2) := by decide +kernel
theorem dX12_init_126 : decode cX12_init 126 = .ok (.putfield 55, 3) := by decide +kernel
theorem dX12_init_129 : decode cX12_init 129 = .ok (.aload_n 0, 1) := by decide +kernel
theorem dX12_init_130 : decode cX12_init 130 = .ok (.bipush 10, 2) := by decide +kernel
theorem dX12_init_132 : decode cX12_init 132 = .ok (.newarray .long, 2) := by decide +kernel
theorem dX12_init_134 : decode cX12_init 134 = .ok (.putfield 58, 3) := by decide +kernel
theorem dX12_init_137 : decode cX12_init 137 = .ok (.aload_n 0, 1) := by decide +kernel
theorem dX12_init_138 : decode cX12_init 138 = .ok (.bipush 8, 2) := by decide +kernel
theorem dX12_init_140 : decode cX12_init 140 = .ok (.newarray .int, 2) := by decide +kernel
theorem dX12_init_142 : decode cX12_init 142 = .ok (.putfield 62, 3) := by decide +kernel
theorem dX12_init_145 : decode cX12_init 145 = .ok (.aload_n 0, 1) := by decide +kernel
theorem dX12_init_146 : decode cX12_init 146 = .ok (.bipush 16, 2) := by decide +kernel
theorem dX12_init_148 : decode cX12_init 148 = .ok (.newarray .int, 2) := by decide +kernel
theorem dX12_init_150 : decode cX12_init 150 = .ok (.putfield 65, 3) := by decide +kernel
theorem dX12_init_153 : decode cX12_init 153 = .ok (.aload_n 0, 1) := by decide +kernel
theorem dX12_init_154 : decode cX12_init 154 = .ok (.bipush 48, 2) := by decide +kernel
theorem dX12_init_156 : decode cX12_init 156 = .ok (.newarray .int, 2) := by decide +kernel
theorem dX12_init_158 : decode cX12_init 158 = .ok (.putfield 68, 3) := by decide +kernel
theorem dX12_init_161 : decode cX12_init 161 = .ok (.iconst 0, 1) := by decide +kernel
theorem dX12_init_162 : decode cX12_init 162 = .ok (.istore_n 1, 1) := by decide +kernel
theorem dX12_init_163 : decode cX12_init 163 = .ok (.iload_n 1, 1) := by decide +kernel
theorem dX12_init_164 : decode cX12_init 164 = .ok (.iconst 4, 1) := by decide +kernel
theorem dX12_init_165 : decode cX12_init 165 = .ok (.if_icmp .ge 16, 3) := by decide +kernel
theorem dX12_init_168 : decode cX12_init 168 = .ok (.aload_n 0, 1) := by decide +kernel
theorem dX12_init_169 : decode cX12_init 169 = .ok (.getfield 7, 3) := by decide +kernel
theorem dX12_init_172 : decode cX12_init 172 = .ok (.iload_n 1, 1) := by decide +kernel
theorem dX12_init_173 : decode cX12_init 173 = .ok (.iconst (-1), 1) := by decide +kernel
theorem dX12_init_174 : decode cX12_init 174 = .ok (.iastore, 1) := by decide +kernel
theorem dX12_init_175 : decode cX12_init 175 = .ok (.iinc 1 1, 3) := by decide +kernel
theorem dX12_init_178 : decode cX12_init 178 = .ok (.goto (-15), 3) := by decide +kernel
theorem dX12_init_181 : decode cX12_init 181 = .ok (.aload_n 0, 1) := by decide +kernel
theorem dX12_init_182 : decode cX12_init 182 = .ok (.getfield 34, 3) := by decide +kernel
theorem dX12_init_185 : decode cX12_init 185 = .ok (.iconst 0, 1) := by decide +kernel
theorem dX12_init_186 : decode cX12_init 186 = .ok (.iconst 5, 1) := by decide +kernel
theorem dX12_init_187 : decode cX12_init 187 = .ok (.iastore, 1) := by decide +kernel
theorem dX12_init_188 : decode cX12_init 188 = .ok (.aload_n 0, 1) := by decide +kernel
theorem dX12_init_189 : decode cX12_init 189 = .ok (.getfield 34, 3) := by decide +kernel
theorem dX12_init_192 : decode cX12_init 192 = .ok (.iconst 1, 1) := by decide +kernel
theorem dX12_init_193 : decode cX12_init 193 = .ok (.iconst 5, 1) := by decide +kernel
theorem dX12_init_194 : decode cX12_init 194 = .ok (.iastore, 1) := by decide +kernel
theorem dX12_init_195 : decode cX12_init 195 = .ok (.aload_n 0, 1) := by decide +kernel
theorem dX12_init_196 : decode cX12_init 196 = .ok (.getfield 34, 3) := by decide +kernel
theorem dX12_init_199 : decode cX12_init 199 = .ok (.iconst 2, 1) := by decide +kernel
theorem dX12_init_200 : decode cX12_init 200 = .ok (.iconst 5, 1) := by decide +kernel
theorem dX12_init_201 : decode cX12_init 201 = .ok (.iastore, 1) := by decide +kernel
theorem dX12_init_202 : decode cX12_init 202 = .ok (.return_, 1) := by decide +kernel
theorem dX12_in_0 : decode cX12_in 0 = .ok (.lload_n 0, 1) := by decide +kernel
theorem dX12_in_1 : decode cX12_in 1 = .ok (.lload_n 2, 1) := by decide +kernel
theorem dX12_in_2 : decode cX12_in 2 = .ok (.lcmp, 1) := by decide +kernel
theorem dX12_in_3 : decode cX12_in 3 = .ok (.ifCond .lt 14, 3) := by decide +kernel
theorem dX12_in_6 : decode cX12_in 6 = .ok (.lload_n 0, 1) := by decide +kernel
theorem dX12_in_7 : decode cX12_in 7 = .ok (.lload 4, 2) := by decide +kernel
theorem dX12_in_9 : decode cX12_in 9 = .ok (.lcmp, 1) := by decide +kernel
theorem dX12_in_10 : decode cX12_in 10 = .ok (.ifCond .gt 7, 3) := by decide +kernel
theorem dX12_in_13 : decode cX12_in 13 = .ok (.iconst 1, 1) := by decide +kernel
theorem dX12_in_14 : decode cX12_in 14 = .ok (.goto 4, 3) := by decide +kernel
theorem dX12_in_17 : decode cX12_in 17 = .ok (.iconst 0, 1) := by decide +kernel
theorem dX12_in_18 : decode cX12_in 18 = .ok (.ireturn, 1) := by decide +kernel
theorem dX12_no_0 : decode cX12_no 0 = .ok (.ldc2_w 71, 3) := by decide +kernel
theorem dX12_no_3 : decode cX12_no 3 = .ok (.iload_n 0, 1) := by decide +kernel
theorem dX12_no_4 : decode cX12_no 4 = .ok (.i2l, 1) := by decide +kernel
theorem dX12_no_5 : decode cX12_no 5 = .ok (.lsub, 1) := by decide +kernel
theorem dX12_no_6 : decode cX12_no 6 = .ok (.lreturn, 1) := by decide +kernel
theorem dX12_isTwo_0 : decode cX12_isTwo 0 = .ok (.iload_n 0, 1) := by decide +kernel
theorem dX12_isTwo_1 : decode cX12_isTwo 1 = .ok (.i2l, 1) := by decide +kernel
theorem dX12_isTwo_2 : decode cX12_isTwo 2 = .ok (.lconst 0, 1) := by decide +kernel
theorem dX12_isTwo_3 : decode cX12_isTwo 3 = .ok (.lconst 1, 1) := by decide +kernel
theorem dX12_isTwo_4 : decode cX12_isTwo 4 = .ok (.invokestatic 73, 3) := by decide +kernel
theorem dX12_isTwo_7 : decode cX12_isTwo 7 = .ok (.ireturn, 1) := by decide +kernel
theorem dX12_isIn_0 : decode cX12_isIn 0 = .ok (.iload_n 0, 1) := by decide +kernel
theorem dX12_isIn_1 : decode cX12_isIn 1 = .ok (.iload_n 1, 1) := by decide +kernel
theorem dX12_isIn_2 : decode cX12_isIn 2 = .ok (.ishr, 1) := by decide +kernel
theorem dX12_isIn_3 : decode cX12_isIn 3 = .ok (.iconst 1, 1) := by decide +kernel
theorem dX12_isIn_4 : decode cX12_isIn 4 = .ok (.iand, 1) := by decide +kernel
theorem dX12_isIn_5 : decode cX12_isIn 5 = .ok (.iconst 1, 1) := by decide +kernel
theorem dX12_isIn_6 : decode cX12_isIn 6 = .ok (.if_icmp .ne 7, 3) := by decide +kernel
theorem dX12_isIn_9 : decode cX12_isIn 9 = .ok (.iconst 1, 1) := by decide +kernel
theorem dX12_isIn_10 : decode cX12_isIn 10 = .ok (.goto 4, 3) := by decide +kernel
theorem dX12_isIn_13 : decode cX12_isIn 13 = .ok (.iconst 0, 1) := by decide +kernel
theorem dX12_isIn_14 : decode cX12_isIn 14 = .ok (.ireturn, 1) := by decide +kernel
theorem dX12_lesser_0 : decode cX12_lesser 0 = .ok (.iload_n 0, 1) := by decide +kernel
theorem dX12_lesser_1 : decode cX12_lesser 1 = .ok (.iload_n 1, 1) := by decide +kernel
theorem dX12_lesser_2 : decode cX12_lesser 2 = .ok (.if_icmp .ge 7, 3) := by decide +kernel
theorem dX12_lesser_5 : decode cX12_lesser 5 = .ok (.iload_n 0, 1) := by decide +kernel
theorem dX12_lesser_6 : decode cX12_lesser 6 = .ok (.goto 4, 3) := by decide +kernel
theorem dX12_lesser_9 : decode cX12_lesser 9 = .ok (.iload_n 1, 1) := by decide +kernel
theorem dX12_lesser_10 : decode cX12_lesser 10 = .ok (.ireturn, 1) := by decide +kernel
theorem dX12_greater_0 : decode cX12_greater 0 = .ok (.iload_n 0, 1) := by decide +kernel
theorem dX12_greater_1 : decode cX12_greater 1 = .ok (.iload_n 1, 1) := by decide +kernel
theorem dX12_greater_2 : decode cX12_greater 2 = .ok (.if_icmp .le 7, 3) := by decide +kernel
theorem dX12_greater_5 : decode cX12_greater 5 = .ok (.iload_n 0, 1) := by decide +kernel
theorem dX12_greater_6 : decode cX12_greater 6 = .ok (.goto 4, 3) := by decide +kernel
theorem dX12_greater_9 : decode cX12_greater 9 = .ok (.iload_n 1, 1) := by decide +kernel
theorem dX12_greater_10 : decode cX12_greater 10 = .ok (.ireturn, 1) := by decide +kernel
theorem dX12_part_0 : decode cX12_part 0 = .ok (.lload_n 0, 1) := by decide +kernel
theorem dX12_part_1 : decode cX12_part 1 = .ok (.lstore 5, 2) := by decide +kernel
theorem dX12_part_3 : decode cX12_part 3 = .ok (.lload_n 2, 1) := by decide +kernel
theorem dX12_part_4 : decode cX12_part 4 = .ok (.lstore 7, 2) := by decide +kernel
theorem dX12_part_6 : decode cX12_part 6 = .ok (.lload 7, 2) := by decide +kernel
theorem dX12_part_8 : decode cX12_part 8 = .ok (.lconst 0, 1) := by decide +kernel
theorem dX12_part_9 : decode cX12_part 9 = .ok (.lcmp, 1) := by decide +kernel
theorem dX12_part_10 : decode cX12_part 10 = .ok (.ifCond .eq 21, 3) := by decide +kernel
theorem dX12_part_13 : decode cX12_part 13 = .ok (.lload 5, 2) := by decide +kernel
theorem dX12_part_15 : decode cX12_part 15 = .ok (.lload 7, 2) := by decide +kernel
theorem dX12_part_17 : decode cX12_part 17 = .ok (.lrem, 1) := by decide +kernel
theorem dX12_part_18 : decode cX12_part 18 = .ok (.lstore 9, 2) := by decide +kernel
theorem dX12_part_20 : decode cX12_part 20 = .ok (.lload 7, 2) := by decide +kernel
theorem dX12_part_22 : decode cX12_part 22 = .ok (.lstore 5, 2) := by decide +kernel
theorem dX12_part_24 : decode cX12_part 24 = .ok (.lload 9, 2) := by decide +kernel
theorem dX12_part_26 : decode cX12_part 26 = .ok (.lstore 7, 2) := by decide +kernel
theorem dX12_part_28 : decode cX12_part 28 = .ok (.goto (-22), 3) := by decide +kernel
theorem dX12_part_31 : decode cX12_part 31 = .ok (.iload 4, 2) := by decide +kernel
theorem dX12_part_33 : decode cX12_part 33 = .ok (.ifCond .ne 7, 3) := by decide +kernel
theorem dX12_part_36 : decode cX12_part 36 = .ok (.lload_n 0, 1) := by decide +kernel
theorem dX12_part_37 : decode cX12_part 37 = .ok (.goto 4, 3) := by decide +kernel
theorem dX12_part_40 : decode cX12_part 40 = .ok (.lload_n 2, 1) := by decide +kernel
theorem dX12_part_41 : decode cX12_part 41 = .ok (.lload 5, 2) := by decide +kernel
theorem dX12_part_43 : decode cX12_part 43 = .ok (.ldiv, 1) := by decide +kernel
theorem dX12_part_44 : decode cX12_part 44 = .ok (.lreturn, 1) := by decide +kernel
theorem dX12_finds_0 : decode cX12_finds 0 = .ok (.aload_n 0, 1) := by decide +kernel
theorem dX12_finds_1 : decode cX12_finds 1 = .ok (.iload_n 1, 1) := by decide +kernel
theorem dX12_finds_2 : decode cX12_finds 2 = .ok (.putfield 77, 3) := by decide +kernel
theorem dX12_finds_5 : decode cX12_finds 5 = .ok (.bipush (-10), 2) := by decide +kernel
theorem dX12_finds_7 : decode cX12_finds 7 = .ok (.iload_n 1, 1) := by decide +kernel
theorem dX12_finds_8 : decode cX12_finds 8 = .ok (.isub, 1) := by decide +kernel
theorem dX12_finds_9 : decode cX12_finds 9 = .ok (.ireturn, 1) := by decide +kernel
theorem dX12_isSheet_0 : decode cX12_isSheet 0 = .ok (.iload_n 0, 1) := by decide +kernel
theorem dX12_isSheet_1 : decode cX12_isSheet 1 = .ok (.i2l, 1) := by decide +kernel
theorem dX12_isSheet_2 : decode cX12_isSheet 2 = .ok (.lconst 0, 1) := by decide +kernel
theorem dX12_isSheet_3 : decode cX12_isSheet 3 = .ok (.ldc2_w 81, 3) := by decide +kernel
theorem dX12_isSheet_6 : decode cX12_isSheet 6 = .ok (.invokestatic 73, 3) := by decide +kernel
theorem dX12_isSheet_9 : decode cX12_isSheet 9 = .ok (.ireturn, 1) := by decide +kernel
theorem dX12_sheet_0 : decode cX12_sheet 0 = .ok (.iload_n 1, 1) := by decide +kernel
theorem dX12_sheet_1 : decode cX12_sheet 1 = .ok (.invokestatic 83, 3) := by decide +kernel
theorem dX12_sheet_4 : decode cX12_sheet 4 = .ok (.ifCond .eq 21, 3) := by decide +kernel
theorem dX12_sheet_7 : decode cX12_sheet 7 = .ok (.iload_n 2, 1) := by decide +kernel
theorem dX12_sheet_8 : decode cX12_sheet 8 = .ok (.i2l, 1) := by decide +kernel
theorem dX12_sheet_9 : decode cX12_sheet 9 = .ok (.lconst 0, 1) := by decide +kernel
theorem dX12_sheet_10 : decode cX12_sheet 10 = .ok (.ldc2_w 87, 3) := by decide +kernel
theorem dX12_sheet_13 : decode cX12_sheet 13 = .ok (.invokestatic 73, 3) := by decide +kernel
theorem dX12_sheet_16 : decode cX12_sheet 16 = .ok (.ifCond .eq 9, 3) := by decide +kernel
theorem dX12_sheet_19 : decode cX12_sheet 19 = .ok (.iload_n 3, 1) := by decide +kernel
theorem dX12_sheet_20 : decode cX12_sheet 20 = .ok (.bipush 60, 2) := by decide +kernel
theorem dX12_sheet_22 : decode cX12_sheet 22 = .ok (.if_icmp .le 6, 3) := by decide +kernel
theorem dX12_sheet_25 : decode cX12_sheet 25 = .ok (.bipush (-2), 2) := by decide +kernel
theorem dX12_sheet_27 : decode cX12_sheet 27 = .ok (.ireturn, 1) := by decide +kernel
theorem dX12_sheet_28 : decode cX12_sheet 28 = .ok (.iload_n 3, 1) := by decide +kernel
theorem dX12_sheet_29 : decode cX12_sheet 29 = .ok (.ifCond .ge 9, 3) := by decide +kernel
theorem dX12_sheet_32 : decode cX12_sheet 32 = .ok (.aload_n 0, 1) := by decide +kernel
theorem dX12_sheet_33 : decode cX12_sheet 33 = .ok (.iconst 5, 1) := by decide +kernel
theorem dX12_sheet_34 : decode cX12_sheet 34 = .ok (.invokevirtual 89, 3) := by decide +kernel
theorem dX12_sheet_37 : decode cX12_sheet 37 = .ok (.ireturn, 1) := by decide +kernel
theorem dX12_sheet_38 : decode cX12_sheet 38 = .ok (.aload_n 0, 1) := by decide +kernel
theorem dX12_sheet_39 : decode cX12_sheet 39 = .ok (.getfield 7, 3) := by decide +kernel
theorem dX12_sheet_42 : decode cX12_sheet 42 = .ok (.iload_n 1, 1) := by decide +kernel
theorem dX12_sheet_43 : decode cX12_sheet 43 = .ok (.iload_n 2, 1) := by decide +kernel
theorem dX12_sheet_44 : decode cX12_sheet 44 = .ok (.iastore, 1) := by decide +kernel
theorem dX12_sheet_45 : decode cX12_sheet 45 = .ok (.aload_n 0, 1) := by decide +kernel
theorem dX12_sheet_46 : decode cX12_sheet 46 = .ok (.getfield 13, 3) := by decide +kernel
theorem dX12_sheet_49 : decode cX12_sheet 49 = .ok (.iload_n 1, 1) := by decide +kernel
theorem dX12_sheet_50 : decode cX12_sheet 50 = .ok (.iload_n 3, 1) := by decide +kernel
theorem dX12_sheet_51 : decode cX12_sheet 51 = .ok (.iastore, 1) := by decide +kernel
theorem dX12_sheet_52 : decode cX12_sheet 52 = .ok (.iconst 0, 1) := by decide +kernel
theorem dX12_sheet_53 : decode cX12_sheet 53 = .ok (.istore 4, 2) := by decide +kernel
theorem dX12_sheet_55 : decode cX12_sheet 55 = .ok (.iload 4, 2) := by decide +kernel
theorem dX12_sheet_57 : decode cX12_sheet 57 = .ok (.iload_n 3, 1) := by decide +kernel
theorem dX12_sheet_58 : decode cX12_sheet 58 = .ok (.if_icmp .ge 22, 3) := by decide +kernel
theorem dX12_sheet_61 : decode cX12_sheet 61 = .ok (.aload_n 0, 1) := by decide +kernel
theorem dX12_sheet_62 : decode cX12_sheet 62 = .ok (.getfield 16, 3) := by decide +kernel
theorem dX12_sheet_65 : decode cX12_sheet 65 = .ok (.bipush 60, 2) := by decide +kernel
theorem dX12_sheet_67 : decode cX12_sheet 67 = .ok (.iload_n 1, 1) := by decide +kernel
theorem dX12_sheet_68 : decode cX12_sheet 68 = .ok (.imul, 1) := by decide +kernel
theorem dX12_sheet_69 : decode cX12_sheet 69 = .ok (.iload 4, 2) := by decide +kernel
theorem dX12_sheet_71 : decode cX12_sheet 71 = .ok (.iadd, 1) := by decide +kernel
theorem dX12_sheet_72 : decode cX12_sheet 72 = .ok (.iconst 0, 1) := by decide +kernel
theorem dX12_sheet_73 : decode cX12_sheet 73 = .ok (.iastore, 1) := by decide +kernel
theorem dX12_sheet_74 : decode cX12_sheet 74 = .ok (.iinc 4 1, 3) := by decide +kernel
theorem dX12_sheet_77 : decode cX12_sheet 77 = .ok (.goto (-22), 3) := by decide +kernel
theorem dX12_sheet_80 : decode cX12_sheet 80 = .ok (.iload_n 3, 1) := by decide +kernel
theorem dX12_sheet_81 : decode cX12_sheet 81 = .ok (.ireturn, 1) := by decide +kernel
theorem dX12_lose_0 : decode cX12_lose 0 = .ok (.iload_n 1, 1) := by decide +kernel
theorem dX12_lose_1 : decode cX12_lose 1 = .ok (.invokestatic 83, 3) := by decide +kernel
theorem dX12_lose_4 : decode cX12_lose 4 = .ok (.ifCond .ne 6, 3) := by decide +kernel
theorem dX12_lose_7 : decode cX12_lose 7 = .ok (.bipush (-2), 2) := by decide +kernel
theorem dX12_lose_9 : decode cX12_lose 9 = .ok (.ireturn, 1) := by decide +kernel
theorem dX12_lose_10 : decode cX12_lose 10 = .ok (.aload_n 0, 1) := by decide +kernel
theorem dX12_lose_11 : decode cX12_lose 11 = .ok (.getfield 7, 3) := by decide +kernel
theorem dX12_lose_14 : decode cX12_lose 14 = .ok (.iload_n 1, 1) := by decide +kernel
theorem dX12_lose_15 : decode cX12_lose 15 = .ok (.iaload, 1) := by decide +kernel
theorem dX12_lose_16 : decode cX12_lose 16 = .ok (.ifCond .ge 9, 3) := by decide +kernel
theorem dX12_lose_19 : decode cX12_lose 19 = .ok (.aload_n 0, 1) := by decide +kernel
theorem dX12_lose_20 : decode cX12_lose 20 = .ok (.iconst 1, 1) := by decide +kernel
theorem dX12_lose_21 : decode cX12_lose 21 = .ok (.invokevirtual 89, 3) := by decide +kernel
theorem dX12_lose_24 : decode cX12_lose 24 = .ok (.ireturn, 1) := by decide +kernel
theorem dX12_lose_25 : decode cX12_lose 25 = .ok (.aload_n 0, 1) := by decide +kernel
theorem dX12_lose_26 : decode cX12_lose 26 = .ok (.getfield 7, 3) := by decide +kernel
theorem dX12_lose_29 : decode cX12_lose 29 = .ok (.iload_n 1, 1) := by decide +kernel
theorem dX12_lose_30 : decode cX12_lose 30 = .ok (.iconst (-1), 1) := by decide +kernel
theorem dX12_lose_31 : decode cX12_lose 31 = .ok (.iastore, 1) := by decide +kernel
theorem dX12_lose_32 : decode cX12_lose 32 = .ok (.aload_n 0, 1) := by decide +kernel
theorem dX12_lose_33 : decode cX12_lose 33 = .ok (.getfield 13, 3) := by decide +kernel
theorem dX12_lose_36 : decode cX12_lose 36 = .ok (.iload_n 1, 1) := by decide +kernel
theorem dX12_lose_37 : decode cX12_lose 37 = .ok (.iaload, 1) := by decide +kernel
theorem dX12_lose_38 : decode cX12_lose 38 = .ok (.ireturn, 1) := by decide +kernel
theorem dX12_lacks_0 : decode cX12_lacks 0 = .ok (.aload_n 0, 1) := by decide +kernel
theorem dX12_lacks_1 : decode cX12_lacks 1 = .ok (.getfield 7, 3) := by decide +kernel
theorem dX12_lacks_4 : decode cX12_lacks 4 = .ok (.iload_n 1, 1) := by decide +kernel
theorem dX12_lacks_5 : decode cX12_lacks 5 = .ok (.iaload, 1) := by decide +kernel
theorem dX12_lacks_6 : decode cX12_lacks 6 = .ok (.ifCond .ge 9, 3) := by decide +kernel
theorem dX12_lacks_9 : decode cX12_lacks 9 = .ok (.aload_n 0, 1) := by decide +kernel
theorem dX12_lacks_10 : decode cX12_lacks 10 = .ok (.iconst 1, 1) := by decide +kernel
theorem dX12_lacks_11 : decode cX12_lacks 11 = .ok (.invokevirtual 89, 3) := by decide +kernel
theorem dX12_lacks_14 : decode cX12_lacks 14 = .ok (.ireturn, 1) := by decide +kernel
theorem dX12_lacks_15 : decode cX12_lacks 15 = .ok (.aload_n 0, 1) := by decide +kernel
theorem dX12_lacks_16 : decode cX12_lacks 16 = .ok (.getfield 7, 3) := by decide +kernel
theorem dX12_lacks_19 : decode cX12_lacks 19 = .ok (.iload_n 1, 1) := by decide +kernel
theorem dX12_lacks_20 : decode cX12_lacks 20 = .ok (.iaload, 1) := by decide +kernel
theorem dX12_lacks_21 : decode cX12_lacks 21 = .ok (.iload_n 2, 1) := by decide +kernel
theorem dX12_lacks_22 : decode cX12_lacks 22 = .ok (.if_icmp .eq 9, 3) := by decide +kernel
theorem dX12_lacks_25 : decode cX12_lacks 25 = .ok (.aload_n 0, 1) := by decide +kernel
theorem dX12_lacks_26 : decode cX12_lacks 26 = .ok (.iconst 3, 1) := by decide +kernel
theorem dX12_lacks_27 : decode cX12_lacks 27 = .ok (.invokevirtual 89, 3) := by decide +kernel
theorem dX12_lacks_30 : decode cX12_lacks 30 = .ok (.ireturn, 1) := by decide +kernel
theorem dX12_lacks_31 : decode cX12_lacks 31 = .ok (.iload_n 3, 1) := by decide +kernel
theorem dX12_lacks_32 : decode cX12_lacks 32 = .ok (.i2l, 1) := by decide +kernel
theorem dX12_lacks_33 : decode cX12_lacks 33 = .ok (.lconst 0, 1) := by decide +kernel
theorem dX12_lacks_34 : decode cX12_lacks 34 = .ok (.aload_n 0, 1) := by decide +kernel
theorem dX12_lacks_35 : decode cX12_lacks 35 = .ok (.getfield 13, 3) := by decide +kernel
theorem dX12_lacks_38 : decode cX12_lacks 38 = .ok (.iload_n 1, 1) := by decide +kernel
theorem dX12_lacks_39 : decode cX12_lacks 39 = .ok (.iaload, 1) := by decide +kernel
theorem dX12_lacks_40 : decode cX12_lacks 40 = .ok (.iconst 1, 1) := by decide +kernel
theorem dX12_lacks_41 : decode cX12_lacks 41 = .ok (.isub, 1) := by decide +kernel
theorem dX12_lacks_42 : decode cX12_lacks 42 = .ok (.i2l, 1) := by decide +kernel
theorem dX12_lacks_43 : decode cX12_lacks 43 = .ok (.invokestatic 73, 3) := by decide +kernel
theorem dX12_lacks_46 : decode cX12_lacks 46 = .ok (.ifCond .eq 7, 3) := by decide +kernel
theorem dX12_lacks_49 : decode cX12_lacks 49 = .ok (.iconst 0, 1) := by decide +kernel
theorem dX12_lacks_50 : decode cX12_lacks 50 = .ok (.goto 8, 3) := by decide +kernel
theorem dX12_lacks_53 : decode cX12_lacks 53 = .ok (.aload_n 0, 1) := by decide +kernel
theorem dX12_lacks_54 : decode cX12_lacks 54 = .ok (.iconst 2, 1) := by decide +kernel
theorem dX12_lacks_55 : decode cX12_lacks 55 = .ok (.invokevirtual 89, 3) := by decide +kernel
theorem dX12_lacks_58 : decode cX12_lacks 58 = .ok (.ireturn, 1) := by decide +kernel
theorem dX12_cut_0 : decode cX12_cut 0 = .ok (.iload_n 0, 1) := by decide +kernel
theorem dX12_cut_1 : decode cX12_cut 1 = .ok (.ifCond .ne 8, 3) := by decide +kernel
theorem dX12_cut_4 : decode cX12_cut 4 = .ok (.iload_n 1, 1) := by decide +kernel
theorem dX12_cut_5 : decode cX12_cut 5 = .ok (.i2b, 1) := by decide +kernel
theorem dX12_cut_6 : decode cX12_cut 6 = .ok (.goto 14, 3) := by decide +kernel
theorem dX12_cut_9 : decode cX12_cut 9 = .ok (.iload_n 0, 1) := by decide +kernel
theorem dX12_cut_10 : decode cX12_cut 10 = .ok (.iconst 1, 1) := by decide +kernel
theorem dX12_cut_11 : decode cX12_cut 11 = .ok (.if_icmp .ne 8, 3) := by decide +kernel
theorem dX12_cut_14 : decode cX12_cut 14 = .ok (.iload_n 1, 1) := by decide +kernel
theorem dX12_cut_15 : decode cX12_cut 15 = .ok (.i2s, 1) := by decide +kernel
theorem dX12_cut_16 : decode cX12_cut 16 = .ok (.goto 4, 3) := by decide +kernel
theorem dX12_cut_19 : decode cX12_cut 19 = .ok (.iload_n 1, 1) := by decide +kernel
theorem dX12_cut_20 : decode cX12_cut 20 = .ok (.ireturn, 1) := by decide +kernel
theorem dX12_lay_0 : decode cX12_lay 0 = .ok (.iload_n 1, 1) := by decide +kernel
theorem dX12_lay_1 : decode cX12_lay 1 = .ok (.invokestatic 83, 3) := by decide +kernel
theorem dX12_lay_4 : decode cX12_lay 4 = .ok (.ifCond .eq 15, 3) := by decide +kernel
theorem dX12_lay_7 : decode cX12_lay 7 = .ok (.iload_n 2, 1) := by decide +kernel
theorem dX12_lay_8 : decode cX12_lay 8 = .ok (.i2l, 1) := by decide +kernel
theorem dX12_lay_9 : decode cX12_lay 9 = .ok (.lconst 0, 1) := by decide +kernel
theorem dX12_lay_10 : decode cX12_lay 10 = .ok (.ldc2_w 87, 3) := by decide +kernel
theorem dX12_lay_13 : decode cX12_lay 13 = .ok (.invokestatic 73, 3) := by decide +kernel
theorem dX12_lay_16 : decode cX12_lay 16 = .ok (.ifCond .ne 6, 3) := by decide +kernel
theorem dX12_lay_19 : decode cX12_lay 19 = .ok (.bipush (-2), 2) := by decide +kernel
theorem dX12_lay_21 : decode cX12_lay 21 = .ok (.ireturn, 1) := by decide +kernel
theorem dX12_lay_22 : decode cX12_lay 22 = .ok (.aload_n 0, 1) := by decide +kernel
theorem dX12_lay_23 : decode cX12_lay 23 = .ok (.iload_n 1, 1) := by decide +kernel
theorem dX12_lay_24 : decode cX12_lay 24 = .ok (.iload_n 2, 1) := by decide +kernel
theorem dX12_lay_25 : decode cX12_lay 25 = .ok (.iload_n 3, 1) := by decide +kernel
theorem dX12_lay_26 : decode cX12_lay 26 = .ok (.invokevirtual 93, 3) := by decide +kernel
theorem dX12_lay_29 : decode cX12_lay 29 = .ok (.istore 5, 2) := by decide +kernel
theorem dX12_lay_31 : decode cX12_lay 31 = .ok (.iload 5, 2) := by decide +kernel
theorem dX12_lay_33 : decode cX12_lay 33 = .ok (.ifCond .eq 6, 3) := by decide +kernel
theorem dX12_lay_36 : decode cX12_lay 36 = .ok (.iload 5, 2) := by decide +kernel
theorem dX12_lay_38 : decode cX12_lay 38 = .ok (.ireturn, 1) := by decide +kernel
theorem dX12_lay_39 : decode cX12_lay 39 = .ok (.aload_n 0, 1) := by decide +kernel
theorem dX12_lay_40 : decode cX12_lay 40 = .ok (.getfield 16, 3) := by decide +kernel
theorem dX12_lay_43 : decode cX12_lay 43 = .ok (.bipush 60, 2) := by decide +kernel
theorem dX12_lay_45 : decode cX12_lay 45 = .ok (.iload_n 1, 1) := by decide +kernel
theorem dX12_lay_46 : decode cX12_lay 46 = .ok (.imul, 1) := by decide +kernel
theorem dX12_lay_47 : decode cX12_lay 47 = .ok (.iload_n 3, 1) := by decide +kernel
theorem dX12_lay_48 : decode cX12_lay 48 = .ok (.iadd, 1) := by decide +kernel
theorem dX12_lay_49 : decode cX12_lay 49 = .ok (.iload_n 2, 1) := by decide +kernel
theorem dX12_lay_50 : decode cX12_lay 50 = .ok (.iload 4, 2) := by decide +kernel
theorem dX12_lay_52 : decode cX12_lay 52 = .ok (.invokestatic 97, 3) := by decide +kernel
theorem dX12_lay_55 : decode cX12_lay 55 = .ok (.iastore, 1) := by decide +kernel
theorem dX12_lay_56 : decode cX12_lay 56 = .ok (.iconst 1, 1) := by decide +kernel
theorem dX12_lay_57 : decode cX12_lay 57 = .ok (.ireturn, 1) := by decide +kernel
theorem dX12_get_0 : decode cX12_get 0 = .ok (.iload_n 1, 1) := by decide +kernel
theorem dX12_get_1 : decode cX12_get 1 = .ok (.invokestatic 83, 3) := by decide +kernel
theorem dX12_get_4 : decode cX12_get 4 = .ok (.ifCond .eq 25, 3) := by decide +kernel
theorem dX12_get_7 : decode cX12_get 7 = .ok (.iload_n 2, 1) := by decide +kernel
theorem dX12_get_8 : decode cX12_get 8 = .ok (.i2l, 1) := by decide +kernel
theorem dX12_get_9 : decode cX12_get 9 = .ok (.lconst 0, 1) := by decide +kernel
theorem dX12_get_10 : decode cX12_get 10 = .ok (.ldc2_w 87, 3) := by decide +kernel
theorem dX12_get_13 : decode cX12_get 13 = .ok (.invokestatic 73, 3) := by decide +kernel
theorem dX12_get_16 : decode cX12_get 16 = .ok (.ifCond .eq 13, 3) := by decide +kernel
theorem dX12_get_19 : decode cX12_get 19 = .ok (.aload_n 0, 1) := by decide +kernel
theorem dX12_get_20 : decode cX12_get 20 = .ok (.iload_n 1, 1) := by decide +kernel
theorem dX12_get_21 : decode cX12_get 21 = .ok (.iload_n 2, 1) := by decide +kernel
theorem dX12_get_22 : decode cX12_get 22 = .ok (.iload_n 3, 1) := by decide +kernel
theorem dX12_get_23 : decode cX12_get 23 = .ok (.invokevirtual 93, 3) := by decide +kernel
theorem dX12_get_26 : decode cX12_get 26 = .ok (.ifCond .eq 6, 3) := by decide +kernel
theorem dX12_get_29 : decode cX12_get 29 = .ok (.ldc 101, 2) := by decide +kernel
theorem dX12_get_31 : decode cX12_get 31 = .ok (.ireturn, 1) := by decide +kernel
theorem dX12_get_32 : decode cX12_get 32 = .ok (.aload_n 0, 1) := by decide +kernel
theorem dX12_get_33 : decode cX12_get 33 = .ok (.getfield 16, 3) := by decide +kernel
theorem dX12_get_36 : decode cX12_get 36 = .ok (.bipush 60, 2) := by decide +kernel
theorem dX12_get_38 : decode cX12_get 38 = .ok (.iload_n 1, 1) := by decide +kernel
theorem dX12_get_39 : decode cX12_get 39 = .ok (.imul, 1) := by decide +kernel
theorem dX12_get_40 : decode cX12_get 40 = .ok (.iload_n 3, 1) := by decide +kernel
theorem dX12_get_41 : decode cX12_get 41 = .ok (.iadd, 1) := by decide +kernel
theorem dX12_get_42 : decode cX12_get 42 = .ok (.iaload, 1) := by decide +kernel
theorem dX12_get_43 : decode cX12_get 43 = .ok (.ireturn, 1) := by decide +kernel
theorem dX12_copy_0 : decode cX12_copy 0 = .ok (.iload_n 1, 1) := by decide +kernel
theorem dX12_copy_1 : decode cX12_copy 1 = .ok (.invokestatic 83, 3) := by decide +kernel
theorem dX12_copy_4 : decode cX12_copy 4 = .ok (.ifCond .eq 10, 3) := by decide +kernel
theorem dX12_copy_7 : decode cX12_copy 7 = .ok (.iload_n 3, 1) := by decide +kernel
theorem dX12_copy_8 : decode cX12_copy 8 = .ok (.invokestatic 83, 3) := by decide +kernel
theorem dX12_copy_11 : decode cX12_copy 11 = .ok (.ifCond .ne 6, 3) := by decide +kernel
theorem dX12_copy_14 : decode cX12_copy 14 = .ok (.bipush (-2), 2) := by decide +kernel
theorem dX12_copy_16 : decode cX12_copy 16 = .ok (.ireturn, 1) := by decide +kernel
theorem dX12_copy_17 : decode cX12_copy 17 = .ok (.aload_n 0, 1) := by decide +kernel
theorem dX12_copy_18 : decode cX12_copy 18 = .ok (.getfield 7, 3) := by decide +kernel
theorem dX12_copy_21 : decode cX12_copy 21 = .ok (.iload_n 1, 1) := by decide +kernel
theorem dX12_copy_22 : decode cX12_copy 22 = .ok (.iaload, 1) := by decide +kernel
theorem dX12_copy_23 : decode cX12_copy 23 = .ok (.ifCond .lt 12, 3) := by decide +kernel
theorem dX12_copy_26 : decode cX12_copy 26 = .ok (.aload_n 0, 1) := by decide +kernel
theorem dX12_copy_27 : decode cX12_copy 27 = .ok (.getfield 7, 3) := by decide +kernel
theorem dX12_copy_30 : decode cX12_copy 30 = .ok (.iload_n 3, 1) := by decide +kernel
theorem dX12_copy_31 : decode cX12_copy 31 = .ok (.iaload, 1) := by decide +kernel
theorem dX12_copy_32 : decode cX12_copy 32 = .ok (.ifCond .ge 9, 3) := by decide +kernel
theorem dX12_copy_35 : decode cX12_copy 35 = .ok (.aload_n 0, 1) := by decide +kernel
theorem dX12_copy_36 : decode cX12_copy 36 = .ok (.iconst 1, 1) := by decide +kernel
theorem dX12_copy_37 : decode cX12_copy 37 = .ok (.invokevirtual 89, 3) := by decide +kernel
theorem dX12_copy_40 : decode cX12_copy 40 = .ok (.ireturn, 1) := by decide +kernel
theorem dX12_copy_41 : decode cX12_copy 41 = .ok (.aload_n 0, 1) := by decide +kernel
theorem dX12_copy_42 : decode cX12_copy 42 = .ok (.getfield 7, 3) := by decide +kernel
theorem dX12_copy_45 : decode cX12_copy 45 = .ok (.iload_n 1, 1) := by decide +kernel
theorem dX12_copy_46 : decode cX12_copy 46 = .ok (.iaload, 1) := by decide +kernel
theorem dX12_copy_47 : decode cX12_copy 47 = .ok (.aload_n 0, 1) := by decide +kernel
theorem dX12_copy_48 : decode cX12_copy 48 = .ok (.getfield 7, 3) := by decide +kernel
theorem dX12_copy_51 : decode cX12_copy 51 = .ok (.iload_n 3, 1) := by decide +kernel
theorem dX12_copy_52 : decode cX12_copy 52 = .ok (.iaload, 1) := by decide +kernel
theorem dX12_copy_53 : decode cX12_copy 53 = .ok (.if_icmp .eq 9, 3) := by decide +kernel
theorem dX12_copy_56 : decode cX12_copy 56 = .ok (.aload_n 0, 1) := by decide +kernel
theorem dX12_copy_57 : decode cX12_copy 57 = .ok (.iconst 4, 1) := by decide +kernel
theorem dX12_copy_58 : decode cX12_copy 58 = .ok (.invokevirtual 89, 3) := by decide +kernel
theorem dX12_copy_61 : decode cX12_copy 61 = .ok (.ireturn, 1) := by decide +kernel
theorem dX12_copy_62 : decode cX12_copy 62 = .ok (.iload_n 2, 1) := by decide +kernel
theorem dX12_copy_63 : decode cX12_copy 63 = .ok (.ifCond .lt 48, 3) := by decide +kernel
theorem dX12_copy_66 : decode cX12_copy 66 = .ok (.iload 4, 2) := by decide +kernel
theorem dX12_copy_68 : decode cX12_copy 68 = .ok (.ifCond .lt 43, 3) := by decide +kernel
theorem dX12_copy_71 : decode cX12_copy 71 = .ok (.iload 5, 2) := by decide +kernel
theorem dX12_copy_73 : decode cX12_copy 73 = .ok (.ifCond .lt 38, 3) := by decide +kernel
theorem dX12_copy_76 : decode cX12_copy 76 = .ok (.iload_n 2, 1) := by decide +kernel
theorem dX12_copy_77 : decode cX12_copy 77 = .ok (.i2l, 1) := by decide +kernel
theorem dX12_copy_78 : decode cX12_copy 78 = .ok (.iload 5, 2) := by decide +kernel
theorem dX12_copy_80 : decode cX12_copy 80 = .ok (.i2l, 1) := by decide +kernel
theorem dX12_copy_81 : decode cX12_copy 81 = .ok (.ladd, 1) := by decide +kernel
theorem dX12_copy_82 : decode cX12_copy 82 = .ok (.aload_n 0, 1) := by decide +kernel
theorem dX12_copy_83 : decode cX12_copy 83 = .ok (.getfield 13, 3) := by decide +kernel
theorem dX12_copy_86 : decode cX12_copy 86 = .ok (.iload_n 1, 1) := by decide +kernel
theorem dX12_copy_87 : decode cX12_copy 87 = .ok (.iaload, 1) := by decide +kernel
theorem dX12_copy_88 : decode cX12_copy 88 = .ok (.i2l, 1) := by decide +kernel
theorem dX12_copy_89 : decode cX12_copy 89 = .ok (.lcmp, 1) := by decide +kernel
theorem dX12_copy_90 : decode cX12_copy 90 = .ok (.ifCond .gt 21, 3) := by decide +kernel
theorem dX12_copy_93 : decode cX12_copy 93 = .ok (.iload 4, 2) := by decide +kernel
theorem dX12_copy_95 : decode cX12_copy 95 = .ok (.i2l, 1) := by decide +kernel
theorem dX12_copy_96 : decode cX12_copy 96 = .ok (.iload 5, 2) := by decide +kernel
theorem dX12_copy_98 : decode cX12_copy 98 = .ok (.i2l, 1) := by decide +kernel
theorem dX12_copy_99 : decode cX12_copy 99 = .ok (.ladd, 1) := by decide +kernel
theorem dX12_copy_100 : decode cX12_copy 100 = .ok (.aload_n 0, 1) := by decide +kernel
theorem dX12_copy_101 : decode cX12_copy 101 = .ok (.getfield 13, 3) := by decide +kernel
theorem dX12_copy_104 : decode cX12_copy 104 = .ok (.iload_n 3, 1) := by decide +kernel
theorem dX12_copy_105 : decode cX12_copy 105 = .ok (.iaload, 1) := by decide +kernel
theorem dX12_copy_106 : decode cX12_copy 106 = .ok (.i2l, 1) := by decide +kernel
theorem dX12_copy_107 : decode cX12_copy 107 = .ok (.lcmp, 1) := by decide +kernel
theorem dX12_copy_108 : decode cX12_copy 108 = .ok (.ifCond .le 9, 3) := by decide +kernel
theorem dX12_copy_111 : decode cX12_copy 111 = .ok (.aload_n 0, 1) := by decide +kernel
theorem dX12_copy_112 : decode cX12_copy 112 = .ok (.iconst 2, 1) := by decide +kernel
theorem dX12_copy_113 : decode cX12_copy 113 = .ok (.invokevirtual 89, 3) := by decide +kernel
theorem dX12_copy_116 : decode cX12_copy 116 = .ok (.ireturn, 1) := by decide +kernel
theorem dX12_copy_117 : decode cX12_copy 117 = .ok (.iconst 0, 1) := by decide +kernel
theorem dX12_copy_118 : decode cX12_copy 118 = .ok (.istore 6, 2) := by decide +kernel
theorem dX12_copy_120 : decode cX12_copy 120 = .ok (.iload 6, 2) := by decide +kernel
theorem dX12_copy_122 : decode cX12_copy 122 = .ok (.iload 5, 2) := by decide +kernel
theorem dX12_copy_124 : decode cX12_copy 124 = .ok (.if_icmp .ge 30, 3) := by decide +kernel
theorem dX12_copy_127 : decode cX12_copy 127 = .ok (.aload_n 0, 1) := by decide +kernel
theorem dX12_copy_128 : decode cX12_copy 128 = .ok (.getfield 19, 3) := by decide +kernel
theorem dX12_copy_131 : decode cX12_copy 131 = .ok (.iload 6, 2) := by decide +kernel
theorem dX12_copy_133 : decode cX12_copy 133 = .ok (.aload_n 0, 1) := by decide +kernel
theorem dX12_copy_134 : decode cX12_copy 134 = .ok (.getfield 16, 3) := by decide +kernel
theorem dX12_copy_137 : decode cX12_copy 137 = .ok (.bipush 60, 2) := by decide +kernel
theorem dX12_copy_139 : decode cX12_copy 139 = .ok (.iload_n 1, 1) := by decide +kernel
theorem dX12_copy_140 : decode cX12_copy 140 = .ok (.imul, 1) := by decide +kernel
theorem dX12_copy_141 : decode cX12_copy 141 = .ok (.iload_n 2, 1) := by decide +kernel
theorem dX12_copy_142 : decode cX12_copy 142 = .ok (.iadd, 1) := by decide +kernel
theorem dX12_copy_143 : decode cX12_copy 143 = .ok (.iload 6, 2) := by decide +kernel
theorem dX12_copy_145 : decode cX12_copy 145 = .ok (.iadd, 1) := by decide +kernel
theorem dX12_copy_146 : decode cX12_copy 146 = .ok (.iaload, 1) := by decide +kernel
theorem dX12_copy_147 : decode cX12_copy 147 = .ok (.iastore, 1) := by decide +kernel
theorem dX12_copy_148 : decode cX12_copy 148 = .ok (.iinc 6 1, 3) := by decide +kernel
theorem dX12_copy_151 : decode cX12_copy 151 = .ok (.goto (-31), 3) := by decide +kernel
theorem dX12_copy_154 : decode cX12_copy 154 = .ok (.iconst 0, 1) := by decide +kernel
theorem dX12_copy_155 : decode cX12_copy 155 = .ok (.istore 6, 2) := by decide +kernel
theorem dX12_copy_157 : decode cX12_copy 157 = .ok (.iload 6, 2) := by decide +kernel
theorem dX12_copy_159 : decode cX12_copy 159 = .ok (.iload 5, 2) := by decide +kernel
theorem dX12_copy_161 : decode cX12_copy 161 = .ok (.if_icmp .ge 31, 3) := by decide +kernel
theorem dX12_copy_164 : decode cX12_copy 164 = .ok (.aload_n 0, 1) := by decide +kernel
theorem dX12_copy_165 : decode cX12_copy 165 = .ok (.getfield 16, 3) := by decide +kernel
theorem dX12_copy_168 : decode cX12_copy 168 = .ok (.bipush 60, 2) := by decide +kernel
theorem dX12_copy_170 : decode cX12_copy 170 = .ok (.iload_n 3, 1) := by decide +kernel
theorem dX12_copy_171 : decode cX12_copy 171 = .ok (.imul, 1) := by decide +kernel
theorem dX12_copy_172 : decode cX12_copy 172 = .ok (.iload 4, 2) := by decide +kernel
theorem dX12_copy_174 : decode cX12_copy 174 = .ok (.iadd, 1) := by decide +kernel
theorem dX12_copy_175 : decode cX12_copy 175 = .ok (.iload 6, 2) := by decide +kernel
theorem dX12_copy_177 : decode cX12_copy 177 = .ok (.iadd, 1) := by decide +kernel
theorem dX12_copy_178 : decode cX12_copy 178 = .ok (.aload_n 0, 1) := by decide +kernel
theorem dX12_copy_179 : decode cX12_copy 179 = .ok (.getfield 19, 3) := by decide +kernel
theorem dX12_copy_182 : decode cX12_copy 182 = .ok (.iload 6, 2) := by decide +kernel
theorem dX12_copy_184 : decode cX12_copy 184 = .ok (.iaload, 1) := by decide +kernel
theorem dX12_copy_185 : decode cX12_copy 185 = .ok (.iastore, 1) := by decide +kernel
theorem dX12_copy_186 : decode cX12_copy 186 = .ok (.iinc 6 1, 3) := by decide +kernel
theorem dX12_copy_189 : decode cX12_copy 189 = .ok (.goto (-32), 3) := by decide +kernel
theorem dX12_copy_192 : decode cX12_copy 192 = .ok (.iconst 1, 1) := by decide +kernel
theorem dX12_copy_193 : decode cX12_copy 193 = .ok (.ireturn, 1) := by decide +kernel
theorem dX12_type_0 : decode cX12_type 0 = .ok (.iload_n 1, 1) := by decide +kernel
theorem dX12_type_1 : decode cX12_type 1 = .ok (.invokestatic 102, 3) := by decide +kernel
theorem dX12_type_4 : decode cX12_type 4 = .ok (.ifCond .eq 15, 3) := by decide +kernel
theorem dX12_type_7 : decode cX12_type 7 = .ok (.iload_n 2, 1) := by decide +kernel
theorem dX12_type_8 : decode cX12_type 8 = .ok (.i2l, 1) := by decide +kernel
theorem dX12_type_9 : decode cX12_type 9 = .ok (.lconst 0, 1) := by decide +kernel
theorem dX12_type_10 : decode cX12_type 10 = .ok (.ldc2_w 105, 3) := by decide +kernel
theorem dX12_type_13 : decode cX12_type 13 = .ok (.invokestatic 73, 3) := by decide +kernel
theorem dX12_type_16 : decode cX12_type 16 = .ok (.ifCond .ne 6, 3) := by decide +kernel
theorem dX12_type_19 : decode cX12_type 19 = .ok (.bipush (-2), 2) := by decide +kernel
theorem dX12_type_21 : decode cX12_type 21 = .ok (.ireturn, 1) := by decide +kernel
theorem dX12_type_22 : decode cX12_type 22 = .ok (.aload_n 0, 1) := by decide +kernel
theorem dX12_type_23 : decode cX12_type 23 = .ok (.getfield 25, 3) := by decide +kernel
theorem dX12_type_26 : decode cX12_type 26 = .ok (.iload_n 1, 1) := by decide +kernel
end
section
theorem dX12_type_27 : decode cX12_type 27 = .ok (.iaload, 1) := by decide +kernel
theorem dX12_type_28 : decode cX12_type 28 = .ok (.iload_n 1, 1) := by decide +kernel
theorem dX12_type_29 : decode cX12_type 29 = .ok (.ifCond .ne 8, 3) := by decide +kernel
theorem dX12_type_32 : decode cX12_type 32 = .ok (.bipush 47, 2) := by decide +kernel
theorem dX12_type_34 : decode cX12_type 34 = .ok (.goto 5, 3) := by decide +kernel
theorem dX12_type_37 : decode cX12_type 37 = .ok (.bipush 12, 2) := by decide +kernel
theorem dX12_type_39 : decode cX12_type 39 = .ok (.if_icmp .ne 6, 3) := by decide +kernel
theorem dX12_type_42 : decode cX12_type 42 = .ok (.bipush (-4), 2) := by decide +kernel
theorem dX12_type_44 : decode cX12_type 44 = .ok (.ireturn, 1) := by decide +kernel
theorem dX12_type_45 : decode cX12_type 45 = .ok (.aload_n 0, 1) := by decide +kernel
theorem dX12_type_46 : decode cX12_type 46 = .ok (.getfield 22, 3) := by decide +kernel
theorem dX12_type_49 : decode cX12_type 49 = .ok (.bipush 48, 2) := by decide +kernel
theorem dX12_type_51 : decode cX12_type 51 = .ok (.iload_n 1, 1) := by decide +kernel
theorem dX12_type_52 : decode cX12_type 52 = .ok (.imul, 1) := by decide +kernel
theorem dX12_type_53 : decode cX12_type 53 = .ok (.aload_n 0, 1) := by decide +kernel
theorem dX12_type_54 : decode cX12_type 54 = .ok (.getfield 25, 3) := by decide +kernel
theorem dX12_type_57 : decode cX12_type 57 = .ok (.iload_n 1, 1) := by decide +kernel
theorem dX12_type_58 : decode cX12_type 58 = .ok (.iaload, 1) := by decide +kernel
theorem dX12_type_59 : decode cX12_type 59 = .ok (.iadd, 1) := by decide +kernel
theorem dX12_type_60 : decode cX12_type 60 = .ok (.iload_n 2, 1) := by decide +kernel
theorem dX12_type_61 : decode cX12_type 61 = .ok (.iastore, 1) := by decide +kernel
theorem dX12_type_62 : decode cX12_type 62 = .ok (.aload_n 0, 1) := by decide +kernel
theorem dX12_type_63 : decode cX12_type 63 = .ok (.getfield 25, 3) := by decide +kernel
theorem dX12_type_66 : decode cX12_type 66 = .ok (.iload_n 1, 1) := by decide +kernel
theorem dX12_type_67 : decode cX12_type 67 = .ok (.dup2, 1) := by decide +kernel
theorem dX12_type_68 : decode cX12_type 68 = .ok (.iaload, 1) := by decide +kernel
theorem dX12_type_69 : decode cX12_type 69 = .ok (.iconst 1, 1) := by decide +kernel
theorem dX12_type_70 : decode cX12_type 70 = .ok (.iadd, 1) := by decide +kernel
theorem dX12_type_71 : decode cX12_type 71 = .ok (.iastore, 1) := by decide +kernel
theorem dX12_type_72 : decode cX12_type 72 = .ok (.aload_n 0, 1) := by decide +kernel
theorem dX12_type_73 : decode cX12_type 73 = .ok (.getfield 25, 3) := by decide +kernel
theorem dX12_type_76 : decode cX12_type 76 = .ok (.iload_n 1, 1) := by decide +kernel
theorem dX12_type_77 : decode cX12_type 77 = .ok (.iaload, 1) := by decide +kernel
theorem dX12_type_78 : decode cX12_type 78 = .ok (.ireturn, 1) := by decide +kernel
theorem dX12_wipe_0 : decode cX12_wipe 0 = .ok (.iload_n 1, 1) := by decide +kernel
theorem dX12_wipe_1 : decode cX12_wipe 1 = .ok (.invokestatic 102, 3) := by decide +kernel
theorem dX12_wipe_4 : decode cX12_wipe 4 = .ok (.ifCond .ne 6, 3) := by decide +kernel
theorem dX12_wipe_7 : decode cX12_wipe 7 = .ok (.bipush (-2), 2) := by decide +kernel
theorem dX12_wipe_9 : decode cX12_wipe 9 = .ok (.ireturn, 1) := by decide +kernel
theorem dX12_wipe_10 : decode cX12_wipe 10 = .ok (.aload_n 0, 1) := by decide +kernel
theorem dX12_wipe_11 : decode cX12_wipe 11 = .ok (.getfield 25, 3) := by decide +kernel
theorem dX12_wipe_14 : decode cX12_wipe 14 = .ok (.iload_n 1, 1) := by decide +kernel
theorem dX12_wipe_15 : decode cX12_wipe 15 = .ok (.iaload, 1) := by decide +kernel
theorem dX12_wipe_16 : decode cX12_wipe 16 = .ok (.istore_n 2, 1) := by decide +kernel
theorem dX12_wipe_17 : decode cX12_wipe 17 = .ok (.aload_n 0, 1) := by decide +kernel
theorem dX12_wipe_18 : decode cX12_wipe 18 = .ok (.getfield 25, 3) := by decide +kernel
theorem dX12_wipe_21 : decode cX12_wipe 21 = .ok (.iload_n 1, 1) := by decide +kernel
theorem dX12_wipe_22 : decode cX12_wipe 22 = .ok (.iconst 0, 1) := by decide +kernel
theorem dX12_wipe_23 : decode cX12_wipe 23 = .ok (.iastore, 1) := by decide +kernel
theorem dX12_wipe_24 : decode cX12_wipe 24 = .ok (.iload_n 2, 1) := by decide +kernel
theorem dX12_wipe_25 : decode cX12_wipe 25 = .ok (.ireturn, 1) := by decide +kernel
theorem dX12_undo_0 : decode cX12_undo 0 = .ok (.iload_n 1, 1) := by decide +kernel
theorem dX12_undo_1 : decode cX12_undo 1 = .ok (.invokestatic 102, 3) := by decide +kernel
theorem dX12_undo_4 : decode cX12_undo 4 = .ok (.ifCond .ne 6, 3) := by decide +kernel
theorem dX12_undo_7 : decode cX12_undo 7 = .ok (.bipush (-2), 2) := by decide +kernel
theorem dX12_undo_9 : decode cX12_undo 9 = .ok (.ireturn, 1) := by decide +kernel
theorem dX12_undo_10 : decode cX12_undo 10 = .ok (.aload_n 0, 1) := by decide +kernel
theorem dX12_undo_11 : decode cX12_undo 11 = .ok (.getfield 25, 3) := by decide +kernel
theorem dX12_undo_14 : decode cX12_undo 14 = .ok (.iload_n 1, 1) := by decide +kernel
theorem dX12_undo_15 : decode cX12_undo 15 = .ok (.iaload, 1) := by decide +kernel
theorem dX12_undo_16 : decode cX12_undo 16 = .ok (.ifCond .ne 6, 3) := by decide +kernel
theorem dX12_undo_19 : decode cX12_undo 19 = .ok (.bipush (-3), 2) := by decide +kernel
theorem dX12_undo_21 : decode cX12_undo 21 = .ok (.ireturn, 1) := by decide +kernel
theorem dX12_undo_22 : decode cX12_undo 22 = .ok (.aload_n 0, 1) := by decide +kernel
theorem dX12_undo_23 : decode cX12_undo 23 = .ok (.getfield 25, 3) := by decide +kernel
theorem dX12_undo_26 : decode cX12_undo 26 = .ok (.iload_n 1, 1) := by decide +kernel
theorem dX12_undo_27 : decode cX12_undo 27 = .ok (.dup2, 1) := by decide +kernel
theorem dX12_undo_28 : decode cX12_undo 28 = .ok (.iaload, 1) := by decide +kernel
theorem dX12_undo_29 : decode cX12_undo 29 = .ok (.iconst 1, 1) := by decide +kernel
theorem dX12_undo_30 : decode cX12_undo 30 = .ok (.isub, 1) := by decide +kernel
theorem dX12_undo_31 : decode cX12_undo 31 = .ok (.iastore, 1) := by decide +kernel
theorem dX12_undo_32 : decode cX12_undo 32 = .ok (.aload_n 0, 1) := by decide +kernel
theorem dX12_undo_33 : decode cX12_undo 33 = .ok (.getfield 25, 3) := by decide +kernel
theorem dX12_undo_36 : decode cX12_undo 36 = .ok (.iload_n 1, 1) := by decide +kernel
theorem dX12_undo_37 : decode cX12_undo 37 = .ok (.iaload, 1) := by decide +kernel
theorem dX12_undo_38 : decode cX12_undo 38 = .ok (.ireturn, 1) := by decide +kernel
theorem dX12_figureOf_0 : decode cX12_figureOf 0 = .ok (.iload_n 0, 1) := by decide +kernel
theorem dX12_figureOf_1 : decode cX12_figureOf 1 = .ok (.i2l, 1) := by decide +kernel
theorem dX12_figureOf_2 : decode cX12_figureOf 2 = .ok (.ldc2_w 107, 3) := by decide +kernel
theorem dX12_figureOf_5 : decode cX12_figureOf 5 = .ok (.bipush 48, 2) := by decide +kernel
theorem dX12_figureOf_7 : decode cX12_figureOf 7 = .ok (.iload_n 1, 1) := by decide +kernel
theorem dX12_figureOf_8 : decode cX12_figureOf 8 = .ok (.iadd, 1) := by decide +kernel
theorem dX12_figureOf_9 : decode cX12_figureOf 9 = .ok (.i2l, 1) := by decide +kernel
theorem dX12_figureOf_10 : decode cX12_figureOf 10 = .ok (.invokestatic 73, 3) := by decide +kernel
theorem dX12_figureOf_13 : decode cX12_figureOf 13 = .ok (.ifCond .eq 10, 3) := by decide +kernel
theorem dX12_figureOf_16 : decode cX12_figureOf 16 = .ok (.iload_n 0, 1) := by decide +kernel
theorem dX12_figureOf_17 : decode cX12_figureOf 17 = .ok (.bipush 48, 2) := by decide +kernel
theorem dX12_figureOf_19 : decode cX12_figureOf 19 = .ok (.isub, 1) := by decide +kernel
theorem dX12_figureOf_20 : decode cX12_figureOf 20 = .ok (.goto 5, 3) := by decide +kernel
theorem dX12_figureOf_23 : decode cX12_figureOf 23 = .ok (.bipush (-9), 2) := by decide +kernel
theorem dX12_figureOf_25 : decode cX12_figureOf 25 = .ok (.ireturn, 1) := by decide +kernel
theorem dX12_felonOf_0 : decode cX12_felonOf 0 = .ok (.iload_n 0, 1) := by decide +kernel
theorem dX12_felonOf_1 : decode cX12_felonOf 1 = .ok (.tableswitch 135 0 5 #[39, 135, 135, 82, 105, 122], 39) := by decide +kernel
theorem dX12_felonOf_40 : decode cX12_felonOf 40 = .ok (.iload_n 1, 1) := by decide +kernel
theorem dX12_felonOf_41 : decode cX12_felonOf 41 = .ok (.bipush 102, 2) := by decide +kernel
theorem dX12_felonOf_43 : decode cX12_felonOf 43 = .ok (.if_icmp .ne 7, 3) := by decide +kernel
theorem dX12_felonOf_46 : decode cX12_felonOf 46 = .ok (.iconst 0, 1) := by decide +kernel
theorem dX12_felonOf_47 : decode cX12_felonOf 47 = .ok (.goto 35, 3) := by decide +kernel
theorem dX12_felonOf_50 : decode cX12_felonOf 50 = .ok (.iload_n 1, 1) := by decide +kernel
theorem dX12_felonOf_51 : decode cX12_felonOf 51 = .ok (.bipush 99, 2) := by decide +kernel
theorem dX12_felonOf_53 : decode cX12_felonOf 53 = .ok (.if_icmp .ne 7, 3) := by decide +kernel
theorem dX12_felonOf_56 : decode cX12_felonOf 56 = .ok (.iconst 1, 1) := by decide +kernel
theorem dX12_felonOf_57 : decode cX12_felonOf 57 = .ok (.goto 25, 3) := by decide +kernel
theorem dX12_felonOf_60 : decode cX12_felonOf 60 = .ok (.iload_n 1, 1) := by decide +kernel
theorem dX12_felonOf_61 : decode cX12_felonOf 61 = .ok (.bipush 114, 2) := by decide +kernel
theorem dX12_felonOf_63 : decode cX12_felonOf 63 = .ok (.if_icmp .ne 7, 3) := by decide +kernel
theorem dX12_felonOf_66 : decode cX12_felonOf 66 = .ok (.iconst 2, 1) := by decide +kernel
theorem dX12_felonOf_67 : decode cX12_felonOf 67 = .ok (.goto 15, 3) := by decide +kernel
theorem dX12_felonOf_70 : decode cX12_felonOf 70 = .ok (.iload_n 1, 1) := by decide +kernel
theorem dX12_felonOf_71 : decode cX12_felonOf 71 = .ok (.bipush 100, 2) := by decide +kernel
theorem dX12_felonOf_73 : decode cX12_felonOf 73 = .ok (.if_icmp .ne 7, 3) := by decide +kernel
theorem dX12_felonOf_76 : decode cX12_felonOf 76 = .ok (.iconst 3, 1) := by decide +kernel
theorem dX12_felonOf_77 : decode cX12_felonOf 77 = .ok (.goto 5, 3) := by decide +kernel
theorem dX12_felonOf_80 : decode cX12_felonOf 80 = .ok (.bipush (-9), 2) := by decide +kernel
theorem dX12_felonOf_82 : decode cX12_felonOf 82 = .ok (.ireturn, 1) := by decide +kernel
theorem dX12_felonOf_83 : decode cX12_felonOf 83 = .ok (.iload_n 1, 1) := by decide +kernel
theorem dX12_felonOf_84 : decode cX12_felonOf 84 = .ok (.bipush 103, 2) := by decide +kernel
theorem dX12_felonOf_86 : decode cX12_felonOf 86 = .ok (.if_icmp .ne 7, 3) := by decide +kernel
theorem dX12_felonOf_89 : decode cX12_felonOf 89 = .ok (.iconst 1, 1) := by decide +kernel
theorem dX12_felonOf_90 : decode cX12_felonOf 90 = .ok (.goto 15, 3) := by decide +kernel
theorem dX12_felonOf_93 : decode cX12_felonOf 93 = .ok (.iload_n 1, 1) := by decide +kernel
theorem dX12_felonOf_94 : decode cX12_felonOf 94 = .ok (.bipush 105, 2) := by decide +kernel
theorem dX12_felonOf_96 : decode cX12_felonOf 96 = .ok (.if_icmp .ne 7, 3) := by decide +kernel
theorem dX12_felonOf_99 : decode cX12_felonOf 99 = .ok (.iconst 0, 1) := by decide +kernel
theorem dX12_felonOf_100 : decode cX12_felonOf 100 = .ok (.goto 5, 3) := by decide +kernel
theorem dX12_felonOf_103 : decode cX12_felonOf 103 = .ok (.bipush (-9), 2) := by decide +kernel
theorem dX12_felonOf_105 : decode cX12_felonOf 105 = .ok (.ireturn, 1) := by decide +kernel
theorem dX12_felonOf_106 : decode cX12_felonOf 106 = .ok (.iload_n 1, 1) := by decide +kernel
theorem dX12_felonOf_107 : decode cX12_felonOf 107 = .ok (.bipush 46, 2) := by decide +kernel
theorem dX12_felonOf_109 : decode cX12_felonOf 109 = .ok (.if_icmp .ne 7, 3) := by decide +kernel
theorem dX12_felonOf_112 : decode cX12_felonOf 112 = .ok (.iconst (-1), 1) := by decide +kernel
theorem dX12_felonOf_113 : decode cX12_felonOf 113 = .ok (.goto 9, 3) := by decide +kernel
theorem dX12_felonOf_116 : decode cX12_felonOf 116 = .ok (.iload_n 1, 1) := by decide +kernel
theorem dX12_felonOf_117 : decode cX12_felonOf 117 = .ok (.bipush 7, 2) := by decide +kernel
theorem dX12_felonOf_119 : decode cX12_felonOf 119 = .ok (.invokestatic 109, 3) := by decide +kernel
theorem dX12_felonOf_122 : decode cX12_felonOf 122 = .ok (.ireturn, 1) := by decide +kernel
theorem dX12_felonOf_123 : decode cX12_felonOf 123 = .ok (.iload_n 1, 1) := by decide +kernel
theorem dX12_felonOf_124 : decode cX12_felonOf 124 = .ok (.bipush 59, 2) := by decide +kernel
theorem dX12_felonOf_126 : decode cX12_felonOf 126 = .ok (.if_icmp .ne 7, 3) := by decide +kernel
theorem dX12_felonOf_129 : decode cX12_felonOf 129 = .ok (.iconst 0, 1) := by decide +kernel
theorem dX12_felonOf_130 : decode cX12_felonOf 130 = .ok (.goto 5, 3) := by decide +kernel
theorem dX12_felonOf_133 : decode cX12_felonOf 133 = .ok (.bipush (-9), 2) := by decide +kernel
theorem dX12_felonOf_135 : decode cX12_felonOf 135 = .ok (.ireturn, 1) := by decide +kernel
theorem dX12_felonOf_136 : decode cX12_felonOf 136 = .ok (.iload_n 1, 1) := by decide +kernel
theorem dX12_felonOf_137 : decode cX12_felonOf 137 = .ok (.bipush 9, 2) := by decide +kernel
theorem dX12_felonOf_139 : decode cX12_felonOf 139 = .ok (.invokestatic 109, 3) := by decide +kernel
theorem dX12_felonOf_142 : decode cX12_felonOf 142 = .ok (.ireturn, 1) := by decide +kernel
theorem dX12_readsFelons_0 : decode cX12_readsFelons 0 = .ok (.aload_n 0, 1) := by decide +kernel
theorem dX12_readsFelons_1 : decode cX12_readsFelons 1 = .ok (.iconst 0, 1) := by decide +kernel
theorem dX12_readsFelons_2 : decode cX12_readsFelons 2 = .ok (.putfield 112, 3) := by decide +kernel
theorem dX12_readsFelons_5 : decode cX12_readsFelons 5 = .ok (.aload_n 0, 1) := by decide +kernel
theorem dX12_readsFelons_6 : decode cX12_readsFelons 6 = .ok (.getfield 25, 3) := by decide +kernel
theorem dX12_readsFelons_9 : decode cX12_readsFelons 9 = .ok (.iconst 0, 1) := by decide +kernel
theorem dX12_readsFelons_10 : decode cX12_readsFelons 10 = .ok (.iaload, 1) := by decide +kernel
theorem dX12_readsFelons_11 : decode cX12_readsFelons 11 = .ok (.istore_n 1, 1) := by decide +kernel
theorem dX12_readsFelons_12 : decode cX12_readsFelons 12 = .ok (.iconst 0, 1) := by decide +kernel
theorem dX12_readsFelons_13 : decode cX12_readsFelons 13 = .ok (.istore_n 2, 1) := by decide +kernel
theorem dX12_readsFelons_14 : decode cX12_readsFelons 14 = .ok (.iload_n 2, 1) := by decide +kernel
theorem dX12_readsFelons_15 : decode cX12_readsFelons 15 = .ok (.iload_n 1, 1) := by decide +kernel
theorem dX12_readsFelons_16 : decode cX12_readsFelons 16 = .ok (.if_icmp .ge 79, 3) := by decide +kernel
theorem dX12_readsFelons_19 : decode cX12_readsFelons 19 = .ok (.iload_n 2, 1) := by decide +kernel
theorem dX12_readsFelons_20 : decode cX12_readsFelons 20 = .ok (.bipush 6, 2) := by decide +kernel
theorem dX12_readsFelons_22 : decode cX12_readsFelons 22 = .ok (.irem, 1) := by decide +kernel
theorem dX12_readsFelons_23 : decode cX12_readsFelons 23 = .ok (.istore_n 3, 1) := by decide +kernel
theorem dX12_readsFelons_24 : decode cX12_readsFelons 24 = .ok (.iload_n 3, 1) := by decide +kernel
theorem dX12_readsFelons_25 : decode cX12_readsFelons 25 = .ok (.aload_n 0, 1) := by decide +kernel
theorem dX12_readsFelons_26 : decode cX12_readsFelons 26 = .ok (.getfield 22, 3) := by decide +kernel
theorem dX12_readsFelons_29 : decode cX12_readsFelons 29 = .ok (.iload_n 2, 1) := by decide +kernel
theorem dX12_readsFelons_30 : decode cX12_readsFelons 30 = .ok (.iaload, 1) := by decide +kernel
theorem dX12_readsFelons_31 : decode cX12_readsFelons 31 = .ok (.invokestatic 115, 3) := by decide +kernel
theorem dX12_readsFelons_34 : decode cX12_readsFelons 34 = .ok (.istore 4, 2) := by decide +kernel
theorem dX12_readsFelons_36 : decode cX12_readsFelons 36 = .ok (.iload 4, 2) := by decide +kernel
theorem dX12_readsFelons_38 : decode cX12_readsFelons 38 = .ok (.bipush (-9), 2) := by decide +kernel
theorem dX12_readsFelons_40 : decode cX12_readsFelons 40 = .ok (.if_icmp .ne 10, 3) := by decide +kernel
theorem dX12_readsFelons_43 : decode cX12_readsFelons 43 = .ok (.aload_n 0, 1) := by decide +kernel
theorem dX12_readsFelons_44 : decode cX12_readsFelons 44 = .ok (.iconst 0, 1) := by decide +kernel
theorem dX12_readsFelons_45 : decode cX12_readsFelons 45 = .ok (.putfield 112, 3) := by decide +kernel
theorem dX12_readsFelons_48 : decode cX12_readsFelons 48 = .ok (.iload_n 2, 1) := by decide +kernel
theorem dX12_readsFelons_49 : decode cX12_readsFelons 49 = .ok (.ireturn, 1) := by decide +kernel
theorem dX12_readsFelons_50 : decode cX12_readsFelons 50 = .ok (.iload_n 3, 1) := by decide +kernel
theorem dX12_readsFelons_51 : decode cX12_readsFelons 51 = .ok (.iconst 5, 1) := by decide +kernel
theorem dX12_readsFelons_52 : decode cX12_readsFelons 52 = .ok (.if_icmp .ge 18, 3) := by decide +kernel
theorem dX12_readsFelons_55 : decode cX12_readsFelons 55 = .ok (.aload_n 0, 1) := by decide +kernel
theorem dX12_readsFelons_56 : decode cX12_readsFelons 56 = .ok (.getfield 28, 3) := by decide +kernel
theorem dX12_readsFelons_59 : decode cX12_readsFelons 59 = .ok (.iconst 5, 1) := by decide +kernel
theorem dX12_readsFelons_60 : decode cX12_readsFelons 60 = .ok (.iload_n 2, 1) := by decide +kernel
theorem dX12_readsFelons_61 : decode cX12_readsFelons 61 = .ok (.bipush 6, 2) := by decide +kernel
theorem dX12_readsFelons_63 : decode cX12_readsFelons 63 = .ok (.idiv, 1) := by decide +kernel
theorem dX12_readsFelons_64 : decode cX12_readsFelons 64 = .ok (.imul, 1) := by decide +kernel
theorem dX12_readsFelons_65 : decode cX12_readsFelons 65 = .ok (.iload_n 3, 1) := by decide +kernel
theorem dX12_readsFelons_66 : decode cX12_readsFelons 66 = .ok (.iadd, 1) := by decide +kernel
theorem dX12_readsFelons_67 : decode cX12_readsFelons 67 = .ok (.iload 4, 2) := by decide +kernel
theorem dX12_readsFelons_69 : decode cX12_readsFelons 69 = .ok (.iastore, 1) := by decide +kernel
theorem dX12_readsFelons_70 : decode cX12_readsFelons 70 = .ok (.aload_n 0, 1) := by decide +kernel
theorem dX12_readsFelons_71 : decode cX12_readsFelons 71 = .ok (.dup, 1) := by decide +kernel
theorem dX12_readsFelons_72 : decode cX12_readsFelons 72 = .ok (.getfield 112, 3) := by decide +kernel
theorem dX12_readsFelons_75 : decode cX12_readsFelons 75 = .ok (.iload_n 3, 1) := by decide +kernel
theorem dX12_readsFelons_76 : decode cX12_readsFelons 76 = .ok (.iconst 4, 1) := by decide +kernel
theorem dX12_readsFelons_77 : decode cX12_readsFelons 77 = .ok (.if_icmp .ne 7, 3) := by decide +kernel
theorem dX12_readsFelons_80 : decode cX12_readsFelons 80 = .ok (.iconst 1, 1) := by decide +kernel
theorem dX12_readsFelons_81 : decode cX12_readsFelons 81 = .ok (.goto 4, 3) := by decide +kernel
theorem dX12_readsFelons_84 : decode cX12_readsFelons 84 = .ok (.iconst 0, 1) := by decide +kernel
theorem dX12_readsFelons_85 : decode cX12_readsFelons 85 = .ok (.iadd, 1) := by decide +kernel
theorem dX12_readsFelons_86 : decode cX12_readsFelons 86 = .ok (.putfield 112, 3) := by decide +kernel
theorem dX12_readsFelons_89 : decode cX12_readsFelons 89 = .ok (.iinc 2 1, 3) := by decide +kernel
theorem dX12_readsFelons_92 : decode cX12_readsFelons 92 = .ok (.goto (-78), 3) := by decide +kernel
theorem dX12_readsFelons_95 : decode cX12_readsFelons 95 = .ok (.iload_n 1, 1) := by decide +kernel
theorem dX12_readsFelons_96 : decode cX12_readsFelons 96 = .ok (.ifCond .le 18, 3) := by decide +kernel
theorem dX12_readsFelons_99 : decode cX12_readsFelons 99 = .ok (.iload_n 1, 1) := by decide +kernel
theorem dX12_readsFelons_100 : decode cX12_readsFelons 100 = .ok (.bipush 6, 2) := by decide +kernel
theorem dX12_readsFelons_102 : decode cX12_readsFelons 102 = .ok (.irem, 1) := by decide +kernel
theorem dX12_readsFelons_103 : decode cX12_readsFelons 103 = .ok (.iconst 5, 1) := by decide +kernel
theorem dX12_readsFelons_104 : decode cX12_readsFelons 104 = .ok (.if_icmp .eq 10, 3) := by decide +kernel
theorem dX12_readsFelons_107 : decode cX12_readsFelons 107 = .ok (.aload_n 0, 1) := by decide +kernel
theorem dX12_readsFelons_108 : decode cX12_readsFelons 108 = .ok (.iconst 0, 1) := by decide +kernel
theorem dX12_readsFelons_109 : decode cX12_readsFelons 109 = .ok (.putfield 112, 3) := by decide +kernel
theorem dX12_readsFelons_112 : decode cX12_readsFelons 112 = .ok (.iload_n 1, 1) := by decide +kernel
theorem dX12_readsFelons_113 : decode cX12_readsFelons 113 = .ok (.ireturn, 1) := by decide +kernel
theorem dX12_readsFelons_114 : decode cX12_readsFelons 114 = .ok (.iconst (-1), 1) := by decide +kernel
theorem dX12_readsFelons_115 : decode cX12_readsFelons 115 = .ok (.ireturn, 1) := by decide +kernel
theorem dX12_readsNames_0 : decode cX12_readsNames 0 = .ok (.aload_n 0, 1) := by decide +kernel
theorem dX12_readsNames_1 : decode cX12_readsNames 1 = .ok (.iconst 0, 1) := by decide +kernel
theorem dX12_readsNames_2 : decode cX12_readsNames 2 = .ok (.putfield 118, 3) := by decide +kernel
theorem dX12_readsNames_5 : decode cX12_readsNames 5 = .ok (.iconst 0, 1) := by decide +kernel
theorem dX12_readsNames_6 : decode cX12_readsNames 6 = .ok (.istore_n 1, 1) := by decide +kernel
theorem dX12_readsNames_7 : decode cX12_readsNames 7 = .ok (.iload_n 1, 1) := by decide +kernel
theorem dX12_readsNames_8 : decode cX12_readsNames 8 = .ok (.aload_n 0, 1) := by decide +kernel
theorem dX12_readsNames_9 : decode cX12_readsNames 9 = .ok (.getfield 25, 3) := by decide +kernel
theorem dX12_readsNames_12 : decode cX12_readsNames 12 = .ok (.iconst 1, 1) := by decide +kernel
theorem dX12_readsNames_13 : decode cX12_readsNames 13 = .ok (.iaload, 1) := by decide +kernel
theorem dX12_readsNames_14 : decode cX12_readsNames 14 = .ok (.if_icmp .ge 60, 3) := by decide +kernel
theorem dX12_readsNames_17 : decode cX12_readsNames 17 = .ok (.aload_n 0, 1) := by decide +kernel
theorem dX12_readsNames_18 : decode cX12_readsNames 18 = .ok (.getfield 22, 3) := by decide +kernel
theorem dX12_readsNames_21 : decode cX12_readsNames 21 = .ok (.bipush 48, 2) := by decide +kernel
theorem dX12_readsNames_23 : decode cX12_readsNames 23 = .ok (.iload_n 1, 1) := by decide +kernel
theorem dX12_readsNames_24 : decode cX12_readsNames 24 = .ok (.iadd, 1) := by decide +kernel
theorem dX12_readsNames_25 : decode cX12_readsNames 25 = .ok (.iaload, 1) := by decide +kernel
theorem dX12_readsNames_26 : decode cX12_readsNames 26 = .ok (.istore_n 2, 1) := by decide +kernel
theorem dX12_readsNames_27 : decode cX12_readsNames 27 = .ok (.iload_n 2, 1) := by decide +kernel
theorem dX12_readsNames_28 : decode cX12_readsNames 28 = .ok (.i2l, 1) := by decide +kernel
theorem dX12_readsNames_29 : decode cX12_readsNames 29 = .ok (.ldc2_w 121, 3) := by decide +kernel
theorem dX12_readsNames_32 : decode cX12_readsNames 32 = .ok (.ldc2_w 123, 3) := by decide +kernel
theorem dX12_readsNames_35 : decode cX12_readsNames 35 = .ok (.invokestatic 73, 3) := by decide +kernel
theorem dX12_readsNames_38 : decode cX12_readsNames 38 = .ok (.ifCond .ne 10, 3) := by decide +kernel
theorem dX12_readsNames_41 : decode cX12_readsNames 41 = .ok (.aload_n 0, 1) := by decide +kernel
theorem dX12_readsNames_42 : decode cX12_readsNames 42 = .ok (.iconst 0, 1) := by decide +kernel
theorem dX12_readsNames_43 : decode cX12_readsNames 43 = .ok (.putfield 118, 3) := by decide +kernel
theorem dX12_readsNames_46 : decode cX12_readsNames 46 = .ok (.iload_n 1, 1) := by decide +kernel
theorem dX12_readsNames_47 : decode cX12_readsNames 47 = .ok (.ireturn, 1) := by decide +kernel
theorem dX12_readsNames_48 : decode cX12_readsNames 48 = .ok (.aload_n 0, 1) := by decide +kernel
theorem dX12_readsNames_49 : decode cX12_readsNames 49 = .ok (.getfield 31, 3) := by decide +kernel
theorem dX12_readsNames_52 : decode cX12_readsNames 52 = .ok (.iload_n 1, 1) := by decide +kernel
theorem dX12_readsNames_53 : decode cX12_readsNames 53 = .ok (.iload_n 2, 1) := by decide +kernel
theorem dX12_readsNames_54 : decode cX12_readsNames 54 = .ok (.bipush 97, 2) := by decide +kernel
theorem dX12_readsNames_56 : decode cX12_readsNames 56 = .ok (.isub, 1) := by decide +kernel
theorem dX12_readsNames_57 : decode cX12_readsNames 57 = .ok (.iastore, 1) := by decide +kernel
theorem dX12_readsNames_58 : decode cX12_readsNames 58 = .ok (.aload_n 0, 1) := by decide +kernel
theorem dX12_readsNames_59 : decode cX12_readsNames 59 = .ok (.dup, 1) := by decide +kernel
theorem dX12_readsNames_60 : decode cX12_readsNames 60 = .ok (.getfield 118, 3) := by decide +kernel
theorem dX12_readsNames_63 : decode cX12_readsNames 63 = .ok (.iconst 1, 1) := by decide +kernel
theorem dX12_readsNames_64 : decode cX12_readsNames 64 = .ok (.iadd, 1) := by decide +kernel
theorem dX12_readsNames_65 : decode cX12_readsNames 65 = .ok (.putfield 118, 3) := by decide +kernel
theorem dX12_readsNames_68 : decode cX12_readsNames 68 = .ok (.iinc 1 1, 3) := by decide +kernel
theorem dX12_readsNames_71 : decode cX12_readsNames 71 = .ok (.goto (-64), 3) := by decide +kernel
theorem dX12_readsNames_74 : decode cX12_readsNames 74 = .ok (.iconst (-1), 1) := by decide +kernel
theorem dX12_readsNames_75 : decode cX12_readsNames 75 = .ok (.ireturn, 1) := by decide +kernel
theorem dX12_fault_0 : decode cX12_fault 0 = .ok (.iload_n 1, 1) := by decide +kernel
theorem dX12_fault_1 : decode cX12_fault 1 = .ok (.invokestatic 102, 3) := by decide +kernel
theorem dX12_fault_4 : decode cX12_fault 4 = .ok (.ifCond .ne 8, 3) := by decide +kernel
theorem dX12_fault_7 : decode cX12_fault 7 = .ok (.bipush (-2), 2) := by decide +kernel
theorem dX12_fault_9 : decode cX12_fault 9 = .ok (.goto 18, 3) := by decide +kernel
theorem dX12_fault_12 : decode cX12_fault 12 = .ok (.iload_n 1, 1) := by decide +kernel
theorem dX12_fault_13 : decode cX12_fault 13 = .ok (.ifCond .ne 10, 3) := by decide +kernel
theorem dX12_fault_16 : decode cX12_fault 16 = .ok (.aload_n 0, 1) := by decide +kernel
theorem dX12_fault_17 : decode cX12_fault 17 = .ok (.invokevirtual 125, 3) := by decide +kernel
theorem dX12_fault_20 : decode cX12_fault 20 = .ok (.goto 7, 3) := by decide +kernel
theorem dX12_fault_23 : decode cX12_fault 23 = .ok (.aload_n 0, 1) := by decide +kernel
theorem dX12_fault_24 : decode cX12_fault 24 = .ok (.invokevirtual 129, 3) := by decide +kernel
theorem dX12_fault_27 : decode cX12_fault 27 = .ok (.ireturn, 1) := by decide +kernel
theorem dX12_isFelon_0 : decode cX12_isFelon 0 = .ok (.iload_n 1, 1) := by decide +kernel
theorem dX12_isFelon_1 : decode cX12_isFelon 1 = .ok (.i2l, 1) := by decide +kernel
theorem dX12_isFelon_2 : decode cX12_isFelon 2 = .ok (.lconst 0, 1) := by decide +kernel
theorem dX12_isFelon_3 : decode cX12_isFelon 3 = .ok (.aload_n 0, 1) := by decide +kernel
theorem dX12_isFelon_4 : decode cX12_isFelon 4 = .ok (.getfield 112, 3) := by decide +kernel
theorem dX12_isFelon_7 : decode cX12_isFelon 7 = .ok (.iconst 1, 1) := by decide +kernel
theorem dX12_isFelon_8 : decode cX12_isFelon 8 = .ok (.isub, 1) := by decide +kernel
theorem dX12_isFelon_9 : decode cX12_isFelon 9 = .ok (.i2l, 1) := by decide +kernel
theorem dX12_isFelon_10 : decode cX12_isFelon 10 = .ok (.invokestatic 73, 3) := by decide +kernel
theorem dX12_isFelon_13 : decode cX12_isFelon 13 = .ok (.ireturn, 1) := by decide +kernel
theorem dX12_felon_0 : decode cX12_felon 0 = .ok (.aload_n 0, 1) := by decide +kernel
theorem dX12_felon_1 : decode cX12_felon 1 = .ok (.invokevirtual 125, 3) := by decide +kernel
theorem dX12_felon_4 : decode cX12_felon 4 = .ok (.pop, 1) := by decide +kernel
theorem dX12_felon_5 : decode cX12_felon 5 = .ok (.aload_n 0, 1) := by decide +kernel
theorem dX12_felon_6 : decode cX12_felon 6 = .ok (.iload_n 1, 1) := by decide +kernel
theorem dX12_felon_7 : decode cX12_felon 7 = .ok (.invokevirtual 132, 3) := by decide +kernel
theorem dX12_felon_10 : decode cX12_felon 10 = .ok (.ifCond .eq 28, 3) := by decide +kernel
theorem dX12_felon_13 : decode cX12_felon 13 = .ok (.iload_n 2, 1) := by decide +kernel
theorem dX12_felon_14 : decode cX12_felon 14 = .ok (.i2l, 1) := by decide +kernel
theorem dX12_felon_15 : decode cX12_felon 15 = .ok (.lconst 0, 1) := by decide +kernel
theorem dX12_felon_16 : decode cX12_felon 16 = .ok (.ldc2_w 135, 3) := by decide +kernel
theorem dX12_felon_19 : decode cX12_felon 19 = .ok (.invokestatic 73, 3) := by decide +kernel
theorem dX12_felon_22 : decode cX12_felon 22 = .ok (.ifCond .eq 16, 3) := by decide +kernel
theorem dX12_felon_25 : decode cX12_felon 25 = .ok (.aload_n 0, 1) := by decide +kernel
theorem dX12_felon_26 : decode cX12_felon 26 = .ok (.getfield 28, 3) := by decide +kernel
theorem dX12_felon_29 : decode cX12_felon 29 = .ok (.iconst 5, 1) := by decide +kernel
theorem dX12_felon_30 : decode cX12_felon 30 = .ok (.iload_n 1, 1) := by decide +kernel
theorem dX12_felon_31 : decode cX12_felon 31 = .ok (.imul, 1) := by decide +kernel
theorem dX12_felon_32 : decode cX12_felon 32 = .ok (.iload_n 2, 1) := by decide +kernel
theorem dX12_felon_33 : decode cX12_felon 33 = .ok (.iadd, 1) := by decide +kernel
theorem dX12_felon_34 : decode cX12_felon 34 = .ok (.iaload, 1) := by decide +kernel
theorem dX12_felon_35 : decode cX12_felon 35 = .ok (.goto 5, 3) := by decide +kernel
theorem dX12_felon_38 : decode cX12_felon 38 = .ok (.bipush (-2), 2) := by decide +kernel
theorem dX12_felon_40 : decode cX12_felon 40 = .ok (.ireturn, 1) := by decide +kernel
theorem dX12_name_0 : decode cX12_name 0 = .ok (.aload_n 0, 1) := by decide +kernel
theorem dX12_name_1 : decode cX12_name 1 = .ok (.invokevirtual 129, 3) := by decide +kernel
theorem dX12_name_4 : decode cX12_name 4 = .ok (.pop, 1) := by decide +kernel
theorem dX12_name_5 : decode cX12_name 5 = .ok (.iload_n 1, 1) := by decide +kernel
theorem dX12_name_6 : decode cX12_name 6 = .ok (.i2l, 1) := by decide +kernel
theorem dX12_name_7 : decode cX12_name 7 = .ok (.lconst 0, 1) := by decide +kernel
theorem dX12_name_8 : decode cX12_name 8 = .ok (.ldc2_w 137, 3) := by decide +kernel
theorem dX12_name_11 : decode cX12_name 11 = .ok (.invokestatic 73, 3) := by decide +kernel
theorem dX12_name_14 : decode cX12_name 14 = .ok (.ifCond .ne 8, 3) := by decide +kernel
theorem dX12_name_17 : decode cX12_name 17 = .ok (.bipush (-2), 2) := by decide +kernel
theorem dX12_name_19 : decode cX12_name 19 = .ok (.goto 21, 3) := by decide +kernel
theorem dX12_name_22 : decode cX12_name 22 = .ok (.iload_n 1, 1) := by decide +kernel
theorem dX12_name_23 : decode cX12_name 23 = .ok (.aload_n 0, 1) := by decide +kernel
theorem dX12_name_24 : decode cX12_name 24 = .ok (.getfield 118, 3) := by decide +kernel
theorem dX12_name_27 : decode cX12_name 27 = .ok (.if_icmp .ge 12, 3) := by decide +kernel
theorem dX12_name_30 : decode cX12_name 30 = .ok (.aload_n 0, 1) := by decide +kernel
theorem dX12_name_31 : decode cX12_name 31 = .ok (.getfield 31, 3) := by decide +kernel
theorem dX12_name_34 : decode cX12_name 34 = .ok (.iload_n 1, 1) := by decide +kernel
theorem dX12_name_35 : decode cX12_name 35 = .ok (.iaload, 1) := by decide +kernel
theorem dX12_name_36 : decode cX12_name 36 = .ok (.goto 4, 3) := by decide +kernel
theorem dX12_name_39 : decode cX12_name 39 = .ok (.iconst (-1), 1) := by decide +kernel
theorem dX12_name_40 : decode cX12_name 40 = .ok (.ireturn, 1) := by decide +kernel
theorem dX12_set_0 : decode cX12_set 0 = .ok (.iload_n 1, 1) := by decide +kernel
theorem dX12_set_1 : decode cX12_set 1 = .ok (.i2l, 1) := by decide +kernel
theorem dX12_set_2 : decode cX12_set 2 = .ok (.lconst 0, 1) := by decide +kernel
theorem dX12_set_3 : decode cX12_set 3 = .ok (.ldc2_w 87, 3) := by decide +kernel
theorem dX12_set_6 : decode cX12_set 6 = .ok (.invokestatic 73, 3) := by decide +kernel
theorem dX12_set_9 : decode cX12_set 9 = .ok (.ifCond .eq 35, 3) := by decide +kernel
theorem dX12_set_12 : decode cX12_set 12 = .ok (.iload_n 2, 1) := by decide +kernel
theorem dX12_set_13 : decode cX12_set 13 = .ok (.i2l, 1) := by decide +kernel
theorem dX12_set_14 : decode cX12_set 14 = .ok (.iload_n 1, 1) := by decide +kernel
theorem dX12_set_15 : decode cX12_set 15 = .ok (.iconst 1, 1) := by decide +kernel
theorem dX12_set_16 : decode cX12_set 16 = .ok (.if_icmp .ne 7, 3) := by decide +kernel
theorem dX12_set_19 : decode cX12_set 19 = .ok (.lconst 1, 1) := by decide +kernel
theorem dX12_set_20 : decode cX12_set 20 = .ok (.goto 4, 3) := by decide +kernel
theorem dX12_set_23 : decode cX12_set 23 = .ok (.lconst 0, 1) := by decide +kernel
theorem dX12_set_24 : decode cX12_set 24 = .ok (.iload_n 1, 1) := by decide +kernel
theorem dX12_set_25 : decode cX12_set 25 = .ok (.iconst 1, 1) := by decide +kernel
theorem dX12_set_26 : decode cX12_set 26 = .ok (.if_icmp .ne 9, 3) := by decide +kernel
theorem dX12_set_29 : decode cX12_set 29 = .ok (.ldc2_w 139, 3) := by decide +kernel
theorem dX12_set_32 : decode cX12_set 32 = .ok (.goto 6, 3) := by decide +kernel
theorem dX12_set_35 : decode cX12_set 35 = .ok (.ldc2_w 141, 3) := by decide +kernel
theorem dX12_set_38 : decode cX12_set 38 = .ok (.invokestatic 73, 3) := by decide +kernel
theorem dX12_set_41 : decode cX12_set 41 = .ok (.ifCond .ne 6, 3) := by decide +kernel
theorem dX12_set_44 : decode cX12_set 44 = .ok (.bipush (-2), 2) := by decide +kernel
theorem dX12_set_46 : decode cX12_set 46 = .ok (.ireturn, 1) := by decide +kernel
theorem dX12_set_47 : decode cX12_set 47 = .ok (.aload_n 0, 1) := by decide +kernel
theorem dX12_set_48 : decode cX12_set 48 = .ok (.getfield 34, 3) := by decide +kernel
theorem dX12_set_51 : decode cX12_set 51 = .ok (.iload_n 1, 1) := by decide +kernel
theorem dX12_set_52 : decode cX12_set 52 = .ok (.iaload, 1) := by decide +kernel
theorem dX12_set_53 : decode cX12_set 53 = .ok (.istore_n 3, 1) := by decide +kernel
theorem dX12_set_54 : decode cX12_set 54 = .ok (.aload_n 0, 1) := by decide +kernel
theorem dX12_set_55 : decode cX12_set 55 = .ok (.getfield 34, 3) := by decide +kernel
theorem dX12_set_58 : decode cX12_set 58 = .ok (.iload_n 1, 1) := by decide +kernel
theorem dX12_set_59 : decode cX12_set 59 = .ok (.iload_n 2, 1) := by decide +kernel
theorem dX12_set_60 : decode cX12_set 60 = .ok (.iastore, 1) := by decide +kernel
theorem dX12_set_61 : decode cX12_set 61 = .ok (.iload_n 3, 1) := by decide +kernel
theorem dX12_set_62 : decode cX12_set 62 = .ok (.ireturn, 1) := by decide +kernel
theorem dX12_endOf_0 : decode cX12_endOf 0 = .ok (.aload_n 0, 1) := by decide +kernel
theorem dX12_endOf_1 : decode cX12_endOf 1 = .ok (.getfield 28, 3) := by decide +kernel
theorem dX12_endOf_4 : decode cX12_endOf 4 = .ok (.iconst 5, 1) := by decide +kernel
theorem dX12_endOf_5 : decode cX12_endOf 5 = .ok (.iload_n 1, 1) := by decide +kernel
theorem dX12_endOf_6 : decode cX12_endOf 6 = .ok (.imul, 1) := by decide +kernel
theorem dX12_endOf_7 : decode cX12_endOf 7 = .ok (.iaload, 1) := by decide +kernel
theorem dX12_endOf_8 : decode cX12_endOf 8 = .ok (.istore_n 2, 1) := by decide +kernel
theorem dX12_endOf_9 : decode cX12_endOf 9 = .ok (.iload_n 2, 1) := by decide +kernel
theorem dX12_endOf_10 : decode cX12_endOf 10 = .ok (.iconst 3, 1) := by decide +kernel
theorem dX12_endOf_11 : decode cX12_endOf 11 = .ok (.if_icmp .ne 5, 3) := by decide +kernel
theorem dX12_endOf_14 : decode cX12_endOf 14 = .ok (.iconst 4, 1) := by decide +kernel
theorem dX12_endOf_15 : decode cX12_endOf 15 = .ok (.ireturn, 1) := by decide +kernel
theorem dX12_endOf_16 : decode cX12_endOf 16 = .ok (.iload_n 2, 1) := by decide +kernel
theorem dX12_endOf_17 : decode cX12_endOf 17 = .ok (.iconst 1, 1) := by decide +kernel
theorem dX12_endOf_18 : decode cX12_endOf 18 = .ok (.if_icmp .ne 19, 3) := by decide +kernel
theorem dX12_endOf_21 : decode cX12_endOf 21 = .ok (.aload_n 0, 1) := by decide +kernel
theorem dX12_endOf_22 : decode cX12_endOf 22 = .ok (.getfield 28, 3) := by decide +kernel
theorem dX12_endOf_25 : decode cX12_endOf 25 = .ok (.iconst 5, 1) := by decide +kernel
theorem dX12_endOf_26 : decode cX12_endOf 26 = .ok (.iload_n 1, 1) := by decide +kernel
theorem dX12_endOf_27 : decode cX12_endOf 27 = .ok (.imul, 1) := by decide +kernel
theorem dX12_endOf_28 : decode cX12_endOf 28 = .ok (.iconst 3, 1) := by decide +kernel
theorem dX12_endOf_29 : decode cX12_endOf 29 = .ok (.iadd, 1) := by decide +kernel
theorem dX12_endOf_30 : decode cX12_endOf 30 = .ok (.iaload, 1) := by decide +kernel
theorem dX12_endOf_31 : decode cX12_endOf 31 = .ok (.iconst 1, 1) := by decide +kernel
theorem dX12_endOf_32 : decode cX12_endOf 32 = .ok (.if_icmp .ne 5, 3) := by decide +kernel
theorem dX12_endOf_35 : decode cX12_endOf 35 = .ok (.iconst 1, 1) := by decide +kernel
theorem dX12_endOf_36 : decode cX12_endOf 36 = .ok (.ireturn, 1) := by decide +kernel
theorem dX12_endOf_37 : decode cX12_endOf 37 = .ok (.iload_n 2, 1) := by decide +kernel
theorem dX12_endOf_38 : decode cX12_endOf 38 = .ok (.iconst 2, 1) := by decide +kernel
theorem dX12_endOf_39 : decode cX12_endOf 39 = .ok (.if_icmp .ne 26, 3) := by decide +kernel
theorem dX12_endOf_42 : decode cX12_endOf 42 = .ok (.aload_n 0, 1) := by decide +kernel
theorem dX12_endOf_43 : decode cX12_endOf 43 = .ok (.getfield 28, 3) := by decide +kernel
theorem dX12_endOf_46 : decode cX12_endOf 46 = .ok (.iconst 5, 1) := by decide +kernel
theorem dX12_endOf_47 : decode cX12_endOf 47 = .ok (.iload_n 1, 1) := by decide +kernel
theorem dX12_endOf_48 : decode cX12_endOf 48 = .ok (.imul, 1) := by decide +kernel
theorem dX12_endOf_49 : decode cX12_endOf 49 = .ok (.iconst 2, 1) := by decide +kernel
theorem dX12_endOf_50 : decode cX12_endOf 50 = .ok (.iadd, 1) := by decide +kernel
theorem dX12_endOf_51 : decode cX12_endOf 51 = .ok (.iaload, 1) := by decide +kernel
theorem dX12_endOf_52 : decode cX12_endOf 52 = .ok (.aload_n 0, 1) := by decide +kernel
theorem dX12_endOf_53 : decode cX12_endOf 53 = .ok (.getfield 34, 3) := by decide +kernel
theorem dX12_endOf_56 : decode cX12_endOf 56 = .ok (.iconst 2, 1) := by decide +kernel
theorem dX12_endOf_57 : decode cX12_endOf 57 = .ok (.iaload, 1) := by decide +kernel
theorem dX12_endOf_58 : decode cX12_endOf 58 = .ok (.if_icmp .lt 7, 3) := by decide +kernel
theorem dX12_endOf_61 : decode cX12_endOf 61 = .ok (.iconst 2, 1) := by decide +kernel
theorem dX12_endOf_62 : decode cX12_endOf 62 = .ok (.goto 4, 3) := by decide +kernel
theorem dX12_endOf_65 : decode cX12_endOf 65 = .ok (.iconst 3, 1) := by decide +kernel
theorem dX12_endOf_66 : decode cX12_endOf 66 = .ok (.ireturn, 1) := by decide +kernel
theorem dX12_winsBy_0 : decode cX12_winsBy 0 = .ok (.bipush 8, 2) := by decide +kernel
theorem dX12_winsBy_2 : decode cX12_winsBy 2 = .ok (.iload_n 2, 1) := by decide +kernel
theorem dX12_winsBy_3 : decode cX12_winsBy 3 = .ok (.iadd, 1) := by decide +kernel
theorem dX12_winsBy_4 : decode cX12_winsBy 4 = .ok (.aload_n 0, 1) := by decide +kernel
theorem dX12_winsBy_5 : decode cX12_winsBy 5 = .ok (.getfield 28, 3) := by decide +kernel
theorem dX12_winsBy_8 : decode cX12_winsBy 8 = .ok (.iconst 5, 1) := by decide +kernel
theorem dX12_winsBy_9 : decode cX12_winsBy 9 = .ok (.iload_n 1, 1) := by decide +kernel
theorem dX12_winsBy_10 : decode cX12_winsBy 10 = .ok (.imul, 1) := by decide +kernel
theorem dX12_winsBy_11 : decode cX12_winsBy 11 = .ok (.iconst 1, 1) := by decide +kernel
theorem dX12_winsBy_12 : decode cX12_winsBy 12 = .ok (.iadd, 1) := by decide +kernel
theorem dX12_winsBy_13 : decode cX12_winsBy 13 = .ok (.iaload, 1) := by decide +kernel
theorem dX12_winsBy_14 : decode cX12_winsBy 14 = .ok (.isub, 1) := by decide +kernel
theorem dX12_winsBy_15 : decode cX12_winsBy 15 = .ok (.iconst 0, 1) := by decide +kernel
theorem dX12_winsBy_16 : decode cX12_winsBy 16 = .ok (.invokestatic 143, 3) := by decide +kernel
theorem dX12_winsBy_19 : decode cX12_winsBy 19 = .ok (.bipush 16, 2) := by decide +kernel
theorem dX12_winsBy_21 : decode cX12_winsBy 21 = .ok (.invokestatic 146, 3) := by decide +kernel
theorem dX12_winsBy_24 : decode cX12_winsBy 24 = .ok (.ireturn, 1) := by decide +kernel
theorem dX12_strongBehind_0 : decode cX12_strongBehind 0 = .ok (.iload_n 2, 1) := by decide +kernel
theorem dX12_strongBehind_1 : decode cX12_strongBehind 1 = .ok (.iconst 3, 1) := by decide +kernel
theorem dX12_strongBehind_2 : decode cX12_strongBehind 2 = .ok (.if_icmp .ne 13, 3) := by decide +kernel
theorem dX12_strongBehind_5 : decode cX12_strongBehind 5 = .ok (.iload_n 1, 1) := by decide +kernel
theorem dX12_strongBehind_6 : decode cX12_strongBehind 6 = .ok (.iconst 1, 1) := by decide +kernel
theorem dX12_strongBehind_7 : decode cX12_strongBehind 7 = .ok (.isub, 1) := by decide +kernel
theorem dX12_strongBehind_8 : decode cX12_strongBehind 8 = .ok (.iconst 0, 1) := by decide +kernel
theorem dX12_strongBehind_9 : decode cX12_strongBehind 9 = .ok (.invokestatic 143, 3) := by decide +kernel
theorem dX12_strongBehind_12 : decode cX12_strongBehind 12 = .ok (.goto 29, 3) := by decide +kernel
theorem dX12_strongBehind_15 : decode cX12_strongBehind 15 = .ok (.iload_n 2, 1) := by decide +kernel
theorem dX12_strongBehind_16 : decode cX12_strongBehind 16 = .ok (.iconst 1, 1) := by decide +kernel
theorem dX12_strongBehind_17 : decode cX12_strongBehind 17 = .ok (.if_icmp .eq 8, 3) := by decide +kernel
theorem dX12_strongBehind_20 : decode cX12_strongBehind 20 = .ok (.iload_n 2, 1) := by decide +kernel
theorem dX12_strongBehind_21 : decode cX12_strongBehind 21 = .ok (.iconst 2, 1) := by decide +kernel
theorem dX12_strongBehind_22 : decode cX12_strongBehind 22 = .ok (.if_icmp .ne 18, 3) := by decide +kernel
theorem dX12_strongBehind_25 : decode cX12_strongBehind 25 = .ok (.iload_n 1, 1) := by decide +kernel
theorem dX12_strongBehind_26 : decode cX12_strongBehind 26 = .ok (.iconst 1, 1) := by decide +kernel
theorem dX12_strongBehind_27 : decode cX12_strongBehind 27 = .ok (.iadd, 1) := by decide +kernel
theorem dX12_strongBehind_28 : decode cX12_strongBehind 28 = .ok (.aload_n 0, 1) := by decide +kernel
theorem dX12_strongBehind_29 : decode cX12_strongBehind 29 = .ok (.getfield 34, 3) := by decide +kernel
theorem dX12_strongBehind_32 : decode cX12_strongBehind 32 = .ok (.iconst 0, 1) := by decide +kernel
theorem dX12_strongBehind_33 : decode cX12_strongBehind 33 = .ok (.iaload, 1) := by decide +kernel
theorem dX12_strongBehind_34 : decode cX12_strongBehind 34 = .ok (.invokestatic 146, 3) := by decide +kernel
theorem dX12_strongBehind_37 : decode cX12_strongBehind 37 = .ok (.goto 4, 3) := by decide +kernel
theorem dX12_strongBehind_40 : decode cX12_strongBehind 40 = .ok (.iload_n 1, 1) := by decide +kernel
theorem dX12_strongBehind_41 : decode cX12_strongBehind 41 = .ok (.ireturn, 1) := by decide +kernel
theorem dX12_goes_0 : decode cX12_goes 0 = .ok (.iconst 0, 1) := by decide +kernel
theorem dX12_goes_1 : decode cX12_goes 1 = .ok (.istore_n 1, 1) := by decide +kernel
theorem dX12_goes_2 : decode cX12_goes 2 = .ok (.aload_n 0, 1) := by decide +kernel
theorem dX12_goes_3 : decode cX12_goes 3 = .ok (.getfield 43, 3) := by decide +kernel
theorem dX12_goes_6 : decode cX12_goes 6 = .ok (.iconst 0, 1) := by decide +kernel
theorem dX12_goes_7 : decode cX12_goes 7 = .ok (.aload_n 0, 1) := by decide +kernel
theorem dX12_goes_8 : decode cX12_goes 8 = .ok (.getfield 34, 3) := by decide +kernel
theorem dX12_goes_11 : decode cX12_goes 11 = .ok (.iconst 0, 1) := by decide +kernel
theorem dX12_goes_12 : decode cX12_goes 12 = .ok (.iaload, 1) := by decide +kernel
theorem dX12_goes_13 : decode cX12_goes 13 = .ok (.iastore, 1) := by decide +kernel
theorem dX12_goes_14 : decode cX12_goes 14 = .ok (.aload_n 0, 1) := by decide +kernel
theorem dX12_goes_15 : decode cX12_goes 15 = .ok (.getfield 46, 3) := by decide +kernel
theorem dX12_goes_18 : decode cX12_goes 18 = .ok (.iconst 0, 1) := by decide +kernel
theorem dX12_goes_19 : decode cX12_goes 19 = .ok (.iconst 0, 1) := by decide +kernel
theorem dX12_goes_20 : decode cX12_goes 20 = .ok (.iastore, 1) := by decide +kernel
theorem dX12_goes_21 : decode cX12_goes 21 = .ok (.iconst 0, 1) := by decide +kernel
theorem dX12_goes_22 : decode cX12_goes 22 = .ok (.istore_n 2, 1) := by decide +kernel
theorem dX12_goes_23 : decode cX12_goes 23 = .ok (.iload_n 2, 1) := by decide +kernel
theorem dX12_goes_24 : decode cX12_goes 24 = .ok (.aload_n 0, 1) := by decide +kernel
theorem dX12_goes_25 : decode cX12_goes 25 = .ok (.getfield 118, 3) := by decide +kernel
theorem dX12_goes_28 : decode cX12_goes 28 = .ok (.if_icmp .ge 173, 3) := by decide +kernel
theorem dX12_goes_31 : decode cX12_goes 31 = .ok (.aload_n 0, 1) := by decide +kernel
theorem dX12_goes_32 : decode cX12_goes 32 = .ok (.getfield 31, 3) := by decide +kernel
theorem dX12_goes_35 : decode cX12_goes 35 = .ok (.iload_n 2, 1) := by decide +kernel
theorem dX12_goes_36 : decode cX12_goes 36 = .ok (.iaload, 1) := by decide +kernel
theorem dX12_goes_37 : decode cX12_goes 37 = .ok (.istore_n 3, 1) := by decide +kernel
theorem dX12_goes_38 : decode cX12_goes 38 = .ok (.aload_n 0, 1) := by decide +kernel
theorem dX12_goes_39 : decode cX12_goes 39 = .ok (.getfield 46, 3) := by decide +kernel
theorem dX12_goes_42 : decode cX12_goes 42 = .ok (.iload_n 2, 1) := by decide +kernel
theorem dX12_goes_43 : decode cX12_goes 43 = .ok (.iaload, 1) := by decide +kernel
theorem dX12_goes_44 : decode cX12_goes 44 = .ok (.aload_n 0, 1) := by decide +kernel
theorem dX12_goes_45 : decode cX12_goes 45 = .ok (.getfield 34, 3) := by decide +kernel
theorem dX12_goes_48 : decode cX12_goes 48 = .ok (.iconst 1, 1) := by decide +kernel
theorem dX12_goes_49 : decode cX12_goes 49 = .ok (.iaload, 1) := by decide +kernel
theorem dX12_goes_50 : decode cX12_goes 50 = .ok (.if_icmp .ge 19, 3) := by decide +kernel
theorem dX12_goes_53 : decode cX12_goes 53 = .ok (.aload_n 0, 1) := by decide +kernel
theorem dX12_goes_54 : decode cX12_goes 54 = .ok (.iload_n 3, 1) := by decide +kernel
theorem dX12_goes_55 : decode cX12_goes 55 = .ok (.invokevirtual 132, 3) := by decide +kernel
theorem dX12_goes_58 : decode cX12_goes 58 = .ok (.ifCond .eq 11, 3) := by decide +kernel
theorem dX12_goes_61 : decode cX12_goes 61 = .ok (.iload_n 1, 1) := by decide +kernel
theorem dX12_goes_62 : decode cX12_goes 62 = .ok (.iload_n 3, 1) := by decide +kernel
theorem dX12_goes_63 : decode cX12_goes 63 = .ok (.invokestatic 149, 3) := by decide +kernel
theorem dX12_goes_66 : decode cX12_goes 66 = .ok (.ifCond .eq 7, 3) := by decide +kernel
theorem dX12_goes_69 : decode cX12_goes 69 = .ok (.iconst 1, 1) := by decide +kernel
theorem dX12_goes_70 : decode cX12_goes 70 = .ok (.goto 4, 3) := by decide +kernel
theorem dX12_goes_73 : decode cX12_goes 73 = .ok (.iconst 0, 1) := by decide +kernel
theorem dX12_goes_74 : decode cX12_goes 74 = .ok (.istore 4, 2) := by decide +kernel
theorem dX12_goes_76 : decode cX12_goes 76 = .ok (.iload_n 1, 1) := by decide +kernel
theorem dX12_goes_77 : decode cX12_goes 77 = .ok (.iconst 1, 1) := by decide +kernel
theorem dX12_goes_78 : decode cX12_goes 78 = .ok (.iload_n 3, 1) := by decide +kernel
theorem dX12_goes_79 : decode cX12_goes 79 = .ok (.ishl, 1) := by decide +kernel
theorem dX12_goes_80 : decode cX12_goes 80 = .ok (.ior, 1) := by decide +kernel
theorem dX12_goes_81 : decode cX12_goes 81 = .ok (.istore_n 1, 1) := by decide +kernel
theorem dX12_goes_82 : decode cX12_goes 82 = .ok (.aload_n 0, 1) := by decide +kernel
theorem dX12_goes_83 : decode cX12_goes 83 = .ok (.getfield 37, 3) := by decide +kernel
theorem dX12_goes_86 : decode cX12_goes 86 = .ok (.iload_n 2, 1) := by decide +kernel
theorem dX12_goes_87 : decode cX12_goes 87 = .ok (.iload 4, 2) := by decide +kernel
theorem dX12_goes_89 : decode cX12_goes 89 = .ok (.ifCond .eq 7, 3) := by decide +kernel
theorem dX12_goes_92 : decode cX12_goes 92 = .ok (.iconst 0, 1) := by decide +kernel
theorem dX12_goes_93 : decode cX12_goes 93 = .ok (.goto 8, 3) := by decide +kernel
theorem dX12_goes_96 : decode cX12_goes 96 = .ok (.aload_n 0, 1) := by decide +kernel
theorem dX12_goes_97 : decode cX12_goes 97 = .ok (.iload_n 3, 1) := by decide +kernel
theorem dX12_goes_98 : decode cX12_goes 98 = .ok (.invokevirtual 153, 3) := by decide +kernel
theorem dX12_goes_101 : decode cX12_goes 101 = .ok (.iastore, 1) := by decide +kernel
theorem dX12_goes_102 : decode cX12_goes 102 = .ok (.aload_n 0, 1) := by decide +kernel
theorem dX12_goes_103 : decode cX12_goes 103 = .ok (.getfield 40, 3) := by decide +kernel
theorem dX12_goes_106 : decode cX12_goes 106 = .ok (.iload_n 2, 1) := by decide +kernel
theorem dX12_goes_107 : decode cX12_goes 107 = .ok (.aload_n 0, 1) := by decide +kernel
theorem dX12_goes_108 : decode cX12_goes 108 = .ok (.getfield 37, 3) := by decide +kernel
theorem dX12_goes_111 : decode cX12_goes 111 = .ok (.iload_n 2, 1) := by decide +kernel
theorem dX12_goes_112 : decode cX12_goes 112 = .ok (.iaload, 1) := by decide +kernel
theorem dX12_goes_113 : decode cX12_goes 113 = .ok (.iconst 3, 1) := by decide +kernel
theorem dX12_goes_114 : decode cX12_goes 114 = .ok (.if_icmp .ne 17, 3) := by decide +kernel
theorem dX12_goes_117 : decode cX12_goes 117 = .ok (.aload_n 0, 1) := by decide +kernel
theorem dX12_goes_118 : decode cX12_goes 118 = .ok (.iload_n 3, 1) := by decide +kernel
theorem dX12_goes_119 : decode cX12_goes 119 = .ok (.aload_n 0, 1) := by decide +kernel
theorem dX12_goes_120 : decode cX12_goes 120 = .ok (.getfield 43, 3) := by decide +kernel
theorem dX12_goes_123 : decode cX12_goes 123 = .ok (.iload_n 2, 1) := by decide +kernel
theorem dX12_goes_124 : decode cX12_goes 124 = .ok (.iaload, 1) := by decide +kernel
theorem dX12_goes_125 : decode cX12_goes 125 = .ok (.invokevirtual 156, 3) := by decide +kernel
theorem dX12_goes_128 : decode cX12_goes 128 = .ok (.goto 5, 3) := by decide +kernel
theorem dX12_goes_131 : decode cX12_goes 131 = .ok (.bipush 16, 2) := by decide +kernel
theorem dX12_goes_133 : decode cX12_goes 133 = .ok (.iastore, 1) := by decide +kernel
theorem dX12_goes_134 : decode cX12_goes 134 = .ok (.aload_n 0, 1) := by decide +kernel
theorem dX12_goes_135 : decode cX12_goes 135 = .ok (.getfield 43, 3) := by decide +kernel
theorem dX12_goes_138 : decode cX12_goes 138 = .ok (.iload_n 2, 1) := by decide +kernel
theorem dX12_goes_139 : decode cX12_goes 139 = .ok (.iconst 1, 1) := by decide +kernel
theorem dX12_goes_140 : decode cX12_goes 140 = .ok (.iadd, 1) := by decide +kernel
theorem dX12_goes_141 : decode cX12_goes 141 = .ok (.aload_n 0, 1) := by decide +kernel
theorem dX12_goes_142 : decode cX12_goes 142 = .ok (.aload_n 0, 1) := by decide +kernel
theorem dX12_goes_143 : decode cX12_goes 143 = .ok (.getfield 43, 3) := by decide +kernel
theorem dX12_goes_146 : decode cX12_goes 146 = .ok (.iload_n 2, 1) := by decide +kernel
theorem dX12_goes_147 : decode cX12_goes 147 = .ok (.iaload, 1) := by decide +kernel
theorem dX12_goes_148 : decode cX12_goes 148 = .ok (.aload_n 0, 1) := by decide +kernel
theorem dX12_goes_149 : decode cX12_goes 149 = .ok (.getfield 37, 3) := by decide +kernel
theorem dX12_goes_152 : decode cX12_goes 152 = .ok (.iload_n 2, 1) := by decide +kernel
theorem dX12_goes_153 : decode cX12_goes 153 = .ok (.iaload, 1) := by decide +kernel
theorem dX12_goes_154 : decode cX12_goes 154 = .ok (.invokevirtual 159, 3) := by decide +kernel
theorem dX12_goes_157 : decode cX12_goes 157 = .ok (.iastore, 1) := by decide +kernel
theorem dX12_goes_158 : decode cX12_goes 158 = .ok (.aload_n 0, 1) := by decide +kernel
theorem dX12_goes_159 : decode cX12_goes 159 = .ok (.getfield 46, 3) := by decide +kernel
theorem dX12_goes_162 : decode cX12_goes 162 = .ok (.iload_n 2, 1) := by decide +kernel
theorem dX12_goes_163 : decode cX12_goes 163 = .ok (.iconst 1, 1) := by decide +kernel
theorem dX12_goes_164 : decode cX12_goes 164 = .ok (.iadd, 1) := by decide +kernel
theorem dX12_goes_165 : decode cX12_goes 165 = .ok (.aload_n 0, 1) := by decide +kernel
theorem dX12_goes_166 : decode cX12_goes 166 = .ok (.getfield 46, 3) := by decide +kernel
theorem dX12_goes_169 : decode cX12_goes 169 = .ok (.iload_n 2, 1) := by decide +kernel
theorem dX12_goes_170 : decode cX12_goes 170 = .ok (.iaload, 1) := by decide +kernel
theorem dX12_goes_171 : decode cX12_goes 171 = .ok (.aload_n 0, 1) := by decide +kernel
theorem dX12_goes_172 : decode cX12_goes 172 = .ok (.getfield 37, 3) := by decide +kernel
theorem dX12_goes_175 : decode cX12_goes 175 = .ok (.iload_n 2, 1) := by decide +kernel
theorem dX12_goes_176 : decode cX12_goes 176 = .ok (.iaload, 1) := by decide +kernel
theorem dX12_goes_177 : decode cX12_goes 177 = .ok (.i2l, 1) := by decide +kernel
theorem dX12_goes_178 : decode cX12_goes 178 = .ok (.lconst 1, 1) := by decide +kernel
theorem dX12_goes_179 : decode cX12_goes 179 = .ok (.ldc2_w 81, 3) := by decide +kernel
theorem dX12_goes_182 : decode cX12_goes 182 = .ok (.invokestatic 73, 3) := by decide +kernel
theorem dX12_goes_185 : decode cX12_goes 185 = .ok (.ifCond .eq 7, 3) := by decide +kernel
theorem dX12_goes_188 : decode cX12_goes 188 = .ok (.iconst 1, 1) := by decide +kernel
theorem dX12_goes_189 : decode cX12_goes 189 = .ok (.goto 4, 3) := by decide +kernel
theorem dX12_goes_192 : decode cX12_goes 192 = .ok (.iconst 0, 1) := by decide +kernel
theorem dX12_goes_193 : decode cX12_goes 193 = .ok (.iadd, 1) := by decide +kernel
theorem dX12_goes_194 : decode cX12_goes 194 = .ok (.iastore, 1) := by decide +kernel
theorem dX12_goes_195 : decode cX12_goes 195 = .ok (.iinc 2 1, 3) := by decide +kernel
theorem dX12_goes_198 : decode cX12_goes 198 = .ok (.goto (-175), 3) := by decide +kernel
theorem dX12_goes_201 : decode cX12_goes 201 = .ok (.return_, 1) := by decide +kernel
theorem dX12_find_0 : decode cX12_find 0 = .ok (.aload_n 0, 1) := by decide +kernel
theorem dX12_find_1 : decode cX12_find 1 = .ok (.invokevirtual 125, 3) := by decide +kernel
theorem dX12_find_4 : decode cX12_find 4 = .ok (.pop, 1) := by decide +kernel
theorem dX12_find_5 : decode cX12_find 5 = .ok (.aload_n 0, 1) := by decide +kernel
theorem dX12_find_6 : decode cX12_find 6 = .ok (.invokevirtual 129, 3) := by decide +kernel
theorem dX12_find_9 : decode cX12_find 9 = .ok (.pop, 1) := by decide +kernel
theorem dX12_find_10 : decode cX12_find 10 = .ok (.aload_n 0, 1) := by decide +kernel
theorem dX12_find_11 : decode cX12_find 11 = .ok (.invokevirtual 162, 3) := by decide +kernel
theorem dX12_find_14 : decode cX12_find 14 = .ok (.return_, 1) := by decide +kernel
theorem dX12_comes_0 : decode cX12_comes 0 = .ok (.aload_n 0, 1) := by decide +kernel
theorem dX12_comes_1 : decode cX12_comes 1 = .ok (.invokevirtual 165, 3) := by decide +kernel
theorem dX12_comes_4 : decode cX12_comes 4 = .ok (.iload_n 1, 1) := by decide +kernel
theorem dX12_comes_5 : decode cX12_comes 5 = .ok (.i2l, 1) := by decide +kernel
theorem dX12_comes_6 : decode cX12_comes 6 = .ok (.lconst 0, 1) := by decide +kernel
end
section
theorem dX12_comes_7 : decode cX12_comes 7 = .ok (.aload_n 0, 1) := by decide +kernel
theorem dX12_comes_8 : decode cX12_comes 8 = .ok (.getfield 118, 3) := by decide +kernel
theorem dX12_comes_11 : decode cX12_comes 11 = .ok (.iconst 1, 1) := by decide +kernel
theorem dX12_comes_12 : decode cX12_comes 12 = .ok (.isub, 1) := by decide +kernel
theorem dX12_comes_13 : decode cX12_comes 13 = .ok (.i2l, 1) := by decide +kernel
theorem dX12_comes_14 : decode cX12_comes 14 = .ok (.invokestatic 73, 3) := by decide +kernel
theorem dX12_comes_17 : decode cX12_comes 17 = .ok (.ifCond .eq 32, 3) := by decide +kernel
theorem dX12_comes_20 : decode cX12_comes 20 = .ok (.iload_n 2, 1) := by decide +kernel
theorem dX12_comes_21 : decode cX12_comes 21 = .ok (.invokestatic 102, 3) := by decide +kernel
theorem dX12_comes_24 : decode cX12_comes 24 = .ok (.ifCond .eq 25, 3) := by decide +kernel
theorem dX12_comes_27 : decode cX12_comes 27 = .ok (.iload_n 2, 1) := by decide +kernel
theorem dX12_comes_28 : decode cX12_comes 28 = .ok (.ifCond .ne 12, 3) := by decide +kernel
theorem dX12_comes_31 : decode cX12_comes 31 = .ok (.aload_n 0, 1) := by decide +kernel
theorem dX12_comes_32 : decode cX12_comes 32 = .ok (.getfield 37, 3) := by decide +kernel
theorem dX12_comes_35 : decode cX12_comes 35 = .ok (.iload_n 1, 1) := by decide +kernel
theorem dX12_comes_36 : decode cX12_comes 36 = .ok (.iaload, 1) := by decide +kernel
theorem dX12_comes_37 : decode cX12_comes 37 = .ok (.goto 14, 3) := by decide +kernel
theorem dX12_comes_40 : decode cX12_comes 40 = .ok (.aload_n 0, 1) := by decide +kernel
theorem dX12_comes_41 : decode cX12_comes 41 = .ok (.getfield 40, 3) := by decide +kernel
theorem dX12_comes_44 : decode cX12_comes 44 = .ok (.iload_n 1, 1) := by decide +kernel
theorem dX12_comes_45 : decode cX12_comes 45 = .ok (.iaload, 1) := by decide +kernel
theorem dX12_comes_46 : decode cX12_comes 46 = .ok (.goto 5, 3) := by decide +kernel
theorem dX12_comes_49 : decode cX12_comes 49 = .ok (.bipush (-2), 2) := by decide +kernel
theorem dX12_comes_51 : decode cX12_comes 51 = .ok (.ireturn, 1) := by decide +kernel
theorem dX12_behindOf_0 : decode cX12_behindOf 0 = .ok (.iload_n 2, 1) := by decide +kernel
theorem dX12_behindOf_1 : decode cX12_behindOf 1 = .ok (.ifCond .ne 12, 3) := by decide +kernel
theorem dX12_behindOf_4 : decode cX12_behindOf 4 = .ok (.aload_n 0, 1) := by decide +kernel
theorem dX12_behindOf_5 : decode cX12_behindOf 5 = .ok (.getfield 43, 3) := by decide +kernel
theorem dX12_behindOf_8 : decode cX12_behindOf 8 = .ok (.iload_n 1, 1) := by decide +kernel
theorem dX12_behindOf_9 : decode cX12_behindOf 9 = .ok (.iaload, 1) := by decide +kernel
theorem dX12_behindOf_10 : decode cX12_behindOf 10 = .ok (.goto 9, 3) := by decide +kernel
theorem dX12_behindOf_13 : decode cX12_behindOf 13 = .ok (.aload_n 0, 1) := by decide +kernel
theorem dX12_behindOf_14 : decode cX12_behindOf 14 = .ok (.getfield 46, 3) := by decide +kernel
theorem dX12_behindOf_17 : decode cX12_behindOf 17 = .ok (.iload_n 1, 1) := by decide +kernel
theorem dX12_behindOf_18 : decode cX12_behindOf 18 = .ok (.iaload, 1) := by decide +kernel
theorem dX12_behindOf_19 : decode cX12_behindOf 19 = .ok (.ireturn, 1) := by decide +kernel
theorem dX12_behind_0 : decode cX12_behind 0 = .ok (.aload_n 0, 1) := by decide +kernel
theorem dX12_behind_1 : decode cX12_behind 1 = .ok (.invokevirtual 165, 3) := by decide +kernel
theorem dX12_behind_4 : decode cX12_behind 4 = .ok (.iload_n 1, 1) := by decide +kernel
theorem dX12_behind_5 : decode cX12_behind 5 = .ok (.i2l, 1) := by decide +kernel
theorem dX12_behind_6 : decode cX12_behind 6 = .ok (.lconst 0, 1) := by decide +kernel
theorem dX12_behind_7 : decode cX12_behind 7 = .ok (.aload_n 0, 1) := by decide +kernel
theorem dX12_behind_8 : decode cX12_behind 8 = .ok (.getfield 118, 3) := by decide +kernel
theorem dX12_behind_11 : decode cX12_behind 11 = .ok (.i2l, 1) := by decide +kernel
theorem dX12_behind_12 : decode cX12_behind 12 = .ok (.invokestatic 73, 3) := by decide +kernel
theorem dX12_behind_15 : decode cX12_behind 15 = .ok (.ifCond .eq 19, 3) := by decide +kernel
theorem dX12_behind_18 : decode cX12_behind 18 = .ok (.iload_n 2, 1) := by decide +kernel
theorem dX12_behind_19 : decode cX12_behind 19 = .ok (.invokestatic 102, 3) := by decide +kernel
theorem dX12_behind_22 : decode cX12_behind 22 = .ok (.ifCond .eq 12, 3) := by decide +kernel
theorem dX12_behind_25 : decode cX12_behind 25 = .ok (.aload_n 0, 1) := by decide +kernel
theorem dX12_behind_26 : decode cX12_behind 26 = .ok (.iload_n 1, 1) := by decide +kernel
theorem dX12_behind_27 : decode cX12_behind 27 = .ok (.iload_n 2, 1) := by decide +kernel
theorem dX12_behind_28 : decode cX12_behind 28 = .ok (.invokevirtual 168, 3) := by decide +kernel
theorem dX12_behind_31 : decode cX12_behind 31 = .ok (.goto 5, 3) := by decide +kernel
theorem dX12_behind_34 : decode cX12_behind 34 = .ok (.bipush (-2), 2) := by decide +kernel
theorem dX12_behind_36 : decode cX12_behind 36 = .ok (.ireturn, 1) := by decide +kernel
theorem dX12_aliveOf_0 : decode cX12_aliveOf 0 = .ok (.lconst 1, 1) := by decide +kernel
theorem dX12_aliveOf_1 : decode cX12_aliveOf 1 = .ok (.lstore_n 2, 1) := by decide +kernel
theorem dX12_aliveOf_2 : decode cX12_aliveOf 2 = .ok (.iconst 0, 1) := by decide +kernel
theorem dX12_aliveOf_3 : decode cX12_aliveOf 3 = .ok (.istore 4, 2) := by decide +kernel
theorem dX12_aliveOf_5 : decode cX12_aliveOf 5 = .ok (.iconst 0, 1) := by decide +kernel
theorem dX12_aliveOf_6 : decode cX12_aliveOf 6 = .ok (.istore 5, 2) := by decide +kernel
theorem dX12_aliveOf_8 : decode cX12_aliveOf 8 = .ok (.iload 5, 2) := by decide +kernel
theorem dX12_aliveOf_10 : decode cX12_aliveOf 10 = .ok (.iload_n 1, 1) := by decide +kernel
theorem dX12_aliveOf_11 : decode cX12_aliveOf 11 = .ok (.if_icmp .ge 56, 3) := by decide +kernel
theorem dX12_aliveOf_14 : decode cX12_aliveOf 14 = .ok (.lload_n 2, 1) := by decide +kernel
theorem dX12_aliveOf_15 : decode cX12_aliveOf 15 = .ok (.aload_n 0, 1) := by decide +kernel
theorem dX12_aliveOf_16 : decode cX12_aliveOf 16 = .ok (.getfield 37, 3) := by decide +kernel
theorem dX12_aliveOf_19 : decode cX12_aliveOf 19 = .ok (.iload 5, 2) := by decide +kernel
theorem dX12_aliveOf_21 : decode cX12_aliveOf 21 = .ok (.iaload, 1) := by decide +kernel
theorem dX12_aliveOf_22 : decode cX12_aliveOf 22 = .ok (.iconst 3, 1) := by decide +kernel
theorem dX12_aliveOf_23 : decode cX12_aliveOf 23 = .ok (.if_icmp .ne 14, 3) := by decide +kernel
theorem dX12_aliveOf_26 : decode cX12_aliveOf 26 = .ok (.aload_n 0, 1) := by decide +kernel
theorem dX12_aliveOf_27 : decode cX12_aliveOf 27 = .ok (.getfield 40, 3) := by decide +kernel
theorem dX12_aliveOf_30 : decode cX12_aliveOf 30 = .ok (.iload 5, 2) := by decide +kernel
theorem dX12_aliveOf_32 : decode cX12_aliveOf 32 = .ok (.iaload, 1) := by decide +kernel
theorem dX12_aliveOf_33 : decode cX12_aliveOf 33 = .ok (.i2l, 1) := by decide +kernel
theorem dX12_aliveOf_34 : decode cX12_aliveOf 34 = .ok (.goto 4, 3) := by decide +kernel
theorem dX12_aliveOf_37 : decode cX12_aliveOf 37 = .ok (.lconst 1, 1) := by decide +kernel
theorem dX12_aliveOf_38 : decode cX12_aliveOf 38 = .ok (.lmul, 1) := by decide +kernel
theorem dX12_aliveOf_39 : decode cX12_aliveOf 39 = .ok (.lstore_n 2, 1) := by decide +kernel
theorem dX12_aliveOf_40 : decode cX12_aliveOf 40 = .ok (.iload 4, 2) := by decide +kernel
theorem dX12_aliveOf_42 : decode cX12_aliveOf 42 = .ok (.aload_n 0, 1) := by decide +kernel
theorem dX12_aliveOf_43 : decode cX12_aliveOf 43 = .ok (.getfield 37, 3) := by decide +kernel
theorem dX12_aliveOf_46 : decode cX12_aliveOf 46 = .ok (.iload 5, 2) := by decide +kernel
theorem dX12_aliveOf_48 : decode cX12_aliveOf 48 = .ok (.iaload, 1) := by decide +kernel
theorem dX12_aliveOf_49 : decode cX12_aliveOf 49 = .ok (.iconst 3, 1) := by decide +kernel
theorem dX12_aliveOf_50 : decode cX12_aliveOf 50 = .ok (.if_icmp .ne 7, 3) := by decide +kernel
theorem dX12_aliveOf_53 : decode cX12_aliveOf 53 = .ok (.iconst 1, 1) := by decide +kernel
theorem dX12_aliveOf_54 : decode cX12_aliveOf 54 = .ok (.goto 4, 3) := by decide +kernel
theorem dX12_aliveOf_57 : decode cX12_aliveOf 57 = .ok (.iconst 0, 1) := by decide +kernel
theorem dX12_aliveOf_58 : decode cX12_aliveOf 58 = .ok (.iadd, 1) := by decide +kernel
theorem dX12_aliveOf_59 : decode cX12_aliveOf 59 = .ok (.istore 4, 2) := by decide +kernel
theorem dX12_aliveOf_61 : decode cX12_aliveOf 61 = .ok (.iinc 5 1, 3) := by decide +kernel
theorem dX12_aliveOf_64 : decode cX12_aliveOf 64 = .ok (.goto (-56), 3) := by decide +kernel
theorem dX12_aliveOf_67 : decode cX12_aliveOf 67 = .ok (.lload_n 2, 1) := by decide +kernel
theorem dX12_aliveOf_68 : decode cX12_aliveOf 68 = .ok (.iconst 4, 1) := by decide +kernel
theorem dX12_aliveOf_69 : decode cX12_aliveOf 69 = .ok (.bipush 8, 2) := by decide +kernel
theorem dX12_aliveOf_71 : decode cX12_aliveOf 71 = .ok (.iload 4, 2) := by decide +kernel
theorem dX12_aliveOf_73 : decode cX12_aliveOf 73 = .ok (.isub, 1) := by decide +kernel
theorem dX12_aliveOf_74 : decode cX12_aliveOf 74 = .ok (.imul, 1) := by decide +kernel
theorem dX12_aliveOf_75 : decode cX12_aliveOf 75 = .ok (.lshl, 1) := by decide +kernel
theorem dX12_aliveOf_76 : decode cX12_aliveOf 76 = .ok (.lreturn, 1) := by decide +kernel
theorem dX12_tells_0 : decode cX12_tells 0 = .ok (.lload_n 0, 1) := by decide +kernel
theorem dX12_tells_1 : decode cX12_tells 1 = .ok (.ldc2_w 171, 3) := by decide +kernel
theorem dX12_tells_4 : decode cX12_tells 4 = .ok (.iload_n 2, 1) := by decide +kernel
theorem dX12_tells_5 : decode cX12_tells 5 = .ok (.invokestatic 173, 3) := by decide +kernel
theorem dX12_tells_8 : decode cX12_tells 8 = .ok (.lreturn, 1) := by decide +kernel
theorem dX12_alive_0 : decode cX12_alive 0 = .ok (.aload_n 0, 1) := by decide +kernel
theorem dX12_alive_1 : decode cX12_alive 1 = .ok (.invokevirtual 165, 3) := by decide +kernel
theorem dX12_alive_4 : decode cX12_alive 4 = .ok (.iload_n 1, 1) := by decide +kernel
theorem dX12_alive_5 : decode cX12_alive 5 = .ok (.i2l, 1) := by decide +kernel
theorem dX12_alive_6 : decode cX12_alive 6 = .ok (.lconst 0, 1) := by decide +kernel
theorem dX12_alive_7 : decode cX12_alive 7 = .ok (.aload_n 0, 1) := by decide +kernel
theorem dX12_alive_8 : decode cX12_alive 8 = .ok (.getfield 118, 3) := by decide +kernel
theorem dX12_alive_11 : decode cX12_alive 11 = .ok (.i2l, 1) := by decide +kernel
theorem dX12_alive_12 : decode cX12_alive 12 = .ok (.invokestatic 73, 3) := by decide +kernel
theorem dX12_alive_15 : decode cX12_alive 15 = .ok (.ifCond .eq 22, 3) := by decide +kernel
theorem dX12_alive_18 : decode cX12_alive 18 = .ok (.iload_n 2, 1) := by decide +kernel
theorem dX12_alive_19 : decode cX12_alive 19 = .ok (.invokestatic 102, 3) := by decide +kernel
theorem dX12_alive_22 : decode cX12_alive 22 = .ok (.ifCond .eq 15, 3) := by decide +kernel
theorem dX12_alive_25 : decode cX12_alive 25 = .ok (.aload_n 0, 1) := by decide +kernel
theorem dX12_alive_26 : decode cX12_alive 26 = .ok (.iload_n 1, 1) := by decide +kernel
theorem dX12_alive_27 : decode cX12_alive 27 = .ok (.invokevirtual 177, 3) := by decide +kernel
theorem dX12_alive_30 : decode cX12_alive 30 = .ok (.iload_n 2, 1) := by decide +kernel
theorem dX12_alive_31 : decode cX12_alive 31 = .ok (.invokestatic 181, 3) := by decide +kernel
theorem dX12_alive_34 : decode cX12_alive 34 = .ok (.goto 8, 3) := by decide +kernel
theorem dX12_alive_37 : decode cX12_alive 37 = .ok (.bipush (-2), 2) := by decide +kernel
theorem dX12_alive_39 : decode cX12_alive 39 = .ok (.invokestatic 185, 3) := by decide +kernel
theorem dX12_alive_42 : decode cX12_alive 42 = .ok (.lreturn, 1) := by decide +kernel
theorem dX12_livesNow_0 : decode cX12_livesNow 0 = .ok (.aload_n 0, 1) := by decide +kernel
theorem dX12_livesNow_1 : decode cX12_livesNow 1 = .ok (.getfield 46, 3) := by decide +kernel
theorem dX12_livesNow_4 : decode cX12_livesNow 4 = .ok (.aload_n 0, 1) := by decide +kernel
theorem dX12_livesNow_5 : decode cX12_livesNow 5 = .ok (.getfield 118, 3) := by decide +kernel
theorem dX12_livesNow_8 : decode cX12_livesNow 8 = .ok (.iaload, 1) := by decide +kernel
theorem dX12_livesNow_9 : decode cX12_livesNow 9 = .ok (.aload_n 0, 1) := by decide +kernel
theorem dX12_livesNow_10 : decode cX12_livesNow 10 = .ok (.getfield 34, 3) := by decide +kernel
theorem dX12_livesNow_13 : decode cX12_livesNow 13 = .ok (.iconst 1, 1) := by decide +kernel
theorem dX12_livesNow_14 : decode cX12_livesNow 14 = .ok (.iaload, 1) := by decide +kernel
theorem dX12_livesNow_15 : decode cX12_livesNow 15 = .ok (.if_icmp .lt 14, 3) := by decide +kernel
theorem dX12_livesNow_18 : decode cX12_livesNow 18 = .ok (.aload_n 0, 1) := by decide +kernel
theorem dX12_livesNow_19 : decode cX12_livesNow 19 = .ok (.aload_n 0, 1) := by decide +kernel
theorem dX12_livesNow_20 : decode cX12_livesNow 20 = .ok (.getfield 118, 3) := by decide +kernel
theorem dX12_livesNow_23 : decode cX12_livesNow 23 = .ok (.invokevirtual 177, 3) := by decide +kernel
theorem dX12_livesNow_26 : decode cX12_livesNow 26 = .ok (.goto 4, 3) := by decide +kernel
theorem dX12_livesNow_29 : decode cX12_livesNow 29 = .ok (.lconst 0, 1) := by decide +kernel
theorem dX12_livesNow_30 : decode cX12_livesNow 30 = .ok (.lreturn, 1) := by decide +kernel
theorem dX12_lives_0 : decode cX12_lives 0 = .ok (.aload_n 0, 1) := by decide +kernel
theorem dX12_lives_1 : decode cX12_lives 1 = .ok (.invokevirtual 165, 3) := by decide +kernel
theorem dX12_lives_4 : decode cX12_lives 4 = .ok (.iload_n 1, 1) := by decide +kernel
theorem dX12_lives_5 : decode cX12_lives 5 = .ok (.invokestatic 102, 3) := by decide +kernel
theorem dX12_lives_8 : decode cX12_lives 8 = .ok (.ifCond .eq 14, 3) := by decide +kernel
theorem dX12_lives_11 : decode cX12_lives 11 = .ok (.aload_n 0, 1) := by decide +kernel
theorem dX12_lives_12 : decode cX12_lives 12 = .ok (.invokevirtual 188, 3) := by decide +kernel
theorem dX12_lives_15 : decode cX12_lives 15 = .ok (.iload_n 1, 1) := by decide +kernel
theorem dX12_lives_16 : decode cX12_lives 16 = .ok (.invokestatic 181, 3) := by decide +kernel
theorem dX12_lives_19 : decode cX12_lives 19 = .ok (.goto 8, 3) := by decide +kernel
theorem dX12_lives_22 : decode cX12_lives 22 = .ok (.bipush (-2), 2) := by decide +kernel
theorem dX12_lives_24 : decode cX12_lives 24 = .ok (.invokestatic 185, 3) := by decide +kernel
theorem dX12_lives_27 : decode cX12_lives 27 = .ok (.lreturn, 1) := by decide +kernel
theorem dX12_isHarmed_0 : decode cX12_isHarmed 0 = .ok (.aload_n 0, 1) := by decide +kernel
theorem dX12_isHarmed_1 : decode cX12_isHarmed 1 = .ok (.getfield 37, 3) := by decide +kernel
theorem dX12_isHarmed_4 : decode cX12_isHarmed 4 = .ok (.iload_n 1, 1) := by decide +kernel
theorem dX12_isHarmed_5 : decode cX12_isHarmed 5 = .ok (.iaload, 1) := by decide +kernel
theorem dX12_isHarmed_6 : decode cX12_isHarmed 6 = .ok (.iconst 3, 1) := by decide +kernel
theorem dX12_isHarmed_7 : decode cX12_isHarmed 7 = .ok (.if_icmp .ne 25, 3) := by decide +kernel
theorem dX12_isHarmed_10 : decode cX12_isHarmed 10 = .ok (.aload_n 0, 1) := by decide +kernel
theorem dX12_isHarmed_11 : decode cX12_isHarmed 11 = .ok (.getfield 28, 3) := by decide +kernel
theorem dX12_isHarmed_14 : decode cX12_isHarmed 14 = .ok (.iconst 5, 1) := by decide +kernel
theorem dX12_isHarmed_15 : decode cX12_isHarmed 15 = .ok (.aload_n 0, 1) := by decide +kernel
theorem dX12_isHarmed_16 : decode cX12_isHarmed 16 = .ok (.getfield 31, 3) := by decide +kernel
theorem dX12_isHarmed_19 : decode cX12_isHarmed 19 = .ok (.iload_n 1, 1) := by decide +kernel
theorem dX12_isHarmed_20 : decode cX12_isHarmed 20 = .ok (.iaload, 1) := by decide +kernel
theorem dX12_isHarmed_21 : decode cX12_isHarmed 21 = .ok (.imul, 1) := by decide +kernel
theorem dX12_isHarmed_22 : decode cX12_isHarmed 22 = .ok (.iconst 3, 1) := by decide +kernel
theorem dX12_isHarmed_23 : decode cX12_isHarmed 23 = .ok (.iadd, 1) := by decide +kernel
theorem dX12_isHarmed_24 : decode cX12_isHarmed 24 = .ok (.iaload, 1) := by decide +kernel
theorem dX12_isHarmed_25 : decode cX12_isHarmed 25 = .ok (.ifCond .ne 7, 3) := by decide +kernel
theorem dX12_isHarmed_28 : decode cX12_isHarmed 28 = .ok (.iconst 1, 1) := by decide +kernel
theorem dX12_isHarmed_29 : decode cX12_isHarmed 29 = .ok (.goto 4, 3) := by decide +kernel
theorem dX12_isHarmed_32 : decode cX12_isHarmed 32 = .ok (.iconst 0, 1) := by decide +kernel
theorem dX12_isHarmed_33 : decode cX12_isHarmed 33 = .ok (.ireturn, 1) := by decide +kernel
theorem dX12_harmNow_0 : decode cX12_harmNow 0 = .ok (.lconst 0, 1) := by decide +kernel
theorem dX12_harmNow_1 : decode cX12_harmNow 1 = .ok (.lstore_n 1, 1) := by decide +kernel
theorem dX12_harmNow_2 : decode cX12_harmNow 2 = .ok (.iconst 0, 1) := by decide +kernel
theorem dX12_harmNow_3 : decode cX12_harmNow 3 = .ok (.istore_n 3, 1) := by decide +kernel
theorem dX12_harmNow_4 : decode cX12_harmNow 4 = .ok (.iload_n 3, 1) := by decide +kernel
theorem dX12_harmNow_5 : decode cX12_harmNow 5 = .ok (.aload_n 0, 1) := by decide +kernel
theorem dX12_harmNow_6 : decode cX12_harmNow 6 = .ok (.getfield 118, 3) := by decide +kernel
theorem dX12_harmNow_9 : decode cX12_harmNow 9 = .ok (.if_icmp .ge 31, 3) := by decide +kernel
theorem dX12_harmNow_12 : decode cX12_harmNow 12 = .ok (.lload_n 1, 1) := by decide +kernel
theorem dX12_harmNow_13 : decode cX12_harmNow 13 = .ok (.aload_n 0, 1) := by decide +kernel
theorem dX12_harmNow_14 : decode cX12_harmNow 14 = .ok (.iload_n 3, 1) := by decide +kernel
theorem dX12_harmNow_15 : decode cX12_harmNow 15 = .ok (.invokevirtual 192, 3) := by decide +kernel
theorem dX12_harmNow_18 : decode cX12_harmNow 18 = .ok (.ifCond .eq 13, 3) := by decide +kernel
theorem dX12_harmNow_21 : decode cX12_harmNow 21 = .ok (.aload_n 0, 1) := by decide +kernel
theorem dX12_harmNow_22 : decode cX12_harmNow 22 = .ok (.iload_n 3, 1) := by decide +kernel
theorem dX12_harmNow_23 : decode cX12_harmNow 23 = .ok (.iconst 1, 1) := by decide +kernel
theorem dX12_harmNow_24 : decode cX12_harmNow 24 = .ok (.iadd, 1) := by decide +kernel
theorem dX12_harmNow_25 : decode cX12_harmNow 25 = .ok (.invokevirtual 177, 3) := by decide +kernel
theorem dX12_harmNow_28 : decode cX12_harmNow 28 = .ok (.goto 4, 3) := by decide +kernel
theorem dX12_harmNow_31 : decode cX12_harmNow 31 = .ok (.lconst 0, 1) := by decide +kernel
theorem dX12_harmNow_32 : decode cX12_harmNow 32 = .ok (.ladd, 1) := by decide +kernel
theorem dX12_harmNow_33 : decode cX12_harmNow 33 = .ok (.lstore_n 1, 1) := by decide +kernel
theorem dX12_harmNow_34 : decode cX12_harmNow 34 = .ok (.iinc 3 1, 3) := by decide +kernel
theorem dX12_harmNow_37 : decode cX12_harmNow 37 = .ok (.goto (-33), 3) := by decide +kernel
theorem dX12_harmNow_40 : decode cX12_harmNow 40 = .ok (.lload_n 1, 1) := by decide +kernel
theorem dX12_harmNow_41 : decode cX12_harmNow 41 = .ok (.lreturn, 1) := by decide +kernel
theorem dX12_harm_0 : decode cX12_harm 0 = .ok (.aload_n 0, 1) := by decide +kernel
theorem dX12_harm_1 : decode cX12_harm 1 = .ok (.invokevirtual 165, 3) := by decide +kernel
theorem dX12_harm_4 : decode cX12_harm 4 = .ok (.iload_n 1, 1) := by decide +kernel
theorem dX12_harm_5 : decode cX12_harm 5 = .ok (.invokestatic 102, 3) := by decide +kernel
theorem dX12_harm_8 : decode cX12_harm 8 = .ok (.ifCond .eq 14, 3) := by decide +kernel
theorem dX12_harm_11 : decode cX12_harm 11 = .ok (.aload_n 0, 1) := by decide +kernel
theorem dX12_harm_12 : decode cX12_harm 12 = .ok (.invokevirtual 195, 3) := by decide +kernel
theorem dX12_harm_15 : decode cX12_harm 15 = .ok (.iload_n 1, 1) := by decide +kernel
theorem dX12_harm_16 : decode cX12_harm 16 = .ok (.invokestatic 181, 3) := by decide +kernel
theorem dX12_harm_19 : decode cX12_harm 19 = .ok (.goto 8, 3) := by decide +kernel
theorem dX12_harm_22 : decode cX12_harm 22 = .ok (.bipush (-2), 2) := by decide +kernel
theorem dX12_harm_24 : decode cX12_harm 24 = .ok (.invokestatic 185, 3) := by decide +kernel
theorem dX12_harm_27 : decode cX12_harm 27 = .ok (.lreturn, 1) := by decide +kernel
theorem dX12_worstNow_0 : decode cX12_worstNow 0 = .ok (.iconst (-1), 1) := by decide +kernel
theorem dX12_worstNow_1 : decode cX12_worstNow 1 = .ok (.istore_n 1, 1) := by decide +kernel
theorem dX12_worstNow_2 : decode cX12_worstNow 2 = .ok (.iconst 0, 1) := by decide +kernel
theorem dX12_worstNow_3 : decode cX12_worstNow 3 = .ok (.istore_n 2, 1) := by decide +kernel
theorem dX12_worstNow_4 : decode cX12_worstNow 4 = .ok (.iload_n 2, 1) := by decide +kernel
theorem dX12_worstNow_5 : decode cX12_worstNow 5 = .ok (.aload_n 0, 1) := by decide +kernel
theorem dX12_worstNow_6 : decode cX12_worstNow 6 = .ok (.getfield 118, 3) := by decide +kernel
theorem dX12_worstNow_9 : decode cX12_worstNow 9 = .ok (.if_icmp .ge 35, 3) := by decide +kernel
theorem dX12_worstNow_12 : decode cX12_worstNow 12 = .ok (.iload_n 1, 1) := by decide +kernel
theorem dX12_worstNow_13 : decode cX12_worstNow 13 = .ok (.iconst (-1), 1) := by decide +kernel
theorem dX12_worstNow_14 : decode cX12_worstNow 14 = .ok (.if_icmp .eq 18, 3) := by decide +kernel
theorem dX12_worstNow_17 : decode cX12_worstNow 17 = .ok (.aload_n 0, 1) := by decide +kernel
theorem dX12_worstNow_18 : decode cX12_worstNow 18 = .ok (.getfield 40, 3) := by decide +kernel
theorem dX12_worstNow_21 : decode cX12_worstNow 21 = .ok (.iload_n 2, 1) := by decide +kernel
theorem dX12_worstNow_22 : decode cX12_worstNow 22 = .ok (.iaload, 1) := by decide +kernel
theorem dX12_worstNow_23 : decode cX12_worstNow 23 = .ok (.aload_n 0, 1) := by decide +kernel
theorem dX12_worstNow_24 : decode cX12_worstNow 24 = .ok (.getfield 40, 3) := by decide +kernel
theorem dX12_worstNow_27 : decode cX12_worstNow 27 = .ok (.iload_n 1, 1) := by decide +kernel
theorem dX12_worstNow_28 : decode cX12_worstNow 28 = .ok (.iaload, 1) := by decide +kernel
theorem dX12_worstNow_29 : decode cX12_worstNow 29 = .ok (.if_icmp .ge 7, 3) := by decide +kernel
theorem dX12_worstNow_32 : decode cX12_worstNow 32 = .ok (.iload_n 2, 1) := by decide +kernel
theorem dX12_worstNow_33 : decode cX12_worstNow 33 = .ok (.goto 4, 3) := by decide +kernel
theorem dX12_worstNow_36 : decode cX12_worstNow 36 = .ok (.iload_n 1, 1) := by decide +kernel
theorem dX12_worstNow_37 : decode cX12_worstNow 37 = .ok (.istore_n 1, 1) := by decide +kernel
theorem dX12_worstNow_38 : decode cX12_worstNow 38 = .ok (.iinc 2 1, 3) := by decide +kernel
theorem dX12_worstNow_41 : decode cX12_worstNow 41 = .ok (.goto (-37), 3) := by decide +kernel
theorem dX12_worstNow_44 : decode cX12_worstNow 44 = .ok (.iload_n 1, 1) := by decide +kernel
theorem dX12_worstNow_45 : decode cX12_worstNow 45 = .ok (.ireturn, 1) := by decide +kernel
theorem dX12_worst_0 : decode cX12_worst 0 = .ok (.aload_n 0, 1) := by decide +kernel
theorem dX12_worst_1 : decode cX12_worst 1 = .ok (.invokevirtual 165, 3) := by decide +kernel
theorem dX12_worst_4 : decode cX12_worst 4 = .ok (.aload_n 0, 1) := by decide +kernel
theorem dX12_worst_5 : decode cX12_worst 5 = .ok (.invokevirtual 198, 3) := by decide +kernel
theorem dX12_worst_8 : decode cX12_worst 8 = .ok (.ireturn, 1) := by decide +kernel
theorem dX12_fateOf_0 : decode cX12_fateOf 0 = .ok (.iconst 0, 1) := by decide +kernel
theorem dX12_fateOf_1 : decode cX12_fateOf 1 = .ok (.istore_n 2, 1) := by decide +kernel
theorem dX12_fateOf_2 : decode cX12_fateOf 2 = .ok (.iload_n 2, 1) := by decide +kernel
theorem dX12_fateOf_3 : decode cX12_fateOf 3 = .ok (.aload_n 0, 1) := by decide +kernel
theorem dX12_fateOf_4 : decode cX12_fateOf 4 = .ok (.getfield 118, 3) := by decide +kernel
theorem dX12_fateOf_7 : decode cX12_fateOf 7 = .ok (.if_icmp .ge 26, 3) := by decide +kernel
theorem dX12_fateOf_10 : decode cX12_fateOf 10 = .ok (.aload_n 0, 1) := by decide +kernel
theorem dX12_fateOf_11 : decode cX12_fateOf 11 = .ok (.getfield 31, 3) := by decide +kernel
theorem dX12_fateOf_14 : decode cX12_fateOf 14 = .ok (.iload_n 2, 1) := by decide +kernel
theorem dX12_fateOf_15 : decode cX12_fateOf 15 = .ok (.iaload, 1) := by decide +kernel
theorem dX12_fateOf_16 : decode cX12_fateOf 16 = .ok (.iload_n 1, 1) := by decide +kernel
theorem dX12_fateOf_17 : decode cX12_fateOf 17 = .ok (.if_icmp .ne 10, 3) := by decide +kernel
theorem dX12_fateOf_20 : decode cX12_fateOf 20 = .ok (.aload_n 0, 1) := by decide +kernel
theorem dX12_fateOf_21 : decode cX12_fateOf 21 = .ok (.getfield 37, 3) := by decide +kernel
theorem dX12_fateOf_24 : decode cX12_fateOf 24 = .ok (.iload_n 2, 1) := by decide +kernel
theorem dX12_fateOf_25 : decode cX12_fateOf 25 = .ok (.iaload, 1) := by decide +kernel
theorem dX12_fateOf_26 : decode cX12_fateOf 26 = .ok (.ireturn, 1) := by decide +kernel
theorem dX12_fateOf_27 : decode cX12_fateOf 27 = .ok (.iinc 2 1, 3) := by decide +kernel
theorem dX12_fateOf_30 : decode cX12_fateOf 30 = .ok (.goto (-28), 3) := by decide +kernel
theorem dX12_fateOf_33 : decode cX12_fateOf 33 = .ok (.iconst (-1), 1) := by decide +kernel
theorem dX12_fateOf_34 : decode cX12_fateOf 34 = .ok (.ireturn, 1) := by decide +kernel
theorem dX12_fate_0 : decode cX12_fate 0 = .ok (.aload_n 0, 1) := by decide +kernel
theorem dX12_fate_1 : decode cX12_fate 1 = .ok (.invokevirtual 165, 3) := by decide +kernel
theorem dX12_fate_4 : decode cX12_fate 4 = .ok (.aload_n 0, 1) := by decide +kernel
theorem dX12_fate_5 : decode cX12_fate 5 = .ok (.iload_n 1, 1) := by decide +kernel
theorem dX12_fate_6 : decode cX12_fate 6 = .ok (.invokevirtual 132, 3) := by decide +kernel
theorem dX12_fate_9 : decode cX12_fate 9 = .ok (.ifCond .eq 11, 3) := by decide +kernel
theorem dX12_fate_12 : decode cX12_fate 12 = .ok (.aload_n 0, 1) := by decide +kernel
theorem dX12_fate_13 : decode cX12_fate 13 = .ok (.iload_n 1, 1) := by decide +kernel
theorem dX12_fate_14 : decode cX12_fate 14 = .ok (.invokevirtual 201, 3) := by decide +kernel
theorem dX12_fate_17 : decode cX12_fate 17 = .ok (.goto 5, 3) := by decide +kernel
theorem dX12_fate_20 : decode cX12_fate 20 = .ok (.bipush (-2), 2) := by decide +kernel
theorem dX12_fate_22 : decode cX12_fate 22 = .ok (.ireturn, 1) := by decide +kernel
theorem dX12_adds_0 : decode cX12_adds 0 = .ok (.aload_n 0, 1) := by decide +kernel
theorem dX12_adds_1 : decode cX12_adds 1 = .ok (.iload_n 2, 1) := by decide +kernel
theorem dX12_adds_2 : decode cX12_adds 2 = .ok (.invokevirtual 153, 3) := by decide +kernel
theorem dX12_adds_5 : decode cX12_adds 5 = .ok (.istore_n 3, 1) := by decide +kernel
theorem dX12_adds_6 : decode cX12_adds 6 = .ok (.aload_n 0, 1) := by decide +kernel
theorem dX12_adds_7 : decode cX12_adds 7 = .ok (.getfield 52, 3) := by decide +kernel
theorem dX12_adds_10 : decode cX12_adds 10 = .ok (.iload_n 1, 1) := by decide +kernel
theorem dX12_adds_11 : decode cX12_adds 11 = .ok (.iconst 1, 1) := by decide +kernel
theorem dX12_adds_12 : decode cX12_adds 12 = .ok (.iadd, 1) := by decide +kernel
theorem dX12_adds_13 : decode cX12_adds 13 = .ok (.aload_n 0, 1) := by decide +kernel
theorem dX12_adds_14 : decode cX12_adds 14 = .ok (.aload_n 0, 1) := by decide +kernel
theorem dX12_adds_15 : decode cX12_adds 15 = .ok (.getfield 52, 3) := by decide +kernel
theorem dX12_adds_18 : decode cX12_adds 18 = .ok (.iload_n 1, 1) := by decide +kernel
theorem dX12_adds_19 : decode cX12_adds 19 = .ok (.iaload, 1) := by decide +kernel
theorem dX12_adds_20 : decode cX12_adds 20 = .ok (.iload_n 3, 1) := by decide +kernel
theorem dX12_adds_21 : decode cX12_adds 21 = .ok (.invokevirtual 159, 3) := by decide +kernel
theorem dX12_adds_24 : decode cX12_adds 24 = .ok (.iastore, 1) := by decide +kernel
theorem dX12_adds_25 : decode cX12_adds 25 = .ok (.aload_n 0, 1) := by decide +kernel
theorem dX12_adds_26 : decode cX12_adds 26 = .ok (.getfield 55, 3) := by decide +kernel
theorem dX12_adds_29 : decode cX12_adds 29 = .ok (.iload_n 1, 1) := by decide +kernel
theorem dX12_adds_30 : decode cX12_adds 30 = .ok (.iconst 1, 1) := by decide +kernel
theorem dX12_adds_31 : decode cX12_adds 31 = .ok (.iadd, 1) := by decide +kernel
theorem dX12_adds_32 : decode cX12_adds 32 = .ok (.aload_n 0, 1) := by decide +kernel
theorem dX12_adds_33 : decode cX12_adds 33 = .ok (.getfield 55, 3) := by decide +kernel
theorem dX12_adds_36 : decode cX12_adds 36 = .ok (.iload_n 1, 1) := by decide +kernel
theorem dX12_adds_37 : decode cX12_adds 37 = .ok (.iaload, 1) := by decide +kernel
theorem dX12_adds_38 : decode cX12_adds 38 = .ok (.iload_n 3, 1) := by decide +kernel
theorem dX12_adds_39 : decode cX12_adds 39 = .ok (.i2l, 1) := by decide +kernel
theorem dX12_adds_40 : decode cX12_adds 40 = .ok (.lconst 1, 1) := by decide +kernel
theorem dX12_adds_41 : decode cX12_adds 41 = .ok (.ldc2_w 81, 3) := by decide +kernel
theorem dX12_adds_44 : decode cX12_adds 44 = .ok (.invokestatic 73, 3) := by decide +kernel
theorem dX12_adds_47 : decode cX12_adds 47 = .ok (.ifCond .eq 7, 3) := by decide +kernel
theorem dX12_adds_50 : decode cX12_adds 50 = .ok (.iconst 1, 1) := by decide +kernel
theorem dX12_adds_51 : decode cX12_adds 51 = .ok (.goto 4, 3) := by decide +kernel
theorem dX12_adds_54 : decode cX12_adds 54 = .ok (.iconst 0, 1) := by decide +kernel
theorem dX12_adds_55 : decode cX12_adds 55 = .ok (.iadd, 1) := by decide +kernel
theorem dX12_adds_56 : decode cX12_adds 56 = .ok (.iastore, 1) := by decide +kernel
theorem dX12_adds_57 : decode cX12_adds 57 = .ok (.aload_n 0, 1) := by decide +kernel
theorem dX12_adds_58 : decode cX12_adds 58 = .ok (.getfield 58, 3) := by decide +kernel
theorem dX12_adds_61 : decode cX12_adds 61 = .ok (.iload_n 1, 1) := by decide +kernel
theorem dX12_adds_62 : decode cX12_adds 62 = .ok (.iconst 1, 1) := by decide +kernel
theorem dX12_adds_63 : decode cX12_adds 63 = .ok (.iadd, 1) := by decide +kernel
theorem dX12_adds_64 : decode cX12_adds 64 = .ok (.iload_n 3, 1) := by decide +kernel
theorem dX12_adds_65 : decode cX12_adds 65 = .ok (.iconst 3, 1) := by decide +kernel
theorem dX12_adds_66 : decode cX12_adds 66 = .ok (.if_icmp .ne 29, 3) := by decide +kernel
theorem dX12_adds_69 : decode cX12_adds 69 = .ok (.aload_n 0, 1) := by decide +kernel
theorem dX12_adds_70 : decode cX12_adds 70 = .ok (.getfield 58, 3) := by decide +kernel
theorem dX12_adds_73 : decode cX12_adds 73 = .ok (.iload_n 1, 1) := by decide +kernel
theorem dX12_adds_74 : decode cX12_adds 74 = .ok (.laload, 1) := by decide +kernel
theorem dX12_adds_75 : decode cX12_adds 75 = .ok (.ldc2_w 204, 3) := by decide +kernel
theorem dX12_adds_78 : decode cX12_adds 78 = .ok (.ldiv, 1) := by decide +kernel
theorem dX12_adds_79 : decode cX12_adds 79 = .ok (.aload_n 0, 1) := by decide +kernel
theorem dX12_adds_80 : decode cX12_adds 80 = .ok (.iload_n 2, 1) := by decide +kernel
theorem dX12_adds_81 : decode cX12_adds 81 = .ok (.aload_n 0, 1) := by decide +kernel
theorem dX12_adds_82 : decode cX12_adds 82 = .ok (.getfield 52, 3) := by decide +kernel
theorem dX12_adds_85 : decode cX12_adds 85 = .ok (.iload_n 1, 1) := by decide +kernel
theorem dX12_adds_86 : decode cX12_adds 86 = .ok (.iaload, 1) := by decide +kernel
theorem dX12_adds_87 : decode cX12_adds 87 = .ok (.invokevirtual 156, 3) := by decide +kernel
theorem dX12_adds_90 : decode cX12_adds 90 = .ok (.i2l, 1) := by decide +kernel
theorem dX12_adds_91 : decode cX12_adds 91 = .ok (.lmul, 1) := by decide +kernel
theorem dX12_adds_92 : decode cX12_adds 92 = .ok (.goto 9, 3) := by decide +kernel
theorem dX12_adds_95 : decode cX12_adds 95 = .ok (.aload_n 0, 1) := by decide +kernel
theorem dX12_adds_96 : decode cX12_adds 96 = .ok (.getfield 58, 3) := by decide +kernel
theorem dX12_adds_99 : decode cX12_adds 99 = .ok (.iload_n 1, 1) := by decide +kernel
theorem dX12_adds_100 : decode cX12_adds 100 = .ok (.laload, 1) := by decide +kernel
theorem dX12_adds_101 : decode cX12_adds 101 = .ok (.lastore, 1) := by decide +kernel
theorem dX12_adds_102 : decode cX12_adds 102 = .ok (.return_, 1) := by decide +kernel
theorem dX12_keeps_0 : decode cX12_keeps 0 = .ok (.aload_n 0, 1) := by decide +kernel
theorem dX12_keeps_1 : decode cX12_keeps 1 = .ok (.aload_n 0, 1) := by decide +kernel
theorem dX12_keeps_2 : decode cX12_keeps 2 = .ok (.getfield 58, 3) := by decide +kernel
theorem dX12_keeps_5 : decode cX12_keeps 5 = .ok (.iload_n 1, 1) := by decide +kernel
theorem dX12_keeps_6 : decode cX12_keeps 6 = .ok (.laload, 1) := by decide +kernel
theorem dX12_keeps_7 : decode cX12_keeps 7 = .ok (.putfield 206, 3) := by decide +kernel
theorem dX12_keeps_10 : decode cX12_keeps 10 = .ok (.aload_n 0, 1) := by decide +kernel
theorem dX12_keeps_11 : decode cX12_keeps 11 = .ok (.iload_n 1, 1) := by decide +kernel
theorem dX12_keeps_12 : decode cX12_keeps 12 = .ok (.putfield 210, 3) := by decide +kernel
theorem dX12_keeps_15 : decode cX12_keeps 15 = .ok (.iconst 0, 1) := by decide +kernel
theorem dX12_keeps_16 : decode cX12_keeps 16 = .ok (.istore_n 2, 1) := by decide +kernel
theorem dX12_keeps_17 : decode cX12_keeps 17 = .ok (.iload_n 2, 1) := by decide +kernel
theorem dX12_keeps_18 : decode cX12_keeps 18 = .ok (.iload_n 1, 1) := by decide +kernel
theorem dX12_keeps_19 : decode cX12_keeps 19 = .ok (.if_icmp .ge 21, 3) := by decide +kernel
theorem dX12_keeps_22 : decode cX12_keeps 22 = .ok (.aload_n 0, 1) := by decide +kernel
theorem dX12_keeps_23 : decode cX12_keeps 23 = .ok (.getfield 62, 3) := by decide +kernel
theorem dX12_keeps_26 : decode cX12_keeps 26 = .ok (.iload_n 2, 1) := by decide +kernel
theorem dX12_keeps_27 : decode cX12_keeps 27 = .ok (.aload_n 0, 1) := by decide +kernel
theorem dX12_keeps_28 : decode cX12_keeps 28 = .ok (.getfield 49, 3) := by decide +kernel
theorem dX12_keeps_31 : decode cX12_keeps 31 = .ok (.iload_n 2, 1) := by decide +kernel
theorem dX12_keeps_32 : decode cX12_keeps 32 = .ok (.iaload, 1) := by decide +kernel
theorem dX12_keeps_33 : decode cX12_keeps 33 = .ok (.iastore, 1) := by decide +kernel
theorem dX12_keeps_34 : decode cX12_keeps 34 = .ok (.iinc 2 1, 3) := by decide +kernel
theorem dX12_keeps_37 : decode cX12_keeps 37 = .ok (.goto (-20), 3) := by decide +kernel
theorem dX12_keeps_40 : decode cX12_keeps 40 = .ok (.return_, 1) := by decide +kernel
theorem dX12_findOrder_0 : decode cX12_findOrder 0 = .ok (.aload_n 0, 1) := by decide +kernel
theorem dX12_findOrder_1 : decode cX12_findOrder 1 = .ok (.iconst (-1), 1) := by decide +kernel
theorem dX12_findOrder_2 : decode cX12_findOrder 2 = .ok (.putfield 210, 3) := by decide +kernel
theorem dX12_findOrder_5 : decode cX12_findOrder 5 = .ok (.aload_n 0, 1) := by decide +kernel
theorem dX12_findOrder_6 : decode cX12_findOrder 6 = .ok (.lconst 0, 1) := by decide +kernel
theorem dX12_findOrder_7 : decode cX12_findOrder 7 = .ok (.putfield 206, 3) := by decide +kernel
theorem dX12_findOrder_10 : decode cX12_findOrder 10 = .ok (.aload_n 0, 1) := by decide +kernel
theorem dX12_findOrder_11 : decode cX12_findOrder 11 = .ok (.getfield 52, 3) := by decide +kernel
theorem dX12_findOrder_14 : decode cX12_findOrder 14 = .ok (.iconst 0, 1) := by decide +kernel
theorem dX12_findOrder_15 : decode cX12_findOrder 15 = .ok (.aload_n 0, 1) := by decide +kernel
theorem dX12_findOrder_16 : decode cX12_findOrder 16 = .ok (.getfield 34, 3) := by decide +kernel
theorem dX12_findOrder_19 : decode cX12_findOrder 19 = .ok (.iconst 0, 1) := by decide +kernel
theorem dX12_findOrder_20 : decode cX12_findOrder 20 = .ok (.iaload, 1) := by decide +kernel
theorem dX12_findOrder_21 : decode cX12_findOrder 21 = .ok (.iastore, 1) := by decide +kernel
theorem dX12_findOrder_22 : decode cX12_findOrder 22 = .ok (.aload_n 0, 1) := by decide +kernel
theorem dX12_findOrder_23 : decode cX12_findOrder 23 = .ok (.getfield 55, 3) := by decide +kernel
theorem dX12_findOrder_26 : decode cX12_findOrder 26 = .ok (.iconst 0, 1) := by decide +kernel
theorem dX12_findOrder_27 : decode cX12_findOrder 27 = .ok (.iconst 0, 1) := by decide +kernel
theorem dX12_findOrder_28 : decode cX12_findOrder 28 = .ok (.iastore, 1) := by decide +kernel
theorem dX12_findOrder_29 : decode cX12_findOrder 29 = .ok (.aload_n 0, 1) := by decide +kernel
theorem dX12_findOrder_30 : decode cX12_findOrder 30 = .ok (.getfield 58, 3) := by decide +kernel
theorem dX12_findOrder_33 : decode cX12_findOrder 33 = .ok (.iconst 0, 1) := by decide +kernel
theorem dX12_findOrder_34 : decode cX12_findOrder 34 = .ok (.ldc2_w 171, 3) := by decide +kernel
theorem dX12_findOrder_37 : decode cX12_findOrder 37 = .ok (.lastore, 1) := by decide +kernel
theorem dX12_findOrder_38 : decode cX12_findOrder 38 = .ok (.iconst 0, 1) := by decide +kernel
theorem dX12_findOrder_39 : decode cX12_findOrder 39 = .ok (.istore_n 1, 1) := by decide +kernel
theorem dX12_findOrder_40 : decode cX12_findOrder 40 = .ok (.iconst 0, 1) := by decide +kernel
theorem dX12_findOrder_41 : decode cX12_findOrder 41 = .ok (.istore_n 2, 1) := by decide +kernel
theorem dX12_findOrder_42 : decode cX12_findOrder 42 = .ok (.aload_n 0, 1) := by decide +kernel
theorem dX12_findOrder_43 : decode cX12_findOrder 43 = .ok (.getfield 49, 3) := by decide +kernel
theorem dX12_findOrder_46 : decode cX12_findOrder 46 = .ok (.iconst 0, 1) := by decide +kernel
theorem dX12_findOrder_47 : decode cX12_findOrder 47 = .ok (.iconst (-1), 1) := by decide +kernel
theorem dX12_findOrder_48 : decode cX12_findOrder 48 = .ok (.iastore, 1) := by decide +kernel
theorem dX12_findOrder_49 : decode cX12_findOrder 49 = .ok (.iload_n 1, 1) := by decide +kernel
theorem dX12_findOrder_50 : decode cX12_findOrder 50 = .ok (.ifCond .lt 171, 3) := by decide +kernel
theorem dX12_findOrder_53 : decode cX12_findOrder 53 = .ok (.aload_n 0, 1) := by decide +kernel
theorem dX12_findOrder_54 : decode cX12_findOrder 54 = .ok (.getfield 49, 3) := by decide +kernel
theorem dX12_findOrder_57 : decode cX12_findOrder 57 = .ok (.iload_n 1, 1) := by decide +kernel
theorem dX12_findOrder_58 : decode cX12_findOrder 58 = .ok (.iaload, 1) := by decide +kernel
theorem dX12_findOrder_59 : decode cX12_findOrder 59 = .ok (.iconst 1, 1) := by decide +kernel
theorem dX12_findOrder_60 : decode cX12_findOrder 60 = .ok (.iadd, 1) := by decide +kernel
theorem dX12_findOrder_61 : decode cX12_findOrder 61 = .ok (.istore_n 3, 1) := by decide +kernel
theorem dX12_findOrder_62 : decode cX12_findOrder 62 = .ok (.aload_n 0, 1) := by decide +kernel
theorem dX12_findOrder_63 : decode cX12_findOrder 63 = .ok (.getfield 49, 3) := by decide +kernel
theorem dX12_findOrder_66 : decode cX12_findOrder 66 = .ok (.iload_n 1, 1) := by decide +kernel
theorem dX12_findOrder_67 : decode cX12_findOrder 67 = .ok (.iaload, 1) := by decide +kernel
theorem dX12_findOrder_68 : decode cX12_findOrder 68 = .ok (.ifCond .lt 16, 3) := by decide +kernel
theorem dX12_findOrder_71 : decode cX12_findOrder 71 = .ok (.iload_n 2, 1) := by decide +kernel
theorem dX12_findOrder_72 : decode cX12_findOrder 72 = .ok (.iconst 1, 1) := by decide +kernel
theorem dX12_findOrder_73 : decode cX12_findOrder 73 = .ok (.aload_n 0, 1) := by decide +kernel
theorem dX12_findOrder_74 : decode cX12_findOrder 74 = .ok (.getfield 49, 3) := by decide +kernel
theorem dX12_findOrder_77 : decode cX12_findOrder 77 = .ok (.iload_n 1, 1) := by decide +kernel
theorem dX12_findOrder_78 : decode cX12_findOrder 78 = .ok (.iaload, 1) := by decide +kernel
theorem dX12_findOrder_79 : decode cX12_findOrder 79 = .ok (.ishl, 1) := by decide +kernel
theorem dX12_findOrder_80 : decode cX12_findOrder 80 = .ok (.iconst (-1), 1) := by decide +kernel
theorem dX12_findOrder_81 : decode cX12_findOrder 81 = .ok (.ixor, 1) := by decide +kernel
theorem dX12_findOrder_82 : decode cX12_findOrder 82 = .ok (.iand, 1) := by decide +kernel
theorem dX12_findOrder_83 : decode cX12_findOrder 83 = .ok (.istore_n 2, 1) := by decide +kernel
theorem dX12_findOrder_84 : decode cX12_findOrder 84 = .ok (.iload_n 3, 1) := by decide +kernel
theorem dX12_findOrder_85 : decode cX12_findOrder 85 = .ok (.aload_n 0, 1) := by decide +kernel
theorem dX12_findOrder_86 : decode cX12_findOrder 86 = .ok (.getfield 112, 3) := by decide +kernel
theorem dX12_findOrder_89 : decode cX12_findOrder 89 = .ok (.if_icmp .ge 17, 3) := by decide +kernel
theorem dX12_findOrder_92 : decode cX12_findOrder 92 = .ok (.iload_n 2, 1) := by decide +kernel
theorem dX12_findOrder_93 : decode cX12_findOrder 93 = .ok (.iload_n 3, 1) := by decide +kernel
theorem dX12_findOrder_94 : decode cX12_findOrder 94 = .ok (.invokestatic 149, 3) := by decide +kernel
theorem dX12_findOrder_97 : decode cX12_findOrder 97 = .ok (.ifCond .eq 9, 3) := by decide +kernel
theorem dX12_findOrder_100 : decode cX12_findOrder 100 = .ok (.iinc 3 1, 3) := by decide +kernel
theorem dX12_findOrder_103 : decode cX12_findOrder 103 = .ok (.goto (-19), 3) := by decide +kernel
theorem dX12_findOrder_106 : decode cX12_findOrder 106 = .ok (.iload_n 3, 1) := by decide +kernel
theorem dX12_findOrder_107 : decode cX12_findOrder 107 = .ok (.aload_n 0, 1) := by decide +kernel
theorem dX12_findOrder_108 : decode cX12_findOrder 108 = .ok (.getfield 112, 3) := by decide +kernel
theorem dX12_findOrder_111 : decode cX12_findOrder 111 = .ok (.if_icmp .lt 9, 3) := by decide +kernel
theorem dX12_findOrder_114 : decode cX12_findOrder 114 = .ok (.iinc 1 (-1), 3) := by decide +kernel
theorem dX12_findOrder_117 : decode cX12_findOrder 117 = .ok (.goto 101, 3) := by decide +kernel
theorem dX12_findOrder_120 : decode cX12_findOrder 120 = .ok (.aload_n 0, 1) := by decide +kernel
theorem dX12_findOrder_121 : decode cX12_findOrder 121 = .ok (.getfield 49, 3) := by decide +kernel
theorem dX12_findOrder_124 : decode cX12_findOrder 124 = .ok (.iload_n 1, 1) := by decide +kernel
theorem dX12_findOrder_125 : decode cX12_findOrder 125 = .ok (.iload_n 3, 1) := by decide +kernel
theorem dX12_findOrder_126 : decode cX12_findOrder 126 = .ok (.iastore, 1) := by decide +kernel
theorem dX12_findOrder_127 : decode cX12_findOrder 127 = .ok (.iload_n 2, 1) := by decide +kernel
theorem dX12_findOrder_128 : decode cX12_findOrder 128 = .ok (.iconst 1, 1) := by decide +kernel
theorem dX12_findOrder_129 : decode cX12_findOrder 129 = .ok (.iload_n 3, 1) := by decide +kernel
theorem dX12_findOrder_130 : decode cX12_findOrder 130 = .ok (.ishl, 1) := by decide +kernel
theorem dX12_findOrder_131 : decode cX12_findOrder 131 = .ok (.ior, 1) := by decide +kernel
theorem dX12_findOrder_132 : decode cX12_findOrder 132 = .ok (.istore_n 2, 1) := by decide +kernel
theorem dX12_findOrder_133 : decode cX12_findOrder 133 = .ok (.aload_n 0, 1) := by decide +kernel
theorem dX12_findOrder_134 : decode cX12_findOrder 134 = .ok (.iload_n 1, 1) := by decide +kernel
theorem dX12_findOrder_135 : decode cX12_findOrder 135 = .ok (.iload_n 3, 1) := by decide +kernel
theorem dX12_findOrder_136 : decode cX12_findOrder 136 = .ok (.invokevirtual 213, 3) := by decide +kernel
theorem dX12_findOrder_139 : decode cX12_findOrder 139 = .ok (.aload_n 0, 1) := by decide +kernel
theorem dX12_findOrder_140 : decode cX12_findOrder 140 = .ok (.getfield 55, 3) := by decide +kernel
theorem dX12_findOrder_143 : decode cX12_findOrder 143 = .ok (.iload_n 1, 1) := by decide +kernel
theorem dX12_findOrder_144 : decode cX12_findOrder 144 = .ok (.iconst 1, 1) := by decide +kernel
theorem dX12_findOrder_145 : decode cX12_findOrder 145 = .ok (.iadd, 1) := by decide +kernel
theorem dX12_findOrder_146 : decode cX12_findOrder 146 = .ok (.iaload, 1) := by decide +kernel
theorem dX12_findOrder_147 : decode cX12_findOrder 147 = .ok (.aload_n 0, 1) := by decide +kernel
theorem dX12_findOrder_148 : decode cX12_findOrder 148 = .ok (.getfield 34, 3) := by decide +kernel
theorem dX12_findOrder_151 : decode cX12_findOrder 151 = .ok (.iconst 1, 1) := by decide +kernel
theorem dX12_findOrder_152 : decode cX12_findOrder 152 = .ok (.iaload, 1) := by decide +kernel
theorem dX12_findOrder_153 : decode cX12_findOrder 153 = .ok (.if_icmp .lt 29, 3) := by decide +kernel
theorem dX12_findOrder_156 : decode cX12_findOrder 156 = .ok (.aload_n 0, 1) := by decide +kernel
theorem dX12_findOrder_157 : decode cX12_findOrder 157 = .ok (.getfield 58, 3) := by decide +kernel
theorem dX12_findOrder_160 : decode cX12_findOrder 160 = .ok (.iload_n 1, 1) := by decide +kernel
theorem dX12_findOrder_161 : decode cX12_findOrder 161 = .ok (.iconst 1, 1) := by decide +kernel
theorem dX12_findOrder_162 : decode cX12_findOrder 162 = .ok (.iadd, 1) := by decide +kernel
theorem dX12_findOrder_163 : decode cX12_findOrder 163 = .ok (.laload, 1) := by decide +kernel
theorem dX12_findOrder_164 : decode cX12_findOrder 164 = .ok (.aload_n 0, 1) := by decide +kernel
theorem dX12_findOrder_165 : decode cX12_findOrder 165 = .ok (.getfield 206, 3) := by decide +kernel
theorem dX12_findOrder_168 : decode cX12_findOrder 168 = .ok (.lcmp, 1) := by decide +kernel
theorem dX12_findOrder_169 : decode cX12_findOrder 169 = .ok (.ifCond .le 49, 3) := by decide +kernel
theorem dX12_findOrder_172 : decode cX12_findOrder 172 = .ok (.aload_n 0, 1) := by decide +kernel
theorem dX12_findOrder_173 : decode cX12_findOrder 173 = .ok (.iload_n 1, 1) := by decide +kernel
theorem dX12_findOrder_174 : decode cX12_findOrder 174 = .ok (.iconst 1, 1) := by decide +kernel
theorem dX12_findOrder_175 : decode cX12_findOrder 175 = .ok (.iadd, 1) := by decide +kernel
theorem dX12_findOrder_176 : decode cX12_findOrder 176 = .ok (.invokevirtual 217, 3) := by decide +kernel
theorem dX12_findOrder_179 : decode cX12_findOrder 179 = .ok (.goto 39, 3) := by decide +kernel
theorem dX12_findOrder_182 : decode cX12_findOrder 182 = .ok (.iload_n 1, 1) := by decide +kernel
theorem dX12_findOrder_183 : decode cX12_findOrder 183 = .ok (.iconst 1, 1) := by decide +kernel
theorem dX12_findOrder_184 : decode cX12_findOrder 184 = .ok (.iadd, 1) := by decide +kernel
theorem dX12_findOrder_185 : decode cX12_findOrder 185 = .ok (.aload_n 0, 1) := by decide +kernel
theorem dX12_findOrder_186 : decode cX12_findOrder 186 = .ok (.getfield 112, 3) := by decide +kernel
theorem dX12_findOrder_189 : decode cX12_findOrder 189 = .ok (.if_icmp .ge 29, 3) := by decide +kernel
theorem dX12_findOrder_192 : decode cX12_findOrder 192 = .ok (.aload_n 0, 1) := by decide +kernel
theorem dX12_findOrder_193 : decode cX12_findOrder 193 = .ok (.getfield 58, 3) := by decide +kernel
theorem dX12_findOrder_196 : decode cX12_findOrder 196 = .ok (.iload_n 1, 1) := by decide +kernel
theorem dX12_findOrder_197 : decode cX12_findOrder 197 = .ok (.iconst 1, 1) := by decide +kernel
theorem dX12_findOrder_198 : decode cX12_findOrder 198 = .ok (.iadd, 1) := by decide +kernel
theorem dX12_findOrder_199 : decode cX12_findOrder 199 = .ok (.laload, 1) := by decide +kernel
theorem dX12_findOrder_200 : decode cX12_findOrder 200 = .ok (.aload_n 0, 1) := by decide +kernel
theorem dX12_findOrder_201 : decode cX12_findOrder 201 = .ok (.getfield 206, 3) := by decide +kernel
theorem dX12_findOrder_204 : decode cX12_findOrder 204 = .ok (.lcmp, 1) := by decide +kernel
theorem dX12_findOrder_205 : decode cX12_findOrder 205 = .ok (.ifCond .le 13, 3) := by decide +kernel
theorem dX12_findOrder_208 : decode cX12_findOrder 208 = .ok (.iinc 1 1, 3) := by decide +kernel
theorem dX12_findOrder_211 : decode cX12_findOrder 211 = .ok (.aload_n 0, 1) := by decide +kernel
theorem dX12_findOrder_212 : decode cX12_findOrder 212 = .ok (.getfield 49, 3) := by decide +kernel
theorem dX12_findOrder_215 : decode cX12_findOrder 215 = .ok (.iload_n 1, 1) := by decide +kernel
theorem dX12_findOrder_216 : decode cX12_findOrder 216 = .ok (.iconst (-1), 1) := by decide +kernel
theorem dX12_findOrder_217 : decode cX12_findOrder 217 = .ok (.iastore, 1) := by decide +kernel
theorem dX12_findOrder_218 : decode cX12_findOrder 218 = .ok (.goto (-169), 3) := by decide +kernel
theorem dX12_findOrder_221 : decode cX12_findOrder 221 = .ok (.return_, 1) := by decide +kernel
theorem dX12_orderBy_0 : decode cX12_orderBy 0 = .ok (.iload_n 1, 1) := by decide +kernel
theorem dX12_orderBy_1 : decode cX12_orderBy 1 = .ok (.iconst (-1), 1) := by decide +kernel
theorem dX12_orderBy_2 : decode cX12_orderBy 2 = .ok (.if_icmp .eq 11, 3) := by decide +kernel
theorem dX12_orderBy_5 : decode cX12_orderBy 5 = .ok (.aload_n 0, 1) := by decide +kernel
theorem dX12_orderBy_6 : decode cX12_orderBy 6 = .ok (.getfield 210, 3) := by decide +kernel
theorem dX12_orderBy_9 : decode cX12_orderBy 9 = .ok (.iconst (-1), 1) := by decide +kernel
theorem dX12_orderBy_10 : decode cX12_orderBy 10 = .ok (.if_icmp .ne 10, 3) := by decide +kernel
theorem dX12_orderBy_13 : decode cX12_orderBy 13 = .ok (.aload_n 0, 1) := by decide +kernel
theorem dX12_orderBy_14 : decode cX12_orderBy 14 = .ok (.getfield 210, 3) := by decide +kernel
theorem dX12_orderBy_17 : decode cX12_orderBy 17 = .ok (.goto 21, 3) := by decide +kernel
theorem dX12_orderBy_20 : decode cX12_orderBy 20 = .ok (.iload_n 1, 1) := by decide +kernel
theorem dX12_orderBy_21 : decode cX12_orderBy 21 = .ok (.aload_n 0, 1) := by decide +kernel
theorem dX12_orderBy_22 : decode cX12_orderBy 22 = .ok (.getfield 210, 3) := by decide +kernel
theorem dX12_orderBy_25 : decode cX12_orderBy 25 = .ok (.if_icmp .ge 12, 3) := by decide +kernel
theorem dX12_orderBy_28 : decode cX12_orderBy 28 = .ok (.aload_n 0, 1) := by decide +kernel
theorem dX12_orderBy_29 : decode cX12_orderBy 29 = .ok (.getfield 62, 3) := by decide +kernel
theorem dX12_orderBy_32 : decode cX12_orderBy 32 = .ok (.iload_n 1, 1) := by decide +kernel
theorem dX12_orderBy_33 : decode cX12_orderBy 33 = .ok (.iaload, 1) := by decide +kernel
theorem dX12_orderBy_34 : decode cX12_orderBy 34 = .ok (.goto 4, 3) := by decide +kernel
theorem dX12_orderBy_37 : decode cX12_orderBy 37 = .ok (.iconst (-1), 1) := by decide +kernel
theorem dX12_orderBy_38 : decode cX12_orderBy 38 = .ok (.ireturn, 1) := by decide +kernel
theorem dX12_order_0 : decode cX12_order 0 = .ok (.aload_n 0, 1) := by decide +kernel
theorem dX12_order_1 : decode cX12_order 1 = .ok (.invokevirtual 165, 3) := by decide +kernel
theorem dX12_order_4 : decode cX12_order 4 = .ok (.iload_n 1, 1) := by decide +kernel
theorem dX12_order_5 : decode cX12_order 5 = .ok (.i2l, 1) := by decide +kernel
theorem dX12_order_6 : decode cX12_order 6 = .ok (.ldc2_w 221, 3) := by decide +kernel
theorem dX12_order_9 : decode cX12_order 9 = .ok (.ldc2_w 223, 3) := by decide +kernel
theorem dX12_order_12 : decode cX12_order 12 = .ok (.invokestatic 73, 3) := by decide +kernel
theorem dX12_order_15 : decode cX12_order 15 = .ok (.ifCond .ne 6, 3) := by decide +kernel
theorem dX12_order_18 : decode cX12_order 18 = .ok (.bipush (-2), 2) := by decide +kernel
theorem dX12_order_20 : decode cX12_order 20 = .ok (.ireturn, 1) := by decide +kernel
theorem dX12_order_21 : decode cX12_order 21 = .ok (.aload_n 0, 1) := by decide +kernel
theorem dX12_order_22 : decode cX12_order 22 = .ok (.invokevirtual 225, 3) := by decide +kernel
theorem dX12_order_25 : decode cX12_order 25 = .ok (.aload_n 0, 1) := by decide +kernel
theorem dX12_order_26 : decode cX12_order 26 = .ok (.iload_n 1, 1) := by decide +kernel
theorem dX12_order_27 : decode cX12_order 27 = .ok (.invokevirtual 228, 3) := by decide +kernel
theorem dX12_order_30 : decode cX12_order 30 = .ok (.ireturn, 1) := by decide +kernel
theorem dX12_best_0 : decode cX12_best 0 = .ok (.aload_n 0, 1) := by decide +kernel
theorem dX12_best_1 : decode cX12_best 1 = .ok (.invokevirtual 165, 3) := by decide +kernel
theorem dX12_best_4 : decode cX12_best 4 = .ok (.iload_n 1, 1) := by decide +kernel
theorem dX12_best_5 : decode cX12_best 5 = .ok (.invokestatic 102, 3) := by decide +kernel
theorem dX12_best_8 : decode cX12_best 8 = .ok (.ifCond .ne 9, 3) := by decide +kernel
theorem dX12_best_11 : decode cX12_best 11 = .ok (.bipush (-2), 2) := by decide +kernel
theorem dX12_best_13 : decode cX12_best 13 = .ok (.invokestatic 185, 3) := by decide +kernel
theorem dX12_best_16 : decode cX12_best 16 = .ok (.lreturn, 1) := by decide +kernel
theorem dX12_best_17 : decode cX12_best 17 = .ok (.aload_n 0, 1) := by decide +kernel
theorem dX12_best_18 : decode cX12_best 18 = .ok (.invokevirtual 225, 3) := by decide +kernel
theorem dX12_best_21 : decode cX12_best 21 = .ok (.aload_n 0, 1) := by decide +kernel
theorem dX12_best_22 : decode cX12_best 22 = .ok (.getfield 206, 3) := by decide +kernel
theorem dX12_best_25 : decode cX12_best 25 = .ok (.iload_n 1, 1) := by decide +kernel
theorem dX12_best_26 : decode cX12_best 26 = .ok (.invokestatic 181, 3) := by decide +kernel
theorem dX12_best_29 : decode cX12_best 29 = .ok (.lreturn, 1) := by decide +kernel
theorem dX12_priceNow_0 : decode cX12_priceNow 0 = .ok (.aload_n 0, 1) := by decide +kernel
theorem dX12_priceNow_1 : decode cX12_priceNow 1 = .ok (.getfield 34, 3) := by decide +kernel
theorem dX12_priceNow_4 : decode cX12_priceNow 4 = .ok (.iconst 2, 1) := by decide +kernel
theorem dX12_priceNow_5 : decode cX12_priceNow 5 = .ok (.iaload, 1) := by decide +kernel
theorem dX12_priceNow_6 : decode cX12_priceNow 6 = .ok (.istore_n 1, 1) := by decide +kernel
theorem dX12_priceNow_7 : decode cX12_priceNow 7 = .ok (.iconst (-1), 1) := by decide +kernel
theorem dX12_priceNow_8 : decode cX12_priceNow 8 = .ok (.istore_n 2, 1) := by decide +kernel
theorem dX12_priceNow_9 : decode cX12_priceNow 9 = .ok (.lconst 0, 1) := by decide +kernel
theorem dX12_priceNow_10 : decode cX12_priceNow 10 = .ok (.lstore_n 3, 1) := by decide +kernel
theorem dX12_priceNow_11 : decode cX12_priceNow 11 = .ok (.iconst 0, 1) := by decide +kernel
theorem dX12_priceNow_12 : decode cX12_priceNow 12 = .ok (.istore 5, 2) := by decide +kernel
theorem dX12_priceNow_14 : decode cX12_priceNow 14 = .ok (.iload 5, 2) := by decide +kernel
theorem dX12_priceNow_16 : decode cX12_priceNow 16 = .ok (.bipush 10, 2) := by decide +kernel
theorem dX12_priceNow_18 : decode cX12_priceNow 18 = .ok (.if_icmp .ge 70, 3) := by decide +kernel
theorem dX12_priceNow_21 : decode cX12_priceNow 21 = .ok (.aload_n 0, 1) := by decide +kernel
theorem dX12_priceNow_22 : decode cX12_priceNow 22 = .ok (.getfield 34, 3) := by decide +kernel
theorem dX12_priceNow_25 : decode cX12_priceNow 25 = .ok (.iconst 2, 1) := by decide +kernel
theorem dX12_priceNow_26 : decode cX12_priceNow 26 = .ok (.iload 5, 2) := by decide +kernel
theorem dX12_priceNow_28 : decode cX12_priceNow 28 = .ok (.iastore, 1) := by decide +kernel
theorem dX12_priceNow_29 : decode cX12_priceNow 29 = .ok (.aload_n 0, 1) := by decide +kernel
theorem dX12_priceNow_30 : decode cX12_priceNow 30 = .ok (.invokevirtual 162, 3) := by decide +kernel
theorem dX12_priceNow_33 : decode cX12_priceNow 33 = .ok (.aload_n 0, 1) := by decide +kernel
theorem dX12_priceNow_34 : decode cX12_priceNow 34 = .ok (.invokevirtual 188, 3) := by decide +kernel
theorem dX12_priceNow_37 : decode cX12_priceNow 37 = .ok (.lstore 6, 2) := by decide +kernel
theorem dX12_priceNow_39 : decode cX12_priceNow 39 = .ok (.iload_n 2, 1) := by decide +kernel
theorem dX12_priceNow_40 : decode cX12_priceNow 40 = .ok (.iconst (-1), 1) := by decide +kernel
theorem dX12_priceNow_41 : decode cX12_priceNow 41 = .ok (.if_icmp .eq 10, 3) := by decide +kernel
theorem dX12_priceNow_44 : decode cX12_priceNow 44 = .ok (.lload 6, 2) := by decide +kernel
theorem dX12_priceNow_46 : decode cX12_priceNow 46 = .ok (.lload_n 3, 1) := by decide +kernel
end
section
theorem dX12_priceNow_47 : decode cX12_priceNow 47 = .ok (.lcmp, 1) := by decide +kernel
theorem dX12_priceNow_48 : decode cX12_priceNow 48 = .ok (.ifCond .le 7, 3) := by decide +kernel
theorem dX12_priceNow_51 : decode cX12_priceNow 51 = .ok (.iconst 1, 1) := by decide +kernel
theorem dX12_priceNow_52 : decode cX12_priceNow 52 = .ok (.goto 4, 3) := by decide +kernel
theorem dX12_priceNow_55 : decode cX12_priceNow 55 = .ok (.iconst 0, 1) := by decide +kernel
theorem dX12_priceNow_56 : decode cX12_priceNow 56 = .ok (.istore 8, 2) := by decide +kernel
theorem dX12_priceNow_58 : decode cX12_priceNow 58 = .ok (.iload 8, 2) := by decide +kernel
theorem dX12_priceNow_60 : decode cX12_priceNow 60 = .ok (.ifCond .eq 8, 3) := by decide +kernel
theorem dX12_priceNow_63 : decode cX12_priceNow 63 = .ok (.iload 5, 2) := by decide +kernel
theorem dX12_priceNow_65 : decode cX12_priceNow 65 = .ok (.goto 4, 3) := by decide +kernel
theorem dX12_priceNow_68 : decode cX12_priceNow 68 = .ok (.iload_n 2, 1) := by decide +kernel
theorem dX12_priceNow_69 : decode cX12_priceNow 69 = .ok (.istore_n 2, 1) := by decide +kernel
theorem dX12_priceNow_70 : decode cX12_priceNow 70 = .ok (.iload 8, 2) := by decide +kernel
theorem dX12_priceNow_72 : decode cX12_priceNow 72 = .ok (.ifCond .eq 8, 3) := by decide +kernel
theorem dX12_priceNow_75 : decode cX12_priceNow 75 = .ok (.lload 6, 2) := by decide +kernel
theorem dX12_priceNow_77 : decode cX12_priceNow 77 = .ok (.goto 4, 3) := by decide +kernel
theorem dX12_priceNow_80 : decode cX12_priceNow 80 = .ok (.lload_n 3, 1) := by decide +kernel
theorem dX12_priceNow_81 : decode cX12_priceNow 81 = .ok (.lstore_n 3, 1) := by decide +kernel
theorem dX12_priceNow_82 : decode cX12_priceNow 82 = .ok (.iinc 5 1, 3) := by decide +kernel
theorem dX12_priceNow_85 : decode cX12_priceNow 85 = .ok (.goto (-71), 3) := by decide +kernel
theorem dX12_priceNow_88 : decode cX12_priceNow 88 = .ok (.aload_n 0, 1) := by decide +kernel
theorem dX12_priceNow_89 : decode cX12_priceNow 89 = .ok (.getfield 34, 3) := by decide +kernel
theorem dX12_priceNow_92 : decode cX12_priceNow 92 = .ok (.iconst 2, 1) := by decide +kernel
theorem dX12_priceNow_93 : decode cX12_priceNow 93 = .ok (.iload_n 1, 1) := by decide +kernel
theorem dX12_priceNow_94 : decode cX12_priceNow 94 = .ok (.iastore, 1) := by decide +kernel
theorem dX12_priceNow_95 : decode cX12_priceNow 95 = .ok (.aload_n 0, 1) := by decide +kernel
theorem dX12_priceNow_96 : decode cX12_priceNow 96 = .ok (.invokevirtual 162, 3) := by decide +kernel
theorem dX12_priceNow_99 : decode cX12_priceNow 99 = .ok (.iload_n 2, 1) := by decide +kernel
theorem dX12_priceNow_100 : decode cX12_priceNow 100 = .ok (.ireturn, 1) := by decide +kernel
theorem dX12_price_0 : decode cX12_price 0 = .ok (.aload_n 0, 1) := by decide +kernel
theorem dX12_price_1 : decode cX12_price 1 = .ok (.invokevirtual 165, 3) := by decide +kernel
theorem dX12_price_4 : decode cX12_price 4 = .ok (.aload_n 0, 1) := by decide +kernel
theorem dX12_price_5 : decode cX12_price 5 = .ok (.invokevirtual 231, 3) := by decide +kernel
theorem dX12_price_8 : decode cX12_price 8 = .ok (.ireturn, 1) := by decide +kernel
theorem dX12_ruleOf_0 : decode cX12_ruleOf 0 = .ok (.aload_n 0, 1) := by decide +kernel
theorem dX12_ruleOf_1 : decode cX12_ruleOf 1 = .ok (.getfield 34, 3) := by decide +kernel
theorem dX12_ruleOf_4 : decode cX12_ruleOf 4 = .ok (.iconst 1, 1) := by decide +kernel
theorem dX12_ruleOf_5 : decode cX12_ruleOf 5 = .ok (.iaload, 1) := by decide +kernel
theorem dX12_ruleOf_6 : decode cX12_ruleOf 6 = .ok (.istore_n 2, 1) := by decide +kernel
theorem dX12_ruleOf_7 : decode cX12_ruleOf 7 = .ok (.iconst (-1), 1) := by decide +kernel
theorem dX12_ruleOf_8 : decode cX12_ruleOf 8 = .ok (.istore_n 3, 1) := by decide +kernel
theorem dX12_ruleOf_9 : decode cX12_ruleOf 9 = .ok (.iconst 1, 1) := by decide +kernel
theorem dX12_ruleOf_10 : decode cX12_ruleOf 10 = .ok (.istore 4, 2) := by decide +kernel
theorem dX12_ruleOf_12 : decode cX12_ruleOf 12 = .ok (.iload 4, 2) := by decide +kernel
theorem dX12_ruleOf_14 : decode cX12_ruleOf 14 = .ok (.bipush 9, 2) := by decide +kernel
theorem dX12_ruleOf_16 : decode cX12_ruleOf 16 = .ok (.if_icmp .ge 41, 3) := by decide +kernel
theorem dX12_ruleOf_19 : decode cX12_ruleOf 19 = .ok (.aload_n 0, 1) := by decide +kernel
theorem dX12_ruleOf_20 : decode cX12_ruleOf 20 = .ok (.getfield 34, 3) := by decide +kernel
theorem dX12_ruleOf_23 : decode cX12_ruleOf 23 = .ok (.iconst 1, 1) := by decide +kernel
theorem dX12_ruleOf_24 : decode cX12_ruleOf 24 = .ok (.iload 4, 2) := by decide +kernel
theorem dX12_ruleOf_26 : decode cX12_ruleOf 26 = .ok (.iastore, 1) := by decide +kernel
theorem dX12_ruleOf_27 : decode cX12_ruleOf 27 = .ok (.aload_n 0, 1) := by decide +kernel
theorem dX12_ruleOf_28 : decode cX12_ruleOf 28 = .ok (.invokevirtual 162, 3) := by decide +kernel
theorem dX12_ruleOf_31 : decode cX12_ruleOf 31 = .ok (.aload_n 0, 1) := by decide +kernel
theorem dX12_ruleOf_32 : decode cX12_ruleOf 32 = .ok (.invokevirtual 188, 3) := by decide +kernel
theorem dX12_ruleOf_35 : decode cX12_ruleOf 35 = .ok (.iload_n 1, 1) := by decide +kernel
theorem dX12_ruleOf_36 : decode cX12_ruleOf 36 = .ok (.i2l, 1) := by decide +kernel
theorem dX12_ruleOf_37 : decode cX12_ruleOf 37 = .ok (.bipush 28, 2) := by decide +kernel
theorem dX12_ruleOf_39 : decode cX12_ruleOf 39 = .ok (.lshl, 1) := by decide +kernel
theorem dX12_ruleOf_40 : decode cX12_ruleOf 40 = .ok (.lcmp, 1) := by decide +kernel
theorem dX12_ruleOf_41 : decode cX12_ruleOf 41 = .ok (.ifCond .lt 8, 3) := by decide +kernel
theorem dX12_ruleOf_44 : decode cX12_ruleOf 44 = .ok (.iload 4, 2) := by decide +kernel
theorem dX12_ruleOf_46 : decode cX12_ruleOf 46 = .ok (.goto 4, 3) := by decide +kernel
theorem dX12_ruleOf_49 : decode cX12_ruleOf 49 = .ok (.iload_n 3, 1) := by decide +kernel
theorem dX12_ruleOf_50 : decode cX12_ruleOf 50 = .ok (.istore_n 3, 1) := by decide +kernel
theorem dX12_ruleOf_51 : decode cX12_ruleOf 51 = .ok (.iinc 4 1, 3) := by decide +kernel
theorem dX12_ruleOf_54 : decode cX12_ruleOf 54 = .ok (.goto (-42), 3) := by decide +kernel
theorem dX12_ruleOf_57 : decode cX12_ruleOf 57 = .ok (.aload_n 0, 1) := by decide +kernel
theorem dX12_ruleOf_58 : decode cX12_ruleOf 58 = .ok (.getfield 34, 3) := by decide +kernel
theorem dX12_ruleOf_61 : decode cX12_ruleOf 61 = .ok (.iconst 1, 1) := by decide +kernel
theorem dX12_ruleOf_62 : decode cX12_ruleOf 62 = .ok (.iload_n 2, 1) := by decide +kernel
theorem dX12_ruleOf_63 : decode cX12_ruleOf 63 = .ok (.iastore, 1) := by decide +kernel
theorem dX12_ruleOf_64 : decode cX12_ruleOf 64 = .ok (.aload_n 0, 1) := by decide +kernel
theorem dX12_ruleOf_65 : decode cX12_ruleOf 65 = .ok (.invokevirtual 162, 3) := by decide +kernel
theorem dX12_ruleOf_68 : decode cX12_ruleOf 68 = .ok (.iload_n 3, 1) := by decide +kernel
theorem dX12_ruleOf_69 : decode cX12_ruleOf 69 = .ok (.ireturn, 1) := by decide +kernel
theorem dX12_rule_0 : decode cX12_rule 0 = .ok (.aload_n 0, 1) := by decide +kernel
theorem dX12_rule_1 : decode cX12_rule 1 = .ok (.invokevirtual 165, 3) := by decide +kernel
theorem dX12_rule_4 : decode cX12_rule 4 = .ok (.iload_n 1, 1) := by decide +kernel
theorem dX12_rule_5 : decode cX12_rule 5 = .ok (.i2l, 1) := by decide +kernel
theorem dX12_rule_6 : decode cX12_rule 6 = .ok (.lconst 0, 1) := by decide +kernel
theorem dX12_rule_7 : decode cX12_rule 7 = .ok (.ldc2_w 204, 3) := by decide +kernel
theorem dX12_rule_10 : decode cX12_rule 10 = .ok (.invokestatic 73, 3) := by decide +kernel
theorem dX12_rule_13 : decode cX12_rule 13 = .ok (.ifCond .eq 11, 3) := by decide +kernel
theorem dX12_rule_16 : decode cX12_rule 16 = .ok (.aload_n 0, 1) := by decide +kernel
theorem dX12_rule_17 : decode cX12_rule 17 = .ok (.iload_n 1, 1) := by decide +kernel
theorem dX12_rule_18 : decode cX12_rule 18 = .ok (.invokevirtual 234, 3) := by decide +kernel
theorem dX12_rule_21 : decode cX12_rule 21 = .ok (.goto 5, 3) := by decide +kernel
theorem dX12_rule_24 : decode cX12_rule 24 = .ok (.bipush (-2), 2) := by decide +kernel
theorem dX12_rule_26 : decode cX12_rule 26 = .ok (.ireturn, 1) := by decide +kernel
theorem dX12_chainOf_0 : decode cX12_chainOf 0 = .ok (.iconst 0, 1) := by decide +kernel
theorem dX12_chainOf_1 : decode cX12_chainOf 1 = .ok (.istore_n 2, 1) := by decide +kernel
theorem dX12_chainOf_2 : decode cX12_chainOf 2 = .ok (.iload_n 1, 1) := by decide +kernel
theorem dX12_chainOf_3 : decode cX12_chainOf 3 = .ok (.istore_n 3, 1) := by decide +kernel
theorem dX12_chainOf_4 : decode cX12_chainOf 4 = .ok (.aload_n 0, 1) := by decide +kernel
theorem dX12_chainOf_5 : decode cX12_chainOf 5 = .ok (.iload_n 3, 1) := by decide +kernel
theorem dX12_chainOf_6 : decode cX12_chainOf 6 = .ok (.invokevirtual 132, 3) := by decide +kernel
theorem dX12_chainOf_9 : decode cX12_chainOf 9 = .ok (.ifCond .eq 49, 3) := by decide +kernel
theorem dX12_chainOf_12 : decode cX12_chainOf 12 = .ok (.iload_n 2, 1) := by decide +kernel
theorem dX12_chainOf_13 : decode cX12_chainOf 13 = .ok (.iload_n 3, 1) := by decide +kernel
theorem dX12_chainOf_14 : decode cX12_chainOf 14 = .ok (.invokestatic 149, 3) := by decide +kernel
theorem dX12_chainOf_17 : decode cX12_chainOf 17 = .ok (.ifCond .ne 41, 3) := by decide +kernel
theorem dX12_chainOf_20 : decode cX12_chainOf 20 = .ok (.iload_n 2, 1) := by decide +kernel
theorem dX12_chainOf_21 : decode cX12_chainOf 21 = .ok (.iconst 1, 1) := by decide +kernel
theorem dX12_chainOf_22 : decode cX12_chainOf 22 = .ok (.iload_n 3, 1) := by decide +kernel
theorem dX12_chainOf_23 : decode cX12_chainOf 23 = .ok (.ishl, 1) := by decide +kernel
theorem dX12_chainOf_24 : decode cX12_chainOf 24 = .ok (.ior, 1) := by decide +kernel
theorem dX12_chainOf_25 : decode cX12_chainOf 25 = .ok (.istore_n 2, 1) := by decide +kernel
theorem dX12_chainOf_26 : decode cX12_chainOf 26 = .ok (.aload_n 0, 1) := by decide +kernel
theorem dX12_chainOf_27 : decode cX12_chainOf 27 = .ok (.getfield 28, 3) := by decide +kernel
theorem dX12_chainOf_30 : decode cX12_chainOf 30 = .ok (.iconst 5, 1) := by decide +kernel
theorem dX12_chainOf_31 : decode cX12_chainOf 31 = .ok (.iload_n 3, 1) := by decide +kernel
theorem dX12_chainOf_32 : decode cX12_chainOf 32 = .ok (.imul, 1) := by decide +kernel
theorem dX12_chainOf_33 : decode cX12_chainOf 33 = .ok (.iconst 3, 1) := by decide +kernel
theorem dX12_chainOf_34 : decode cX12_chainOf 34 = .ok (.iadd, 1) := by decide +kernel
theorem dX12_chainOf_35 : decode cX12_chainOf 35 = .ok (.iaload, 1) := by decide +kernel
theorem dX12_chainOf_36 : decode cX12_chainOf 36 = .ok (.iconst 1, 1) := by decide +kernel
theorem dX12_chainOf_37 : decode cX12_chainOf 37 = .ok (.if_icmp .ne 16, 3) := by decide +kernel
theorem dX12_chainOf_40 : decode cX12_chainOf 40 = .ok (.aload_n 0, 1) := by decide +kernel
theorem dX12_chainOf_41 : decode cX12_chainOf 41 = .ok (.getfield 28, 3) := by decide +kernel
theorem dX12_chainOf_44 : decode cX12_chainOf 44 = .ok (.iconst 5, 1) := by decide +kernel
theorem dX12_chainOf_45 : decode cX12_chainOf 45 = .ok (.iload_n 3, 1) := by decide +kernel
theorem dX12_chainOf_46 : decode cX12_chainOf 46 = .ok (.imul, 1) := by decide +kernel
theorem dX12_chainOf_47 : decode cX12_chainOf 47 = .ok (.iconst 4, 1) := by decide +kernel
theorem dX12_chainOf_48 : decode cX12_chainOf 48 = .ok (.iadd, 1) := by decide +kernel
theorem dX12_chainOf_49 : decode cX12_chainOf 49 = .ok (.iaload, 1) := by decide +kernel
theorem dX12_chainOf_50 : decode cX12_chainOf 50 = .ok (.goto 4, 3) := by decide +kernel
theorem dX12_chainOf_53 : decode cX12_chainOf 53 = .ok (.iconst (-1), 1) := by decide +kernel
theorem dX12_chainOf_54 : decode cX12_chainOf 54 = .ok (.istore_n 3, 1) := by decide +kernel
theorem dX12_chainOf_55 : decode cX12_chainOf 55 = .ok (.goto (-51), 3) := by decide +kernel
theorem dX12_chainOf_58 : decode cX12_chainOf 58 = .ok (.iload_n 2, 1) := by decide +kernel
theorem dX12_chainOf_59 : decode cX12_chainOf 59 = .ok (.ireturn, 1) := by decide +kernel
theorem dX12_chain_0 : decode cX12_chain 0 = .ok (.aload_n 0, 1) := by decide +kernel
theorem dX12_chain_1 : decode cX12_chain 1 = .ok (.invokevirtual 165, 3) := by decide +kernel
theorem dX12_chain_4 : decode cX12_chain 4 = .ok (.aload_n 0, 1) := by decide +kernel
theorem dX12_chain_5 : decode cX12_chain 5 = .ok (.iload_n 1, 1) := by decide +kernel
theorem dX12_chain_6 : decode cX12_chain 6 = .ok (.invokevirtual 132, 3) := by decide +kernel
theorem dX12_chain_9 : decode cX12_chain 9 = .ok (.ifCond .eq 11, 3) := by decide +kernel
theorem dX12_chain_12 : decode cX12_chain 12 = .ok (.aload_n 0, 1) := by decide +kernel
theorem dX12_chain_13 : decode cX12_chain 13 = .ok (.iload_n 1, 1) := by decide +kernel
theorem dX12_chain_14 : decode cX12_chain 14 = .ok (.invokevirtual 237, 3) := by decide +kernel
theorem dX12_chain_17 : decode cX12_chain 17 = .ok (.goto 5, 3) := by decide +kernel
theorem dX12_chain_20 : decode cX12_chain 20 = .ok (.bipush (-2), 2) := by decide +kernel
theorem dX12_chain_22 : decode cX12_chain 22 = .ok (.ireturn, 1) := by decide +kernel
theorem dX12_seen_0 : decode cX12_seen 0 = .ok (.iload_n 1, 1) := by decide +kernel
theorem dX12_seen_1 : decode cX12_seen 1 = .ok (.i2l, 1) := by decide +kernel
theorem dX12_seen_2 : decode cX12_seen 2 = .ok (.lconst 0, 1) := by decide +kernel
theorem dX12_seen_3 : decode cX12_seen 3 = .ok (.ldc2_w 223, 3) := by decide +kernel
theorem dX12_seen_6 : decode cX12_seen 6 = .ok (.invokestatic 73, 3) := by decide +kernel
theorem dX12_seen_9 : decode cX12_seen 9 = .ok (.ifCond .eq 15, 3) := by decide +kernel
theorem dX12_seen_12 : decode cX12_seen 12 = .ok (.iload_n 2, 1) := by decide +kernel
theorem dX12_seen_13 : decode cX12_seen 13 = .ok (.i2l, 1) := by decide +kernel
theorem dX12_seen_14 : decode cX12_seen 14 = .ok (.lconst 0, 1) := by decide +kernel
theorem dX12_seen_15 : decode cX12_seen 15 = .ok (.ldc2_w 135, 3) := by decide +kernel
theorem dX12_seen_18 : decode cX12_seen 18 = .ok (.invokestatic 73, 3) := by decide +kernel
theorem dX12_seen_21 : decode cX12_seen 21 = .ok (.ifCond .ne 6, 3) := by decide +kernel
theorem dX12_seen_24 : decode cX12_seen 24 = .ok (.bipush (-2), 2) := by decide +kernel
theorem dX12_seen_26 : decode cX12_seen 26 = .ok (.ireturn, 1) := by decide +kernel
theorem dX12_seen_27 : decode cX12_seen 27 = .ok (.aload_n 0, 1) := by decide +kernel
theorem dX12_seen_28 : decode cX12_seen 28 = .ok (.getfield 240, 3) := by decide +kernel
theorem dX12_seen_31 : decode cX12_seen 31 = .ok (.bipush 8, 2) := by decide +kernel
theorem dX12_seen_33 : decode cX12_seen 33 = .ok (.if_icmp .ne 6, 3) := by decide +kernel
theorem dX12_seen_36 : decode cX12_seen 36 = .ok (.bipush (-4), 2) := by decide +kernel
theorem dX12_seen_38 : decode cX12_seen 38 = .ok (.ireturn, 1) := by decide +kernel
theorem dX12_seen_39 : decode cX12_seen 39 = .ok (.aload_n 0, 1) := by decide +kernel
theorem dX12_seen_40 : decode cX12_seen 40 = .ok (.getfield 65, 3) := by decide +kernel
theorem dX12_seen_43 : decode cX12_seen 43 = .ok (.iconst 2, 1) := by decide +kernel
theorem dX12_seen_44 : decode cX12_seen 44 = .ok (.aload_n 0, 1) := by decide +kernel
theorem dX12_seen_45 : decode cX12_seen 45 = .ok (.getfield 240, 3) := by decide +kernel
theorem dX12_seen_48 : decode cX12_seen 48 = .ok (.imul, 1) := by decide +kernel
theorem dX12_seen_49 : decode cX12_seen 49 = .ok (.iload_n 1, 1) := by decide +kernel
theorem dX12_seen_50 : decode cX12_seen 50 = .ok (.iastore, 1) := by decide +kernel
theorem dX12_seen_51 : decode cX12_seen 51 = .ok (.aload_n 0, 1) := by decide +kernel
theorem dX12_seen_52 : decode cX12_seen 52 = .ok (.getfield 65, 3) := by decide +kernel
theorem dX12_seen_55 : decode cX12_seen 55 = .ok (.iconst 2, 1) := by decide +kernel
theorem dX12_seen_56 : decode cX12_seen 56 = .ok (.aload_n 0, 1) := by decide +kernel
theorem dX12_seen_57 : decode cX12_seen 57 = .ok (.getfield 240, 3) := by decide +kernel
theorem dX12_seen_60 : decode cX12_seen 60 = .ok (.imul, 1) := by decide +kernel
theorem dX12_seen_61 : decode cX12_seen 61 = .ok (.iconst 1, 1) := by decide +kernel
theorem dX12_seen_62 : decode cX12_seen 62 = .ok (.iadd, 1) := by decide +kernel
theorem dX12_seen_63 : decode cX12_seen 63 = .ok (.iload_n 2, 1) := by decide +kernel
theorem dX12_seen_64 : decode cX12_seen 64 = .ok (.iastore, 1) := by decide +kernel
theorem dX12_seen_65 : decode cX12_seen 65 = .ok (.aload_n 0, 1) := by decide +kernel
theorem dX12_seen_66 : decode cX12_seen 66 = .ok (.dup, 1) := by decide +kernel
theorem dX12_seen_67 : decode cX12_seen 67 = .ok (.getfield 240, 3) := by decide +kernel
theorem dX12_seen_70 : decode cX12_seen 70 = .ok (.iconst 1, 1) := by decide +kernel
theorem dX12_seen_71 : decode cX12_seen 71 = .ok (.iadd, 1) := by decide +kernel
theorem dX12_seen_72 : decode cX12_seen 72 = .ok (.putfield 240, 3) := by decide +kernel
theorem dX12_seen_75 : decode cX12_seen 75 = .ok (.aload_n 0, 1) := by decide +kernel
theorem dX12_seen_76 : decode cX12_seen 76 = .ok (.getfield 240, 3) := by decide +kernel
theorem dX12_seen_79 : decode cX12_seen 79 = .ok (.ireturn, 1) := by decide +kernel
theorem dX12_forget_0 : decode cX12_forget 0 = .ok (.aload_n 0, 1) := by decide +kernel
theorem dX12_forget_1 : decode cX12_forget 1 = .ok (.getfield 240, 3) := by decide +kernel
theorem dX12_forget_4 : decode cX12_forget 4 = .ok (.istore_n 1, 1) := by decide +kernel
theorem dX12_forget_5 : decode cX12_forget 5 = .ok (.aload_n 0, 1) := by decide +kernel
theorem dX12_forget_6 : decode cX12_forget 6 = .ok (.iconst 0, 1) := by decide +kernel
theorem dX12_forget_7 : decode cX12_forget 7 = .ok (.putfield 240, 3) := by decide +kernel
theorem dX12_forget_10 : decode cX12_forget 10 = .ok (.iload_n 1, 1) := by decide +kernel
theorem dX12_forget_11 : decode cX12_forget 11 = .ok (.ireturn, 1) := by decide +kernel
theorem dX12_read_0 : decode cX12_read 0 = .ok (.iload_n 1, 1) := by decide +kernel
theorem dX12_read_1 : decode cX12_read 1 = .ok (.invokestatic 83, 3) := by decide +kernel
theorem dX12_read_4 : decode cX12_read 4 = .ok (.ifCond .ne 6, 3) := by decide +kernel
theorem dX12_read_7 : decode cX12_read 7 = .ok (.bipush (-2), 2) := by decide +kernel
theorem dX12_read_9 : decode cX12_read 9 = .ok (.ireturn, 1) := by decide +kernel
theorem dX12_read_10 : decode cX12_read 10 = .ok (.aload_n 0, 1) := by decide +kernel
theorem dX12_read_11 : decode cX12_read 11 = .ok (.getfield 7, 3) := by decide +kernel
theorem dX12_read_14 : decode cX12_read 14 = .ok (.iload_n 1, 1) := by decide +kernel
theorem dX12_read_15 : decode cX12_read 15 = .ok (.iaload, 1) := by decide +kernel
theorem dX12_read_16 : decode cX12_read 16 = .ok (.ifCond .ge 9, 3) := by decide +kernel
theorem dX12_read_19 : decode cX12_read 19 = .ok (.aload_n 0, 1) := by decide +kernel
theorem dX12_read_20 : decode cX12_read 20 = .ok (.iconst 1, 1) := by decide +kernel
theorem dX12_read_21 : decode cX12_read 21 = .ok (.invokevirtual 89, 3) := by decide +kernel
theorem dX12_read_24 : decode cX12_read 24 = .ok (.ireturn, 1) := by decide +kernel
theorem dX12_read_25 : decode cX12_read 25 = .ok (.iconst 0, 1) := by decide +kernel
theorem dX12_read_26 : decode cX12_read 26 = .ok (.istore_n 2, 1) := by decide +kernel
theorem dX12_read_27 : decode cX12_read 27 = .ok (.iconst 1, 1) := by decide +kernel
theorem dX12_read_28 : decode cX12_read 28 = .ok (.istore_n 3, 1) := by decide +kernel
theorem dX12_read_29 : decode cX12_read 29 = .ok (.iload_n 3, 1) := by decide +kernel
theorem dX12_read_30 : decode cX12_read 30 = .ok (.ifCond .eq 73, 3) := by decide +kernel
theorem dX12_read_33 : decode cX12_read 33 = .ok (.iconst 2, 1) := by decide +kernel
theorem dX12_read_34 : decode cX12_read 34 = .ok (.iload_n 2, 1) := by decide +kernel
theorem dX12_read_35 : decode cX12_read 35 = .ok (.imul, 1) := by decide +kernel
theorem dX12_read_36 : decode cX12_read 36 = .ok (.iconst 2, 1) := by decide +kernel
theorem dX12_read_37 : decode cX12_read 37 = .ok (.iadd, 1) := by decide +kernel
theorem dX12_read_38 : decode cX12_read 38 = .ok (.aload_n 0, 1) := by decide +kernel
theorem dX12_read_39 : decode cX12_read 39 = .ok (.getfield 13, 3) := by decide +kernel
theorem dX12_read_42 : decode cX12_read 42 = .ok (.iload_n 1, 1) := by decide +kernel
theorem dX12_read_43 : decode cX12_read 43 = .ok (.iaload, 1) := by decide +kernel
theorem dX12_read_44 : decode cX12_read 44 = .ok (.if_icmp .gt 59, 3) := by decide +kernel
theorem dX12_read_47 : decode cX12_read 47 = .ok (.aload_n 0, 1) := by decide +kernel
theorem dX12_read_48 : decode cX12_read 48 = .ok (.aload_n 0, 1) := by decide +kernel
theorem dX12_read_49 : decode cX12_read 49 = .ok (.getfield 16, 3) := by decide +kernel
theorem dX12_read_52 : decode cX12_read 52 = .ok (.bipush 60, 2) := by decide +kernel
theorem dX12_read_54 : decode cX12_read 54 = .ok (.iload_n 1, 1) := by decide +kernel
theorem dX12_read_55 : decode cX12_read 55 = .ok (.imul, 1) := by decide +kernel
theorem dX12_read_56 : decode cX12_read 56 = .ok (.iconst 2, 1) := by decide +kernel
theorem dX12_read_57 : decode cX12_read 57 = .ok (.iload_n 2, 1) := by decide +kernel
theorem dX12_read_58 : decode cX12_read 58 = .ok (.imul, 1) := by decide +kernel
theorem dX12_read_59 : decode cX12_read 59 = .ok (.iadd, 1) := by decide +kernel
theorem dX12_read_60 : decode cX12_read 60 = .ok (.iaload, 1) := by decide +kernel
theorem dX12_read_61 : decode cX12_read 61 = .ok (.aload_n 0, 1) := by decide +kernel
theorem dX12_read_62 : decode cX12_read 62 = .ok (.getfield 16, 3) := by decide +kernel
theorem dX12_read_65 : decode cX12_read 65 = .ok (.bipush 60, 2) := by decide +kernel
theorem dX12_read_67 : decode cX12_read 67 = .ok (.iload_n 1, 1) := by decide +kernel
theorem dX12_read_68 : decode cX12_read 68 = .ok (.imul, 1) := by decide +kernel
theorem dX12_read_69 : decode cX12_read 69 = .ok (.iconst 2, 1) := by decide +kernel
theorem dX12_read_70 : decode cX12_read 70 = .ok (.iload_n 2, 1) := by decide +kernel
theorem dX12_read_71 : decode cX12_read 71 = .ok (.imul, 1) := by decide +kernel
theorem dX12_read_72 : decode cX12_read 72 = .ok (.iadd, 1) := by decide +kernel
theorem dX12_read_73 : decode cX12_read 73 = .ok (.iconst 1, 1) := by decide +kernel
theorem dX12_read_74 : decode cX12_read 74 = .ok (.iadd, 1) := by decide +kernel
theorem dX12_read_75 : decode cX12_read 75 = .ok (.iaload, 1) := by decide +kernel
theorem dX12_read_76 : decode cX12_read 76 = .ok (.invokevirtual 243, 3) := by decide +kernel
theorem dX12_read_79 : decode cX12_read 79 = .ok (.ifCond .lt 7, 3) := by decide +kernel
theorem dX12_read_82 : decode cX12_read 82 = .ok (.iconst 1, 1) := by decide +kernel
theorem dX12_read_83 : decode cX12_read 83 = .ok (.goto 4, 3) := by decide +kernel
theorem dX12_read_86 : decode cX12_read 86 = .ok (.iconst 0, 1) := by decide +kernel
theorem dX12_read_87 : decode cX12_read 87 = .ok (.istore_n 3, 1) := by decide +kernel
theorem dX12_read_88 : decode cX12_read 88 = .ok (.iload_n 2, 1) := by decide +kernel
theorem dX12_read_89 : decode cX12_read 89 = .ok (.iload_n 3, 1) := by decide +kernel
theorem dX12_read_90 : decode cX12_read 90 = .ok (.ifCond .eq 7, 3) := by decide +kernel
theorem dX12_read_93 : decode cX12_read 93 = .ok (.iconst 1, 1) := by decide +kernel
theorem dX12_read_94 : decode cX12_read 94 = .ok (.goto 4, 3) := by decide +kernel
theorem dX12_read_97 : decode cX12_read 97 = .ok (.iconst 0, 1) := by decide +kernel
theorem dX12_read_98 : decode cX12_read 98 = .ok (.iadd, 1) := by decide +kernel
theorem dX12_read_99 : decode cX12_read 99 = .ok (.istore_n 2, 1) := by decide +kernel
theorem dX12_read_100 : decode cX12_read 100 = .ok (.goto (-71), 3) := by decide +kernel
theorem dX12_read_103 : decode cX12_read 103 = .ok (.iload_n 2, 1) := by decide +kernel
theorem dX12_read_104 : decode cX12_read 104 = .ok (.ireturn, 1) := by decide +kernel
theorem dX12_isSeen_0 : decode cX12_isSeen 0 = .ok (.aload_n 0, 1) := by decide +kernel
theorem dX12_isSeen_1 : decode cX12_isSeen 1 = .ok (.invokevirtual 162, 3) := by decide +kernel
theorem dX12_isSeen_4 : decode cX12_isSeen 4 = .ok (.iconst 1, 1) := by decide +kernel
theorem dX12_isSeen_5 : decode cX12_isSeen 5 = .ok (.istore_n 1, 1) := by decide +kernel
theorem dX12_isSeen_6 : decode cX12_isSeen 6 = .ok (.iconst 0, 1) := by decide +kernel
theorem dX12_isSeen_7 : decode cX12_isSeen 7 = .ok (.istore_n 2, 1) := by decide +kernel
theorem dX12_isSeen_8 : decode cX12_isSeen 8 = .ok (.iload_n 2, 1) := by decide +kernel
theorem dX12_isSeen_9 : decode cX12_isSeen 9 = .ok (.aload_n 0, 1) := by decide +kernel
theorem dX12_isSeen_10 : decode cX12_isSeen 10 = .ok (.getfield 240, 3) := by decide +kernel
theorem dX12_isSeen_13 : decode cX12_isSeen 13 = .ok (.if_icmp .ge 44, 3) := by decide +kernel
theorem dX12_isSeen_16 : decode cX12_isSeen 16 = .ok (.iload_n 1, 1) := by decide +kernel
theorem dX12_isSeen_17 : decode cX12_isSeen 17 = .ok (.ifCond .eq 32, 3) := by decide +kernel
theorem dX12_isSeen_20 : decode cX12_isSeen 20 = .ok (.aload_n 0, 1) := by decide +kernel
theorem dX12_isSeen_21 : decode cX12_isSeen 21 = .ok (.aload_n 0, 1) := by decide +kernel
theorem dX12_isSeen_22 : decode cX12_isSeen 22 = .ok (.getfield 65, 3) := by decide +kernel
theorem dX12_isSeen_25 : decode cX12_isSeen 25 = .ok (.iconst 2, 1) := by decide +kernel
theorem dX12_isSeen_26 : decode cX12_isSeen 26 = .ok (.iload_n 2, 1) := by decide +kernel
theorem dX12_isSeen_27 : decode cX12_isSeen 27 = .ok (.imul, 1) := by decide +kernel
theorem dX12_isSeen_28 : decode cX12_isSeen 28 = .ok (.iaload, 1) := by decide +kernel
theorem dX12_isSeen_29 : decode cX12_isSeen 29 = .ok (.invokevirtual 201, 3) := by decide +kernel
theorem dX12_isSeen_32 : decode cX12_isSeen 32 = .ok (.aload_n 0, 1) := by decide +kernel
theorem dX12_isSeen_33 : decode cX12_isSeen 33 = .ok (.getfield 65, 3) := by decide +kernel
theorem dX12_isSeen_36 : decode cX12_isSeen 36 = .ok (.iconst 2, 1) := by decide +kernel
theorem dX12_isSeen_37 : decode cX12_isSeen 37 = .ok (.iload_n 2, 1) := by decide +kernel
theorem dX12_isSeen_38 : decode cX12_isSeen 38 = .ok (.imul, 1) := by decide +kernel
theorem dX12_isSeen_39 : decode cX12_isSeen 39 = .ok (.iconst 1, 1) := by decide +kernel
theorem dX12_isSeen_40 : decode cX12_isSeen 40 = .ok (.iadd, 1) := by decide +kernel
theorem dX12_isSeen_41 : decode cX12_isSeen 41 = .ok (.iaload, 1) := by decide +kernel
theorem dX12_isSeen_42 : decode cX12_isSeen 42 = .ok (.if_icmp .ne 7, 3) := by decide +kernel
theorem dX12_isSeen_45 : decode cX12_isSeen 45 = .ok (.iconst 1, 1) := by decide +kernel
theorem dX12_isSeen_46 : decode cX12_isSeen 46 = .ok (.goto 4, 3) := by decide +kernel
theorem dX12_isSeen_49 : decode cX12_isSeen 49 = .ok (.iconst 0, 1) := by decide +kernel
theorem dX12_isSeen_50 : decode cX12_isSeen 50 = .ok (.istore_n 1, 1) := by decide +kernel
theorem dX12_isSeen_51 : decode cX12_isSeen 51 = .ok (.iinc 2 1, 3) := by decide +kernel
theorem dX12_isSeen_54 : decode cX12_isSeen 54 = .ok (.goto (-46), 3) := by decide +kernel
theorem dX12_isSeen_57 : decode cX12_isSeen 57 = .ok (.iload_n 1, 1) := by decide +kernel
theorem dX12_isSeen_58 : decode cX12_isSeen 58 = .ok (.ireturn, 1) := by decide +kernel
theorem dX12_bribesNow_0 : decode cX12_bribesNow 0 = .ok (.aload_n 0, 1) := by decide +kernel
theorem dX12_bribesNow_1 : decode cX12_bribesNow 1 = .ok (.getfield 34, 3) := by decide +kernel
theorem dX12_bribesNow_4 : decode cX12_bribesNow 4 = .ok (.iconst 2, 1) := by decide +kernel
theorem dX12_bribesNow_5 : decode cX12_bribesNow 5 = .ok (.iaload, 1) := by decide +kernel
theorem dX12_bribesNow_6 : decode cX12_bribesNow 6 = .ok (.istore_n 1, 1) := by decide +kernel
theorem dX12_bribesNow_7 : decode cX12_bribesNow 7 = .ok (.iconst 0, 1) := by decide +kernel
theorem dX12_bribesNow_8 : decode cX12_bribesNow 8 = .ok (.istore_n 2, 1) := by decide +kernel
theorem dX12_bribesNow_9 : decode cX12_bribesNow 9 = .ok (.iconst 0, 1) := by decide +kernel
theorem dX12_bribesNow_10 : decode cX12_bribesNow 10 = .ok (.istore_n 3, 1) := by decide +kernel
theorem dX12_bribesNow_11 : decode cX12_bribesNow 11 = .ok (.iload_n 3, 1) := by decide +kernel
theorem dX12_bribesNow_12 : decode cX12_bribesNow 12 = .ok (.bipush 10, 2) := by decide +kernel
theorem dX12_bribesNow_14 : decode cX12_bribesNow 14 = .ok (.if_icmp .ge 33, 3) := by decide +kernel
theorem dX12_bribesNow_17 : decode cX12_bribesNow 17 = .ok (.aload_n 0, 1) := by decide +kernel
theorem dX12_bribesNow_18 : decode cX12_bribesNow 18 = .ok (.getfield 34, 3) := by decide +kernel
theorem dX12_bribesNow_21 : decode cX12_bribesNow 21 = .ok (.iconst 2, 1) := by decide +kernel
theorem dX12_bribesNow_22 : decode cX12_bribesNow 22 = .ok (.iload_n 3, 1) := by decide +kernel
theorem dX12_bribesNow_23 : decode cX12_bribesNow 23 = .ok (.iastore, 1) := by decide +kernel
theorem dX12_bribesNow_24 : decode cX12_bribesNow 24 = .ok (.iload_n 2, 1) := by decide +kernel
theorem dX12_bribesNow_25 : decode cX12_bribesNow 25 = .ok (.aload_n 0, 1) := by decide +kernel
theorem dX12_bribesNow_26 : decode cX12_bribesNow 26 = .ok (.invokevirtual 246, 3) := by decide +kernel
theorem dX12_bribesNow_29 : decode cX12_bribesNow 29 = .ok (.ifCond .eq 9, 3) := by decide +kernel
theorem dX12_bribesNow_32 : decode cX12_bribesNow 32 = .ok (.iconst 1, 1) := by decide +kernel
theorem dX12_bribesNow_33 : decode cX12_bribesNow 33 = .ok (.iload_n 3, 1) := by decide +kernel
theorem dX12_bribesNow_34 : decode cX12_bribesNow 34 = .ok (.ishl, 1) := by decide +kernel
theorem dX12_bribesNow_35 : decode cX12_bribesNow 35 = .ok (.goto 4, 3) := by decide +kernel
theorem dX12_bribesNow_38 : decode cX12_bribesNow 38 = .ok (.iconst 0, 1) := by decide +kernel
theorem dX12_bribesNow_39 : decode cX12_bribesNow 39 = .ok (.ior, 1) := by decide +kernel
theorem dX12_bribesNow_40 : decode cX12_bribesNow 40 = .ok (.istore_n 2, 1) := by decide +kernel
theorem dX12_bribesNow_41 : decode cX12_bribesNow 41 = .ok (.iinc 3 1, 3) := by decide +kernel
theorem dX12_bribesNow_44 : decode cX12_bribesNow 44 = .ok (.goto (-33), 3) := by decide +kernel
theorem dX12_bribesNow_47 : decode cX12_bribesNow 47 = .ok (.aload_n 0, 1) := by decide +kernel
theorem dX12_bribesNow_48 : decode cX12_bribesNow 48 = .ok (.getfield 34, 3) := by decide +kernel
theorem dX12_bribesNow_51 : decode cX12_bribesNow 51 = .ok (.iconst 2, 1) := by decide +kernel
theorem dX12_bribesNow_52 : decode cX12_bribesNow 52 = .ok (.iload_n 1, 1) := by decide +kernel
theorem dX12_bribesNow_53 : decode cX12_bribesNow 53 = .ok (.iastore, 1) := by decide +kernel
theorem dX12_bribesNow_54 : decode cX12_bribesNow 54 = .ok (.aload_n 0, 1) := by decide +kernel
theorem dX12_bribesNow_55 : decode cX12_bribesNow 55 = .ok (.invokevirtual 162, 3) := by decide +kernel
theorem dX12_bribesNow_58 : decode cX12_bribesNow 58 = .ok (.iload_n 2, 1) := by decide +kernel
theorem dX12_bribesNow_59 : decode cX12_bribesNow 59 = .ok (.ireturn, 1) := by decide +kernel
theorem dX12_bribes_0 : decode cX12_bribes 0 = .ok (.aload_n 0, 1) := by decide +kernel
theorem dX12_bribes_1 : decode cX12_bribes 1 = .ok (.invokevirtual 165, 3) := by decide +kernel
theorem dX12_bribes_4 : decode cX12_bribes 4 = .ok (.aload_n 0, 1) := by decide +kernel
theorem dX12_bribes_5 : decode cX12_bribes 5 = .ok (.invokevirtual 250, 3) := by decide +kernel
theorem dX12_bribes_8 : decode cX12_bribes 8 = .ok (.ireturn, 1) := by decide +kernel
theorem dX12_kindsOf_0 : decode cX12_kindsOf 0 = .ok (.aload_n 0, 1) := by decide +kernel
theorem dX12_kindsOf_1 : decode cX12_kindsOf 1 = .ok (.getfield 28, 3) := by decide +kernel
theorem dX12_kindsOf_4 : decode cX12_kindsOf 4 = .ok (.iconst 5, 1) := by decide +kernel
theorem dX12_kindsOf_5 : decode cX12_kindsOf 5 = .ok (.iload_n 1, 1) := by decide +kernel
theorem dX12_kindsOf_6 : decode cX12_kindsOf 6 = .ok (.imul, 1) := by decide +kernel
theorem dX12_kindsOf_7 : decode cX12_kindsOf 7 = .ok (.iaload, 1) := by decide +kernel
theorem dX12_kindsOf_8 : decode cX12_kindsOf 8 = .ok (.istore_n 2, 1) := by decide +kernel
theorem dX12_kindsOf_9 : decode cX12_kindsOf 9 = .ok (.iconst 0, 1) := by decide +kernel
theorem dX12_kindsOf_10 : decode cX12_kindsOf 10 = .ok (.istore_n 3, 1) := by decide +kernel
theorem dX12_kindsOf_11 : decode cX12_kindsOf 11 = .ok (.iconst 0, 1) := by decide +kernel
theorem dX12_kindsOf_12 : decode cX12_kindsOf 12 = .ok (.istore 4, 2) := by decide +kernel
theorem dX12_kindsOf_14 : decode cX12_kindsOf 14 = .ok (.iload 4, 2) := by decide +kernel
theorem dX12_kindsOf_16 : decode cX12_kindsOf 16 = .ok (.iconst 4, 1) := by decide +kernel
theorem dX12_kindsOf_17 : decode cX12_kindsOf 17 = .ok (.if_icmp .ge 37, 3) := by decide +kernel
theorem dX12_kindsOf_20 : decode cX12_kindsOf 20 = .ok (.aload_n 0, 1) := by decide +kernel
theorem dX12_kindsOf_21 : decode cX12_kindsOf 21 = .ok (.getfield 28, 3) := by decide +kernel
theorem dX12_kindsOf_24 : decode cX12_kindsOf 24 = .ok (.iconst 5, 1) := by decide +kernel
theorem dX12_kindsOf_25 : decode cX12_kindsOf 25 = .ok (.iload_n 1, 1) := by decide +kernel
theorem dX12_kindsOf_26 : decode cX12_kindsOf 26 = .ok (.imul, 1) := by decide +kernel
theorem dX12_kindsOf_27 : decode cX12_kindsOf 27 = .ok (.iload 4, 2) := by decide +kernel
theorem dX12_kindsOf_29 : decode cX12_kindsOf 29 = .ok (.iastore, 1) := by decide +kernel
theorem dX12_kindsOf_30 : decode cX12_kindsOf 30 = .ok (.iload_n 3, 1) := by decide +kernel
theorem dX12_kindsOf_31 : decode cX12_kindsOf 31 = .ok (.aload_n 0, 1) := by decide +kernel
theorem dX12_kindsOf_32 : decode cX12_kindsOf 32 = .ok (.invokevirtual 246, 3) := by decide +kernel
theorem dX12_kindsOf_35 : decode cX12_kindsOf 35 = .ok (.ifCond .eq 10, 3) := by decide +kernel
theorem dX12_kindsOf_38 : decode cX12_kindsOf 38 = .ok (.iconst 1, 1) := by decide +kernel
theorem dX12_kindsOf_39 : decode cX12_kindsOf 39 = .ok (.iload 4, 2) := by decide +kernel
theorem dX12_kindsOf_41 : decode cX12_kindsOf 41 = .ok (.ishl, 1) := by decide +kernel
theorem dX12_kindsOf_42 : decode cX12_kindsOf 42 = .ok (.goto 4, 3) := by decide +kernel
theorem dX12_kindsOf_45 : decode cX12_kindsOf 45 = .ok (.iconst 0, 1) := by decide +kernel
theorem dX12_kindsOf_46 : decode cX12_kindsOf 46 = .ok (.ior, 1) := by decide +kernel
theorem dX12_kindsOf_47 : decode cX12_kindsOf 47 = .ok (.istore_n 3, 1) := by decide +kernel
theorem dX12_kindsOf_48 : decode cX12_kindsOf 48 = .ok (.iinc 4 1, 3) := by decide +kernel
theorem dX12_kindsOf_51 : decode cX12_kindsOf 51 = .ok (.goto (-37), 3) := by decide +kernel
theorem dX12_kindsOf_54 : decode cX12_kindsOf 54 = .ok (.aload_n 0, 1) := by decide +kernel
theorem dX12_kindsOf_55 : decode cX12_kindsOf 55 = .ok (.getfield 28, 3) := by decide +kernel
theorem dX12_kindsOf_58 : decode cX12_kindsOf 58 = .ok (.iconst 5, 1) := by decide +kernel
theorem dX12_kindsOf_59 : decode cX12_kindsOf 59 = .ok (.iload_n 1, 1) := by decide +kernel
theorem dX12_kindsOf_60 : decode cX12_kindsOf 60 = .ok (.imul, 1) := by decide +kernel
theorem dX12_kindsOf_61 : decode cX12_kindsOf 61 = .ok (.iload_n 2, 1) := by decide +kernel
theorem dX12_kindsOf_62 : decode cX12_kindsOf 62 = .ok (.iastore, 1) := by decide +kernel
theorem dX12_kindsOf_63 : decode cX12_kindsOf 63 = .ok (.aload_n 0, 1) := by decide +kernel
theorem dX12_kindsOf_64 : decode cX12_kindsOf 64 = .ok (.invokevirtual 162, 3) := by decide +kernel
theorem dX12_kindsOf_67 : decode cX12_kindsOf 67 = .ok (.iload_n 3, 1) := by decide +kernel
theorem dX12_kindsOf_68 : decode cX12_kindsOf 68 = .ok (.ireturn, 1) := by decide +kernel
theorem dX12_kinds_0 : decode cX12_kinds 0 = .ok (.aload_n 0, 1) := by decide +kernel
theorem dX12_kinds_1 : decode cX12_kinds 1 = .ok (.invokevirtual 165, 3) := by decide +kernel
theorem dX12_kinds_4 : decode cX12_kinds 4 = .ok (.aload_n 0, 1) := by decide +kernel
theorem dX12_kinds_5 : decode cX12_kinds 5 = .ok (.iload_n 1, 1) := by decide +kernel
theorem dX12_kinds_6 : decode cX12_kinds 6 = .ok (.invokevirtual 132, 3) := by decide +kernel
theorem dX12_kinds_9 : decode cX12_kinds 9 = .ok (.ifCond .eq 11, 3) := by decide +kernel
theorem dX12_kinds_12 : decode cX12_kinds 12 = .ok (.aload_n 0, 1) := by decide +kernel
theorem dX12_kinds_13 : decode cX12_kinds 13 = .ok (.iload_n 1, 1) := by decide +kernel
theorem dX12_kinds_14 : decode cX12_kinds 14 = .ok (.invokevirtual 253, 3) := by decide +kernel
theorem dX12_kinds_17 : decode cX12_kinds 17 = .ok (.goto 5, 3) := by decide +kernel
theorem dX12_kinds_20 : decode cX12_kinds 20 = .ok (.bipush (-2), 2) := by decide +kernel
theorem dX12_kinds_22 : decode cX12_kinds 22 = .ok (.ireturn, 1) := by decide +kernel
theorem dX12_askNow_0 : decode cX12_askNow 0 = .ok (.aload_n 0, 1) := by decide +kernel
theorem dX12_askNow_1 : decode cX12_askNow 1 = .ok (.invokevirtual 250, 3) := by decide +kernel
theorem dX12_askNow_4 : decode cX12_askNow 4 = .ok (.istore_n 1, 1) := by decide +kernel
theorem dX12_askNow_5 : decode cX12_askNow 5 = .ok (.aload_n 0, 1) := by decide +kernel
theorem dX12_askNow_6 : decode cX12_askNow 6 = .ok (.getfield 34, 3) := by decide +kernel
theorem dX12_askNow_9 : decode cX12_askNow 9 = .ok (.iconst 2, 1) := by decide +kernel
theorem dX12_askNow_10 : decode cX12_askNow 10 = .ok (.iaload, 1) := by decide +kernel
theorem dX12_askNow_11 : decode cX12_askNow 11 = .ok (.istore_n 2, 1) := by decide +kernel
theorem dX12_askNow_12 : decode cX12_askNow 12 = .ok (.iconst 0, 1) := by decide +kernel
theorem dX12_askNow_13 : decode cX12_askNow 13 = .ok (.istore_n 3, 1) := by decide +kernel
theorem dX12_askNow_14 : decode cX12_askNow 14 = .ok (.iload_n 3, 1) := by decide +kernel
theorem dX12_askNow_15 : decode cX12_askNow 15 = .ok (.bipush 48, 2) := by decide +kernel
theorem dX12_askNow_17 : decode cX12_askNow 17 = .ok (.if_icmp .ge 16, 3) := by decide +kernel
theorem dX12_askNow_20 : decode cX12_askNow 20 = .ok (.aload_n 0, 1) := by decide +kernel
theorem dX12_askNow_21 : decode cX12_askNow 21 = .ok (.getfield 68, 3) := by decide +kernel
theorem dX12_askNow_24 : decode cX12_askNow 24 = .ok (.iload_n 3, 1) := by decide +kernel
theorem dX12_askNow_25 : decode cX12_askNow 25 = .ok (.iconst 0, 1) := by decide +kernel
theorem dX12_askNow_26 : decode cX12_askNow 26 = .ok (.iastore, 1) := by decide +kernel
theorem dX12_askNow_27 : decode cX12_askNow 27 = .ok (.iinc 3 1, 3) := by decide +kernel
theorem dX12_askNow_30 : decode cX12_askNow 30 = .ok (.goto (-16), 3) := by decide +kernel
theorem dX12_askNow_33 : decode cX12_askNow 33 = .ok (.iconst 0, 1) := by decide +kernel
theorem dX12_askNow_34 : decode cX12_askNow 34 = .ok (.istore_n 3, 1) := by decide +kernel
theorem dX12_askNow_35 : decode cX12_askNow 35 = .ok (.iload_n 3, 1) := by decide +kernel
theorem dX12_askNow_36 : decode cX12_askNow 36 = .ok (.bipush 10, 2) := by decide +kernel
theorem dX12_askNow_38 : decode cX12_askNow 38 = .ok (.if_icmp .ge 69, 3) := by decide +kernel
theorem dX12_askNow_41 : decode cX12_askNow 41 = .ok (.iload_n 1, 1) := by decide +kernel
theorem dX12_askNow_42 : decode cX12_askNow 42 = .ok (.iload_n 3, 1) := by decide +kernel
theorem dX12_askNow_43 : decode cX12_askNow 43 = .ok (.invokestatic 149, 3) := by decide +kernel
theorem dX12_askNow_46 : decode cX12_askNow 46 = .ok (.ifCond .eq 55, 3) := by decide +kernel
theorem dX12_askNow_49 : decode cX12_askNow 49 = .ok (.aload_n 0, 1) := by decide +kernel
theorem dX12_askNow_50 : decode cX12_askNow 50 = .ok (.getfield 34, 3) := by decide +kernel
theorem dX12_askNow_53 : decode cX12_askNow 53 = .ok (.iconst 2, 1) := by decide +kernel
theorem dX12_askNow_54 : decode cX12_askNow 54 = .ok (.iload_n 3, 1) := by decide +kernel
theorem dX12_askNow_55 : decode cX12_askNow 55 = .ok (.iastore, 1) := by decide +kernel
theorem dX12_askNow_56 : decode cX12_askNow 56 = .ok (.aload_n 0, 1) := by decide +kernel
theorem dX12_askNow_57 : decode cX12_askNow 57 = .ok (.invokevirtual 162, 3) := by decide +kernel
theorem dX12_askNow_60 : decode cX12_askNow 60 = .ok (.iconst 0, 1) := by decide +kernel
theorem dX12_askNow_61 : decode cX12_askNow 61 = .ok (.istore 4, 2) := by decide +kernel
theorem dX12_askNow_63 : decode cX12_askNow 63 = .ok (.iload 4, 2) := by decide +kernel
theorem dX12_askNow_65 : decode cX12_askNow 65 = .ok (.aload_n 0, 1) := by decide +kernel
theorem dX12_askNow_66 : decode cX12_askNow 66 = .ok (.getfield 112, 3) := by decide +kernel
theorem dX12_askNow_69 : decode cX12_askNow 69 = .ok (.if_icmp .ge 32, 3) := by decide +kernel
theorem dX12_askNow_72 : decode cX12_askNow 72 = .ok (.aload_n 0, 1) := by decide +kernel
theorem dX12_askNow_73 : decode cX12_askNow 73 = .ok (.getfield 68, 3) := by decide +kernel
theorem dX12_askNow_76 : decode cX12_askNow 76 = .ok (.bipush 6, 2) := by decide +kernel
theorem dX12_askNow_78 : decode cX12_askNow 78 = .ok (.iload 4, 2) := by decide +kernel
theorem dX12_askNow_80 : decode cX12_askNow 80 = .ok (.imul, 1) := by decide +kernel
theorem dX12_askNow_81 : decode cX12_askNow 81 = .ok (.aload_n 0, 1) := by decide +kernel
theorem dX12_askNow_82 : decode cX12_askNow 82 = .ok (.iload 4, 2) := by decide +kernel
theorem dX12_askNow_84 : decode cX12_askNow 84 = .ok (.invokevirtual 201, 3) := by decide +kernel
theorem dX12_askNow_87 : decode cX12_askNow 87 = .ok (.iadd, 1) := by decide +kernel
theorem dX12_askNow_88 : decode cX12_askNow 88 = .ok (.iconst 1, 1) := by decide +kernel
theorem dX12_askNow_89 : decode cX12_askNow 89 = .ok (.iadd, 1) := by decide +kernel
theorem dX12_askNow_90 : decode cX12_askNow 90 = .ok (.dup2, 1) := by decide +kernel
theorem dX12_askNow_91 : decode cX12_askNow 91 = .ok (.iaload, 1) := by decide +kernel
theorem dX12_askNow_92 : decode cX12_askNow 92 = .ok (.iconst 1, 1) := by decide +kernel
theorem dX12_askNow_93 : decode cX12_askNow 93 = .ok (.iadd, 1) := by decide +kernel
theorem dX12_askNow_94 : decode cX12_askNow 94 = .ok (.iastore, 1) := by decide +kernel
theorem dX12_askNow_95 : decode cX12_askNow 95 = .ok (.iinc 4 1, 3) := by decide +kernel
theorem dX12_askNow_98 : decode cX12_askNow 98 = .ok (.goto (-35), 3) := by decide +kernel
theorem dX12_askNow_101 : decode cX12_askNow 101 = .ok (.iinc 3 1, 3) := by decide +kernel
theorem dX12_askNow_104 : decode cX12_askNow 104 = .ok (.goto (-69), 3) := by decide +kernel
theorem dX12_askNow_107 : decode cX12_askNow 107 = .ok (.aload_n 0, 1) := by decide +kernel
theorem dX12_askNow_108 : decode cX12_askNow 108 = .ok (.getfield 34, 3) := by decide +kernel
theorem dX12_askNow_111 : decode cX12_askNow 111 = .ok (.iconst 2, 1) := by decide +kernel
theorem dX12_askNow_112 : decode cX12_askNow 112 = .ok (.iload_n 2, 1) := by decide +kernel
theorem dX12_askNow_113 : decode cX12_askNow 113 = .ok (.iastore, 1) := by decide +kernel
theorem dX12_askNow_114 : decode cX12_askNow 114 = .ok (.aload_n 0, 1) := by decide +kernel
theorem dX12_askNow_115 : decode cX12_askNow 115 = .ok (.invokevirtual 162, 3) := by decide +kernel
theorem dX12_askNow_118 : decode cX12_askNow 118 = .ok (.iconst (-1), 1) := by decide +kernel
theorem dX12_askNow_119 : decode cX12_askNow 119 = .ok (.istore_n 3, 1) := by decide +kernel
theorem dX12_askNow_120 : decode cX12_askNow 120 = .ok (.iconst 0, 1) := by decide +kernel
theorem dX12_askNow_121 : decode cX12_askNow 121 = .ok (.istore 4, 2) := by decide +kernel
theorem dX12_askNow_123 : decode cX12_askNow 123 = .ok (.iconst 0, 1) := by decide +kernel
theorem dX12_askNow_124 : decode cX12_askNow 124 = .ok (.istore 5, 2) := by decide +kernel
theorem dX12_askNow_126 : decode cX12_askNow 126 = .ok (.iload 5, 2) := by decide +kernel
theorem dX12_askNow_128 : decode cX12_askNow 128 = .ok (.aload_n 0, 1) := by decide +kernel
theorem dX12_askNow_129 : decode cX12_askNow 129 = .ok (.getfield 112, 3) := by decide +kernel
theorem dX12_askNow_132 : decode cX12_askNow 132 = .ok (.if_icmp .ge 93, 3) := by decide +kernel
theorem dX12_askNow_135 : decode cX12_askNow 135 = .ok (.iconst 0, 1) := by decide +kernel
theorem dX12_askNow_136 : decode cX12_askNow 136 = .ok (.istore 6, 2) := by decide +kernel
theorem dX12_askNow_138 : decode cX12_askNow 138 = .ok (.iconst 0, 1) := by decide +kernel
theorem dX12_askNow_139 : decode cX12_askNow 139 = .ok (.istore 7, 2) := by decide +kernel
theorem dX12_askNow_141 : decode cX12_askNow 141 = .ok (.iload 7, 2) := by decide +kernel
theorem dX12_askNow_143 : decode cX12_askNow 143 = .ok (.bipush 6, 2) := by decide +kernel
theorem dX12_askNow_145 : decode cX12_askNow 145 = .ok (.if_icmp .ge 29, 3) := by decide +kernel
theorem dX12_askNow_148 : decode cX12_askNow 148 = .ok (.aload_n 0, 1) := by decide +kernel
theorem dX12_askNow_149 : decode cX12_askNow 149 = .ok (.getfield 68, 3) := by decide +kernel
theorem dX12_askNow_152 : decode cX12_askNow 152 = .ok (.bipush 6, 2) := by decide +kernel
theorem dX12_askNow_154 : decode cX12_askNow 154 = .ok (.iload 5, 2) := by decide +kernel
theorem dX12_askNow_156 : decode cX12_askNow 156 = .ok (.imul, 1) := by decide +kernel
theorem dX12_askNow_157 : decode cX12_askNow 157 = .ok (.iload 7, 2) := by decide +kernel
theorem dX12_askNow_159 : decode cX12_askNow 159 = .ok (.iadd, 1) := by decide +kernel
theorem dX12_askNow_160 : decode cX12_askNow 160 = .ok (.iaload, 1) := by decide +kernel
theorem dX12_askNow_161 : decode cX12_askNow 161 = .ok (.iload 6, 2) := by decide +kernel
theorem dX12_askNow_163 : decode cX12_askNow 163 = .ok (.invokestatic 143, 3) := by decide +kernel
theorem dX12_askNow_166 : decode cX12_askNow 166 = .ok (.istore 6, 2) := by decide +kernel
theorem dX12_askNow_168 : decode cX12_askNow 168 = .ok (.iinc 7 1, 3) := by decide +kernel
theorem dX12_askNow_171 : decode cX12_askNow 171 = .ok (.goto (-30), 3) := by decide +kernel
theorem dX12_askNow_174 : decode cX12_askNow 174 = .ok (.iload_n 3, 1) := by decide +kernel
theorem dX12_askNow_175 : decode cX12_askNow 175 = .ok (.iconst (-1), 1) := by decide +kernel
theorem dX12_askNow_176 : decode cX12_askNow 176 = .ok (.if_icmp .eq 10, 3) := by decide +kernel
theorem dX12_askNow_179 : decode cX12_askNow 179 = .ok (.iload 6, 2) := by decide +kernel
theorem dX12_askNow_181 : decode cX12_askNow 181 = .ok (.iload 4, 2) := by decide +kernel
theorem dX12_askNow_183 : decode cX12_askNow 183 = .ok (.if_icmp .ge 7, 3) := by decide +kernel
theorem dX12_askNow_186 : decode cX12_askNow 186 = .ok (.iconst 1, 1) := by decide +kernel
theorem dX12_askNow_187 : decode cX12_askNow 187 = .ok (.goto 4, 3) := by decide +kernel
theorem dX12_askNow_190 : decode cX12_askNow 190 = .ok (.iconst 0, 1) := by decide +kernel
theorem dX12_askNow_191 : decode cX12_askNow 191 = .ok (.istore 7, 2) := by decide +kernel
theorem dX12_askNow_193 : decode cX12_askNow 193 = .ok (.iload 7, 2) := by decide +kernel
theorem dX12_askNow_195 : decode cX12_askNow 195 = .ok (.ifCond .eq 8, 3) := by decide +kernel
theorem dX12_askNow_198 : decode cX12_askNow 198 = .ok (.iload 5, 2) := by decide +kernel
theorem dX12_askNow_200 : decode cX12_askNow 200 = .ok (.goto 4, 3) := by decide +kernel
theorem dX12_askNow_203 : decode cX12_askNow 203 = .ok (.iload_n 3, 1) := by decide +kernel
theorem dX12_askNow_204 : decode cX12_askNow 204 = .ok (.istore_n 3, 1) := by decide +kernel
theorem dX12_askNow_205 : decode cX12_askNow 205 = .ok (.iload 7, 2) := by decide +kernel
theorem dX12_askNow_207 : decode cX12_askNow 207 = .ok (.ifCond .eq 8, 3) := by decide +kernel
theorem dX12_askNow_210 : decode cX12_askNow 210 = .ok (.iload 6, 2) := by decide +kernel
theorem dX12_askNow_212 : decode cX12_askNow 212 = .ok (.goto 5, 3) := by decide +kernel
theorem dX12_askNow_215 : decode cX12_askNow 215 = .ok (.iload 4, 2) := by decide +kernel
theorem dX12_askNow_217 : decode cX12_askNow 217 = .ok (.istore 4, 2) := by decide +kernel
theorem dX12_askNow_219 : decode cX12_askNow 219 = .ok (.iinc 5 1, 3) := by decide +kernel
theorem dX12_askNow_222 : decode cX12_askNow 222 = .ok (.goto (-96), 3) := by decide +kernel
theorem dX12_askNow_225 : decode cX12_askNow 225 = .ok (.iload_n 3, 1) := by decide +kernel
theorem dX12_askNow_226 : decode cX12_askNow 226 = .ok (.ireturn, 1) := by decide +kernel
theorem dX12_ask_0 : decode cX12_ask 0 = .ok (.aload_n 0, 1) := by decide +kernel
theorem dX12_ask_1 : decode cX12_ask 1 = .ok (.invokevirtual 165, 3) := by decide +kernel
theorem dX12_ask_4 : decode cX12_ask 4 = .ok (.aload_n 0, 1) := by decide +kernel
theorem dX12_ask_5 : decode cX12_ask 5 = .ok (.invokevirtual 256, 3) := by decide +kernel
theorem dX12_ask_8 : decode cX12_ask 8 = .ok (.ireturn, 1) := by decide +kernel
theorem dX12_lot_0 : decode cX12_lot 0 = .ok (.aload_n 0, 1) := by decide +kernel
theorem dX12_lot_1 : decode cX12_lot 1 = .ok (.ldc_w 259, 3) := by decide +kernel
theorem dX12_lot_4 : decode cX12_lot 4 = .ok (.aload_n 0, 1) := by decide +kernel
theorem dX12_lot_5 : decode cX12_lot 5 = .ok (.getfield 260, 3) := by decide +kernel
theorem dX12_lot_8 : decode cX12_lot 8 = .ok (.imul, 1) := by decide +kernel
theorem dX12_lot_9 : decode cX12_lot 9 = .ok (.sipush 12345, 3) := by decide +kernel
theorem dX12_lot_12 : decode cX12_lot 12 = .ok (.iadd, 1) := by decide +kernel
theorem dX12_lot_13 : decode cX12_lot 13 = .ok (.putfield 260, 3) := by decide +kernel
theorem dX12_lot_16 : decode cX12_lot 16 = .ok (.aload_n 0, 1) := by decide +kernel
theorem dX12_lot_17 : decode cX12_lot 17 = .ok (.getfield 260, 3) := by decide +kernel
theorem dX12_lot_20 : decode cX12_lot 20 = .ok (.bipush 16, 2) := by decide +kernel
theorem dX12_lot_22 : decode cX12_lot 22 = .ok (.iushr, 1) := by decide +kernel
theorem dX12_lot_23 : decode cX12_lot 23 = .ok (.iload_n 1, 1) := by decide +kernel
theorem dX12_lot_24 : decode cX12_lot 24 = .ok (.irem, 1) := by decide +kernel
theorem dX12_lot_25 : decode cX12_lot 25 = .ok (.ireturn, 1) := by decide +kernel
theorem dX12_gaolsOf_0 : decode cX12_gaolsOf 0 = .ok (.aload_n 0, 1) := by decide +kernel
theorem dX12_gaolsOf_1 : decode cX12_gaolsOf 1 = .ok (.iload_n 1, 1) := by decide +kernel
theorem dX12_gaolsOf_2 : decode cX12_gaolsOf 2 = .ok (.putfield 260, 3) := by decide +kernel
theorem dX12_gaolsOf_5 : decode cX12_gaolsOf 5 = .ok (.iconst 0, 1) := by decide +kernel
theorem dX12_gaolsOf_6 : decode cX12_gaolsOf 6 = .ok (.istore 4, 2) := by decide +kernel
theorem dX12_gaolsOf_8 : decode cX12_gaolsOf 8 = .ok (.iconst 0, 1) := by decide +kernel
theorem dX12_gaolsOf_9 : decode cX12_gaolsOf 9 = .ok (.istore 5, 2) := by decide +kernel
theorem dX12_gaolsOf_11 : decode cX12_gaolsOf 11 = .ok (.iload 5, 2) := by decide +kernel
theorem dX12_gaolsOf_13 : decode cX12_gaolsOf 13 = .ok (.iload_n 2, 1) := by decide +kernel
theorem dX12_gaolsOf_14 : decode cX12_gaolsOf 14 = .ok (.if_icmp .ge 135, 3) := by decide +kernel
theorem dX12_gaolsOf_17 : decode cX12_gaolsOf 17 = .ok (.iconst 1, 1) := by decide +kernel
theorem dX12_gaolsOf_18 : decode cX12_gaolsOf 18 = .ok (.istore 6, 2) := by decide +kernel
theorem dX12_gaolsOf_20 : decode cX12_gaolsOf 20 = .ok (.iconst 0, 1) := by decide +kernel
theorem dX12_gaolsOf_21 : decode cX12_gaolsOf 21 = .ok (.istore 7, 2) := by decide +kernel
theorem dX12_gaolsOf_23 : decode cX12_gaolsOf 23 = .ok (.iload 7, 2) := by decide +kernel
theorem dX12_gaolsOf_25 : decode cX12_gaolsOf 25 = .ok (.aload_n 0, 1) := by decide +kernel
theorem dX12_gaolsOf_26 : decode cX12_gaolsOf 26 = .ok (.getfield 118, 3) := by decide +kernel
theorem dX12_gaolsOf_29 : decode cX12_gaolsOf 29 = .ok (.if_icmp .ge 77, 3) := by decide +kernel
theorem dX12_gaolsOf_32 : decode cX12_gaolsOf 32 = .ok (.iload 6, 2) := by decide +kernel
theorem dX12_gaolsOf_34 : decode cX12_gaolsOf 34 = .ok (.ifCond .eq 72, 3) := by decide +kernel
theorem dX12_gaolsOf_37 : decode cX12_gaolsOf 37 = .ok (.aload_n 0, 1) := by decide +kernel
theorem dX12_gaolsOf_38 : decode cX12_gaolsOf 38 = .ok (.getfield 37, 3) := by decide +kernel
theorem dX12_gaolsOf_41 : decode cX12_gaolsOf 41 = .ok (.iload 7, 2) := by decide +kernel
theorem dX12_gaolsOf_43 : decode cX12_gaolsOf 43 = .ok (.iaload, 1) := by decide +kernel
theorem dX12_gaolsOf_44 : decode cX12_gaolsOf 44 = .ok (.iconst 3, 1) := by decide +kernel
theorem dX12_gaolsOf_45 : decode cX12_gaolsOf 45 = .ok (.if_icmp .ne 19, 3) := by decide +kernel
theorem dX12_gaolsOf_48 : decode cX12_gaolsOf 48 = .ok (.aload_n 0, 1) := by decide +kernel
theorem dX12_gaolsOf_49 : decode cX12_gaolsOf 49 = .ok (.bipush 16, 2) := by decide +kernel
theorem dX12_gaolsOf_51 : decode cX12_gaolsOf 51 = .ok (.invokevirtual 263, 3) := by decide +kernel
theorem dX12_gaolsOf_54 : decode cX12_gaolsOf 54 = .ok (.aload_n 0, 1) := by decide +kernel
theorem dX12_gaolsOf_55 : decode cX12_gaolsOf 55 = .ok (.getfield 40, 3) := by decide +kernel
theorem dX12_gaolsOf_58 : decode cX12_gaolsOf 58 = .ok (.iload 7, 2) := by decide +kernel
theorem dX12_gaolsOf_60 : decode cX12_gaolsOf 60 = .ok (.iaload, 1) := by decide +kernel
theorem dX12_gaolsOf_61 : decode cX12_gaolsOf 61 = .ok (.if_icmp .ge 7, 3) := by decide +kernel
theorem dX12_gaolsOf_64 : decode cX12_gaolsOf 64 = .ok (.iconst 1, 1) := by decide +kernel
theorem dX12_gaolsOf_65 : decode cX12_gaolsOf 65 = .ok (.goto 4, 3) := by decide +kernel
theorem dX12_gaolsOf_68 : decode cX12_gaolsOf 68 = .ok (.iconst 0, 1) := by decide +kernel
theorem dX12_gaolsOf_69 : decode cX12_gaolsOf 69 = .ok (.istore 6, 2) := by decide +kernel
theorem dX12_gaolsOf_71 : decode cX12_gaolsOf 71 = .ok (.iload 4, 2) := by decide +kernel
theorem dX12_gaolsOf_73 : decode cX12_gaolsOf 73 = .ok (.iload_n 3, 1) := by decide +kernel
theorem dX12_gaolsOf_74 : decode cX12_gaolsOf 74 = .ok (.iconst 1, 1) := by decide +kernel
theorem dX12_gaolsOf_75 : decode cX12_gaolsOf 75 = .ok (.if_icmp .ne 21, 3) := by decide +kernel
theorem dX12_gaolsOf_78 : decode cX12_gaolsOf 78 = .ok (.iload 6, 2) := by decide +kernel
theorem dX12_gaolsOf_80 : decode cX12_gaolsOf 80 = .ok (.ifCond .eq 16, 3) := by decide +kernel
theorem dX12_gaolsOf_83 : decode cX12_gaolsOf 83 = .ok (.aload_n 0, 1) := by decide +kernel
theorem dX12_gaolsOf_84 : decode cX12_gaolsOf 84 = .ok (.iload 7, 2) := by decide +kernel
theorem dX12_gaolsOf_86 : decode cX12_gaolsOf 86 = .ok (.invokevirtual 192, 3) := by decide +kernel
theorem dX12_gaolsOf_89 : decode cX12_gaolsOf 89 = .ok (.ifCond .eq 7, 3) := by decide +kernel
end
section
theorem dX12_gaolsOf_92 : decode cX12_gaolsOf 92 = .ok (.iconst 1, 1) := by decide +kernel
theorem dX12_gaolsOf_93 : decode cX12_gaolsOf 93 = .ok (.goto 4, 3) := by decide +kernel
theorem dX12_gaolsOf_96 : decode cX12_gaolsOf 96 = .ok (.iconst 0, 1) := by decide +kernel
theorem dX12_gaolsOf_97 : decode cX12_gaolsOf 97 = .ok (.iadd, 1) := by decide +kernel
theorem dX12_gaolsOf_98 : decode cX12_gaolsOf 98 = .ok (.istore 4, 2) := by decide +kernel
theorem dX12_gaolsOf_100 : decode cX12_gaolsOf 100 = .ok (.iinc 7 1, 3) := by decide +kernel
theorem dX12_gaolsOf_103 : decode cX12_gaolsOf 103 = .ok (.goto (-80), 3) := by decide +kernel
theorem dX12_gaolsOf_106 : decode cX12_gaolsOf 106 = .ok (.iload 4, 2) := by decide +kernel
theorem dX12_gaolsOf_108 : decode cX12_gaolsOf 108 = .ok (.iload_n 3, 1) := by decide +kernel
theorem dX12_gaolsOf_109 : decode cX12_gaolsOf 109 = .ok (.ifCond .ne 30, 3) := by decide +kernel
theorem dX12_gaolsOf_112 : decode cX12_gaolsOf 112 = .ok (.iload 6, 2) := by decide +kernel
theorem dX12_gaolsOf_114 : decode cX12_gaolsOf 114 = .ok (.ifCond .eq 25, 3) := by decide +kernel
theorem dX12_gaolsOf_117 : decode cX12_gaolsOf 117 = .ok (.aload_n 0, 1) := by decide +kernel
theorem dX12_gaolsOf_118 : decode cX12_gaolsOf 118 = .ok (.getfield 46, 3) := by decide +kernel
theorem dX12_gaolsOf_121 : decode cX12_gaolsOf 121 = .ok (.aload_n 0, 1) := by decide +kernel
theorem dX12_gaolsOf_122 : decode cX12_gaolsOf 122 = .ok (.getfield 118, 3) := by decide +kernel
theorem dX12_gaolsOf_125 : decode cX12_gaolsOf 125 = .ok (.iaload, 1) := by decide +kernel
theorem dX12_gaolsOf_126 : decode cX12_gaolsOf 126 = .ok (.aload_n 0, 1) := by decide +kernel
theorem dX12_gaolsOf_127 : decode cX12_gaolsOf 127 = .ok (.getfield 34, 3) := by decide +kernel
theorem dX12_gaolsOf_130 : decode cX12_gaolsOf 130 = .ok (.iconst 1, 1) := by decide +kernel
theorem dX12_gaolsOf_131 : decode cX12_gaolsOf 131 = .ok (.iaload, 1) := by decide +kernel
theorem dX12_gaolsOf_132 : decode cX12_gaolsOf 132 = .ok (.if_icmp .lt 7, 3) := by decide +kernel
theorem dX12_gaolsOf_135 : decode cX12_gaolsOf 135 = .ok (.iconst 1, 1) := by decide +kernel
theorem dX12_gaolsOf_136 : decode cX12_gaolsOf 136 = .ok (.goto 4, 3) := by decide +kernel
theorem dX12_gaolsOf_139 : decode cX12_gaolsOf 139 = .ok (.iconst 0, 1) := by decide +kernel
theorem dX12_gaolsOf_140 : decode cX12_gaolsOf 140 = .ok (.iadd, 1) := by decide +kernel
theorem dX12_gaolsOf_141 : decode cX12_gaolsOf 141 = .ok (.istore 4, 2) := by decide +kernel
theorem dX12_gaolsOf_143 : decode cX12_gaolsOf 143 = .ok (.iinc 5 1, 3) := by decide +kernel
theorem dX12_gaolsOf_146 : decode cX12_gaolsOf 146 = .ok (.goto (-135), 3) := by decide +kernel
theorem dX12_gaolsOf_149 : decode cX12_gaolsOf 149 = .ok (.iload 4, 2) := by decide +kernel
theorem dX12_gaolsOf_151 : decode cX12_gaolsOf 151 = .ok (.ireturn, 1) := by decide +kernel
theorem dX12_gaols_0 : decode cX12_gaols 0 = .ok (.aload_n 0, 1) := by decide +kernel
theorem dX12_gaols_1 : decode cX12_gaols 1 = .ok (.invokevirtual 165, 3) := by decide +kernel
theorem dX12_gaols_4 : decode cX12_gaols 4 = .ok (.iload_n 2, 1) := by decide +kernel
theorem dX12_gaols_5 : decode cX12_gaols 5 = .ok (.i2l, 1) := by decide +kernel
theorem dX12_gaols_6 : decode cX12_gaols 6 = .ok (.lconst 1, 1) := by decide +kernel
theorem dX12_gaols_7 : decode cX12_gaols 7 = .ok (.ldc2_w 266, 3) := by decide +kernel
theorem dX12_gaols_10 : decode cX12_gaols 10 = .ok (.invokestatic 73, 3) := by decide +kernel
theorem dX12_gaols_13 : decode cX12_gaols 13 = .ok (.ifCond .eq 20, 3) := by decide +kernel
theorem dX12_gaols_16 : decode cX12_gaols 16 = .ok (.iload_n 3, 1) := by decide +kernel
theorem dX12_gaols_17 : decode cX12_gaols 17 = .ok (.invokestatic 102, 3) := by decide +kernel
theorem dX12_gaols_20 : decode cX12_gaols 20 = .ok (.ifCond .eq 13, 3) := by decide +kernel
theorem dX12_gaols_23 : decode cX12_gaols 23 = .ok (.aload_n 0, 1) := by decide +kernel
theorem dX12_gaols_24 : decode cX12_gaols 24 = .ok (.iload_n 1, 1) := by decide +kernel
theorem dX12_gaols_25 : decode cX12_gaols 25 = .ok (.iload_n 2, 1) := by decide +kernel
theorem dX12_gaols_26 : decode cX12_gaols 26 = .ok (.iload_n 3, 1) := by decide +kernel
theorem dX12_gaols_27 : decode cX12_gaols 27 = .ok (.invokevirtual 268, 3) := by decide +kernel
theorem dX12_gaols_30 : decode cX12_gaols 30 = .ok (.goto 5, 3) := by decide +kernel
theorem dX12_gaols_33 : decode cX12_gaols 33 = .ok (.bipush (-2), 2) := by decide +kernel
theorem dX12_gaols_35 : decode cX12_gaols 35 = .ok (.ireturn, 1) := by decide +kernel
theorem dX12_write_0 : decode cX12_write 0 = .ok (.iload_n 1, 1) := by decide +kernel
theorem dX12_write_1 : decode cX12_write 1 = .ok (.invokestatic 83, 3) := by decide +kernel
theorem dX12_write_4 : decode cX12_write 4 = .ok (.ifCond .ne 6, 3) := by decide +kernel
theorem dX12_write_7 : decode cX12_write 7 = .ok (.bipush (-2), 2) := by decide +kernel
theorem dX12_write_9 : decode cX12_write 9 = .ok (.ireturn, 1) := by decide +kernel
theorem dX12_write_10 : decode cX12_write 10 = .ok (.aload_n 0, 1) := by decide +kernel
theorem dX12_write_11 : decode cX12_write 11 = .ok (.getfield 7, 3) := by decide +kernel
theorem dX12_write_14 : decode cX12_write 14 = .ok (.iload_n 1, 1) := by decide +kernel
theorem dX12_write_15 : decode cX12_write 15 = .ok (.iaload, 1) := by decide +kernel
theorem dX12_write_16 : decode cX12_write 16 = .ok (.ifCond .ge 9, 3) := by decide +kernel
theorem dX12_write_19 : decode cX12_write 19 = .ok (.aload_n 0, 1) := by decide +kernel
theorem dX12_write_20 : decode cX12_write 20 = .ok (.iconst 1, 1) := by decide +kernel
theorem dX12_write_21 : decode cX12_write 21 = .ok (.invokevirtual 89, 3) := by decide +kernel
theorem dX12_write_24 : decode cX12_write 24 = .ok (.ireturn, 1) := by decide +kernel
theorem dX12_write_25 : decode cX12_write 25 = .ok (.aload_n 0, 1) := by decide +kernel
theorem dX12_write_26 : decode cX12_write 26 = .ok (.invokevirtual 165, 3) := by decide +kernel
theorem dX12_write_29 : decode cX12_write 29 = .ok (.aload_n 0, 1) := by decide +kernel
theorem dX12_write_30 : decode cX12_write 30 = .ok (.getfield 13, 3) := by decide +kernel
theorem dX12_write_33 : decode cX12_write 33 = .ok (.iload_n 1, 1) := by decide +kernel
theorem dX12_write_34 : decode cX12_write 34 = .ok (.iaload, 1) := by decide +kernel
theorem dX12_write_35 : decode cX12_write 35 = .ok (.aload_n 0, 1) := by decide +kernel
theorem dX12_write_36 : decode cX12_write 36 = .ok (.getfield 118, 3) := by decide +kernel
theorem dX12_write_39 : decode cX12_write 39 = .ok (.invokestatic 146, 3) := by decide +kernel
theorem dX12_write_42 : decode cX12_write 42 = .ok (.istore_n 2, 1) := by decide +kernel
theorem dX12_write_43 : decode cX12_write 43 = .ok (.iconst 0, 1) := by decide +kernel
theorem dX12_write_44 : decode cX12_write 44 = .ok (.istore_n 3, 1) := by decide +kernel
theorem dX12_write_45 : decode cX12_write 45 = .ok (.iload_n 3, 1) := by decide +kernel
theorem dX12_write_46 : decode cX12_write 46 = .ok (.iload_n 2, 1) := by decide +kernel
theorem dX12_write_47 : decode cX12_write 47 = .ok (.if_icmp .ge 35, 3) := by decide +kernel
theorem dX12_write_50 : decode cX12_write 50 = .ok (.aload_n 0, 1) := by decide +kernel
theorem dX12_write_51 : decode cX12_write 51 = .ok (.getfield 16, 3) := by decide +kernel
theorem dX12_write_54 : decode cX12_write 54 = .ok (.bipush 60, 2) := by decide +kernel
theorem dX12_write_56 : decode cX12_write 56 = .ok (.iload_n 1, 1) := by decide +kernel
theorem dX12_write_57 : decode cX12_write 57 = .ok (.imul, 1) := by decide +kernel
theorem dX12_write_58 : decode cX12_write 58 = .ok (.iload_n 3, 1) := by decide +kernel
theorem dX12_write_59 : decode cX12_write 59 = .ok (.iadd, 1) := by decide +kernel
theorem dX12_write_60 : decode cX12_write 60 = .ok (.aload_n 0, 1) := by decide +kernel
theorem dX12_write_61 : decode cX12_write 61 = .ok (.getfield 7, 3) := by decide +kernel
theorem dX12_write_64 : decode cX12_write 64 = .ok (.iload_n 1, 1) := by decide +kernel
theorem dX12_write_65 : decode cX12_write 65 = .ok (.iaload, 1) := by decide +kernel
theorem dX12_write_66 : decode cX12_write 66 = .ok (.aload_n 0, 1) := by decide +kernel
theorem dX12_write_67 : decode cX12_write 67 = .ok (.getfield 37, 3) := by decide +kernel
theorem dX12_write_70 : decode cX12_write 70 = .ok (.iload_n 3, 1) := by decide +kernel
theorem dX12_write_71 : decode cX12_write 71 = .ok (.iaload, 1) := by decide +kernel
theorem dX12_write_72 : decode cX12_write 72 = .ok (.invokestatic 97, 3) := by decide +kernel
theorem dX12_write_75 : decode cX12_write 75 = .ok (.iastore, 1) := by decide +kernel
theorem dX12_write_76 : decode cX12_write 76 = .ok (.iinc 3 1, 3) := by decide +kernel
theorem dX12_write_79 : decode cX12_write 79 = .ok (.goto (-34), 3) := by decide +kernel
theorem dX12_write_82 : decode cX12_write 82 = .ok (.iload_n 2, 1) := by decide +kernel
theorem dX12_write_83 : decode cX12_write 83 = .ok (.ireturn, 1) := by decide +kernel
theorem dX12_fights_0 : decode cX12_fights 0 = .ok (.iconst 0, 1) := by decide +kernel
theorem dX12_fights_1 : decode cX12_fights 1 = .ok (.istore_n 1, 1) := by decide +kernel
theorem dX12_fights_2 : decode cX12_fights 2 = .ok (.iconst 0, 1) := by decide +kernel
theorem dX12_fights_3 : decode cX12_fights 3 = .ok (.istore_n 2, 1) := by decide +kernel
theorem dX12_fights_4 : decode cX12_fights 4 = .ok (.iload_n 2, 1) := by decide +kernel
theorem dX12_fights_5 : decode cX12_fights 5 = .ok (.aload_n 0, 1) := by decide +kernel
theorem dX12_fights_6 : decode cX12_fights 6 = .ok (.getfield 118, 3) := by decide +kernel
theorem dX12_fights_9 : decode cX12_fights 9 = .ok (.if_icmp .ge 27, 3) := by decide +kernel
theorem dX12_fights_12 : decode cX12_fights 12 = .ok (.iload_n 1, 1) := by decide +kernel
theorem dX12_fights_13 : decode cX12_fights 13 = .ok (.aload_n 0, 1) := by decide +kernel
theorem dX12_fights_14 : decode cX12_fights 14 = .ok (.getfield 37, 3) := by decide +kernel
theorem dX12_fights_17 : decode cX12_fights 17 = .ok (.iload_n 2, 1) := by decide +kernel
theorem dX12_fights_18 : decode cX12_fights 18 = .ok (.iaload, 1) := by decide +kernel
theorem dX12_fights_19 : decode cX12_fights 19 = .ok (.iconst 3, 1) := by decide +kernel
theorem dX12_fights_20 : decode cX12_fights 20 = .ok (.if_icmp .ne 7, 3) := by decide +kernel
theorem dX12_fights_23 : decode cX12_fights 23 = .ok (.iconst 1, 1) := by decide +kernel
theorem dX12_fights_24 : decode cX12_fights 24 = .ok (.goto 4, 3) := by decide +kernel
theorem dX12_fights_27 : decode cX12_fights 27 = .ok (.iconst 0, 1) := by decide +kernel
theorem dX12_fights_28 : decode cX12_fights 28 = .ok (.iadd, 1) := by decide +kernel
theorem dX12_fights_29 : decode cX12_fights 29 = .ok (.istore_n 1, 1) := by decide +kernel
theorem dX12_fights_30 : decode cX12_fights 30 = .ok (.iinc 2 1, 3) := by decide +kernel
theorem dX12_fights_33 : decode cX12_fights 33 = .ok (.goto (-29), 3) := by decide +kernel
theorem dX12_fights_36 : decode cX12_fights 36 = .ok (.iload_n 1, 1) := by decide +kernel
theorem dX12_fights_37 : decode cX12_fights 37 = .ok (.ireturn, 1) := by decide +kernel
theorem dX12_named_0 : decode cX12_named 0 = .ok (.iconst 0, 1) := by decide +kernel
theorem dX12_named_1 : decode cX12_named 1 = .ok (.istore_n 1, 1) := by decide +kernel
theorem dX12_named_2 : decode cX12_named 2 = .ok (.iconst 0, 1) := by decide +kernel
theorem dX12_named_3 : decode cX12_named 3 = .ok (.istore_n 2, 1) := by decide +kernel
theorem dX12_named_4 : decode cX12_named 4 = .ok (.iload_n 2, 1) := by decide +kernel
theorem dX12_named_5 : decode cX12_named 5 = .ok (.aload_n 0, 1) := by decide +kernel
theorem dX12_named_6 : decode cX12_named 6 = .ok (.getfield 112, 3) := by decide +kernel
theorem dX12_named_9 : decode cX12_named 9 = .ok (.if_icmp .ge 25, 3) := by decide +kernel
theorem dX12_named_12 : decode cX12_named 12 = .ok (.iload_n 1, 1) := by decide +kernel
theorem dX12_named_13 : decode cX12_named 13 = .ok (.aload_n 0, 1) := by decide +kernel
theorem dX12_named_14 : decode cX12_named 14 = .ok (.iload_n 2, 1) := by decide +kernel
theorem dX12_named_15 : decode cX12_named 15 = .ok (.invokevirtual 201, 3) := by decide +kernel
theorem dX12_named_18 : decode cX12_named 18 = .ok (.ifCond .le 7, 3) := by decide +kernel
theorem dX12_named_21 : decode cX12_named 21 = .ok (.iconst 1, 1) := by decide +kernel
theorem dX12_named_22 : decode cX12_named 22 = .ok (.goto 4, 3) := by decide +kernel
theorem dX12_named_25 : decode cX12_named 25 = .ok (.iconst 0, 1) := by decide +kernel
theorem dX12_named_26 : decode cX12_named 26 = .ok (.iadd, 1) := by decide +kernel
theorem dX12_named_27 : decode cX12_named 27 = .ok (.istore_n 1, 1) := by decide +kernel
theorem dX12_named_28 : decode cX12_named 28 = .ok (.iinc 2 1, 3) := by decide +kernel
theorem dX12_named_31 : decode cX12_named 31 = .ok (.goto (-27), 3) := by decide +kernel
theorem dX12_named_34 : decode cX12_named 34 = .ok (.iload_n 1, 1) := by decide +kernel
theorem dX12_named_35 : decode cX12_named 35 = .ok (.ireturn, 1) := by decide +kernel
theorem dX12_count_0 : decode cX12_count 0 = .ok (.aload_n 0, 1) := by decide +kernel
theorem dX12_count_1 : decode cX12_count 1 = .ok (.invokevirtual 165, 3) := by decide +kernel
theorem dX12_count_4 : decode cX12_count 4 = .ok (.iload_n 1, 1) := by decide +kernel
theorem dX12_count_5 : decode cX12_count 5 = .ok (.tableswitch 100 0 8 #[51, 56, 61, 61, 70, 75, 85, 90, 95], 51) := by decide +kernel
theorem dX12_count_56 : decode cX12_count 56 = .ok (.aload_n 0, 1) := by decide +kernel
theorem dX12_count_57 : decode cX12_count 57 = .ok (.getfield 112, 3) := by decide +kernel
theorem dX12_count_60 : decode cX12_count 60 = .ok (.ireturn, 1) := by decide +kernel
theorem dX12_count_61 : decode cX12_count 61 = .ok (.aload_n 0, 1) := by decide +kernel
theorem dX12_count_62 : decode cX12_count 62 = .ok (.getfield 118, 3) := by decide +kernel
theorem dX12_count_65 : decode cX12_count 65 = .ok (.ireturn, 1) := by decide +kernel
theorem dX12_count_66 : decode cX12_count 66 = .ok (.aload_n 0, 1) := by decide +kernel
theorem dX12_count_67 : decode cX12_count 67 = .ok (.getfield 25, 3) := by decide +kernel
theorem dX12_count_70 : decode cX12_count 70 = .ok (.iload_n 1, 1) := by decide +kernel
theorem dX12_count_71 : decode cX12_count 71 = .ok (.iconst 2, 1) := by decide +kernel
theorem dX12_count_72 : decode cX12_count 72 = .ok (.isub, 1) := by decide +kernel
theorem dX12_count_73 : decode cX12_count 73 = .ok (.iaload, 1) := by decide +kernel
theorem dX12_count_74 : decode cX12_count 74 = .ok (.ireturn, 1) := by decide +kernel
theorem dX12_count_75 : decode cX12_count 75 = .ok (.aload_n 0, 1) := by decide +kernel
theorem dX12_count_76 : decode cX12_count 76 = .ok (.invokevirtual 271, 3) := by decide +kernel
theorem dX12_count_79 : decode cX12_count 79 = .ok (.ireturn, 1) := by decide +kernel
theorem dX12_count_80 : decode cX12_count 80 = .ok (.aload_n 0, 1) := by decide +kernel
theorem dX12_count_81 : decode cX12_count 81 = .ok (.getfield 46, 3) := by decide +kernel
theorem dX12_count_84 : decode cX12_count 84 = .ok (.aload_n 0, 1) := by decide +kernel
theorem dX12_count_85 : decode cX12_count 85 = .ok (.getfield 118, 3) := by decide +kernel
theorem dX12_count_88 : decode cX12_count 88 = .ok (.iaload, 1) := by decide +kernel
theorem dX12_count_89 : decode cX12_count 89 = .ok (.ireturn, 1) := by decide +kernel
theorem dX12_count_90 : decode cX12_count 90 = .ok (.aload_n 0, 1) := by decide +kernel
theorem dX12_count_91 : decode cX12_count 91 = .ok (.invokevirtual 274, 3) := by decide +kernel
theorem dX12_count_94 : decode cX12_count 94 = .ok (.ireturn, 1) := by decide +kernel
theorem dX12_count_95 : decode cX12_count 95 = .ok (.aload_n 0, 1) := by decide +kernel
theorem dX12_count_96 : decode cX12_count 96 = .ok (.getfield 240, 3) := by decide +kernel
theorem dX12_count_99 : decode cX12_count 99 = .ok (.ireturn, 1) := by decide +kernel
theorem dX12_count_100 : decode cX12_count 100 = .ok (.aload_n 0, 1) := by decide +kernel
theorem dX12_count_101 : decode cX12_count 101 = .ok (.getfield 77, 3) := by decide +kernel
theorem dX12_count_104 : decode cX12_count 104 = .ok (.ireturn, 1) := by decide +kernel
theorem dX12_count_105 : decode cX12_count 105 = .ok (.bipush (-2), 2) := by decide +kernel
theorem dX12_count_107 : decode cX12_count 107 = .ok (.ireturn, 1) := by decide +kernel
theorem dX12_tellsBoth_0 : decode cX12_tellsBoth 0 = .ok (.ldc2_w 277, 3) := by decide +kernel
theorem dX12_tellsBoth_3 : decode cX12_tellsBoth 3 = .ok (.ldc2_w 277, 3) := by decide +kernel
theorem dX12_tellsBoth_6 : decode cX12_tellsBoth 6 = .ok (.lload_n 0, 1) := by decide +kernel
theorem dX12_tellsBoth_7 : decode cX12_tellsBoth 7 = .ok (.lmul, 1) := by decide +kernel
theorem dX12_tellsBoth_8 : decode cX12_tellsBoth 8 = .ok (.lload_n 2, 1) := by decide +kernel
theorem dX12_tellsBoth_9 : decode cX12_tellsBoth 9 = .ok (.iconst 0, 1) := by decide +kernel
theorem dX12_tellsBoth_10 : decode cX12_tellsBoth 10 = .ok (.invokestatic 181, 3) := by decide +kernel
theorem dX12_tellsBoth_13 : decode cX12_tellsBoth 13 = .ok (.ladd, 1) := by decide +kernel
theorem dX12_tellsBoth_14 : decode cX12_tellsBoth 14 = .ok (.lmul, 1) := by decide +kernel
theorem dX12_tellsBoth_15 : decode cX12_tellsBoth 15 = .ok (.lload_n 2, 1) := by decide +kernel
theorem dX12_tellsBoth_16 : decode cX12_tellsBoth 16 = .ok (.iconst 1, 1) := by decide +kernel
theorem dX12_tellsBoth_17 : decode cX12_tellsBoth 17 = .ok (.invokestatic 181, 3) := by decide +kernel
theorem dX12_tellsBoth_20 : decode cX12_tellsBoth 20 = .ok (.ladd, 1) := by decide +kernel
theorem dX12_tellsBoth_21 : decode cX12_tellsBoth 21 = .ok (.lreturn, 1) := by decide +kernel
theorem dX12_digest_0 : decode cX12_digest 0 = .ok (.ldc2_w 279, 3) := by decide +kernel
theorem dX12_digest_3 : decode cX12_digest 3 = .ok (.lstore_n 1, 1) := by decide +kernel
theorem dX12_digest_4 : decode cX12_digest 4 = .ok (.iconst 0, 1) := by decide +kernel
theorem dX12_digest_5 : decode cX12_digest 5 = .ok (.istore_n 3, 1) := by decide +kernel
theorem dX12_digest_6 : decode cX12_digest 6 = .ok (.iload_n 3, 1) := by decide +kernel
theorem dX12_digest_7 : decode cX12_digest 7 = .ok (.bipush 8, 2) := by decide +kernel
theorem dX12_digest_9 : decode cX12_digest 9 = .ok (.if_icmp .ge 22, 3) := by decide +kernel
theorem dX12_digest_12 : decode cX12_digest 12 = .ok (.ldc2_w 277, 3) := by decide +kernel
theorem dX12_digest_15 : decode cX12_digest 15 = .ok (.lload_n 1, 1) := by decide +kernel
theorem dX12_digest_16 : decode cX12_digest 16 = .ok (.lmul, 1) := by decide +kernel
theorem dX12_digest_17 : decode cX12_digest 17 = .ok (.aload_n 0, 1) := by decide +kernel
theorem dX12_digest_18 : decode cX12_digest 18 = .ok (.iload_n 3, 1) := by decide +kernel
theorem dX12_digest_19 : decode cX12_digest 19 = .ok (.invokevirtual 281, 3) := by decide +kernel
theorem dX12_digest_22 : decode cX12_digest 22 = .ok (.i2l, 1) := by decide +kernel
theorem dX12_digest_23 : decode cX12_digest 23 = .ok (.ladd, 1) := by decide +kernel
theorem dX12_digest_24 : decode cX12_digest 24 = .ok (.lstore_n 1, 1) := by decide +kernel
theorem dX12_digest_25 : decode cX12_digest 25 = .ok (.iinc 3 1, 3) := by decide +kernel
theorem dX12_digest_28 : decode cX12_digest 28 = .ok (.goto (-22), 3) := by decide +kernel
theorem dX12_digest_31 : decode cX12_digest 31 = .ok (.ldc2_w 277, 3) := by decide +kernel
theorem dX12_digest_34 : decode cX12_digest 34 = .ok (.lload_n 1, 1) := by decide +kernel
theorem dX12_digest_35 : decode cX12_digest 35 = .ok (.lmul, 1) := by decide +kernel
theorem dX12_digest_36 : decode cX12_digest 36 = .ok (.aload_n 0, 1) := by decide +kernel
theorem dX12_digest_37 : decode cX12_digest 37 = .ok (.invokevirtual 125, 3) := by decide +kernel
theorem dX12_digest_40 : decode cX12_digest 40 = .ok (.i2l, 1) := by decide +kernel
theorem dX12_digest_41 : decode cX12_digest 41 = .ok (.ladd, 1) := by decide +kernel
theorem dX12_digest_42 : decode cX12_digest 42 = .ok (.lstore_n 1, 1) := by decide +kernel
theorem dX12_digest_43 : decode cX12_digest 43 = .ok (.ldc2_w 277, 3) := by decide +kernel
theorem dX12_digest_46 : decode cX12_digest 46 = .ok (.lload_n 1, 1) := by decide +kernel
theorem dX12_digest_47 : decode cX12_digest 47 = .ok (.lmul, 1) := by decide +kernel
theorem dX12_digest_48 : decode cX12_digest 48 = .ok (.aload_n 0, 1) := by decide +kernel
theorem dX12_digest_49 : decode cX12_digest 49 = .ok (.invokevirtual 129, 3) := by decide +kernel
theorem dX12_digest_52 : decode cX12_digest 52 = .ok (.i2l, 1) := by decide +kernel
theorem dX12_digest_53 : decode cX12_digest 53 = .ok (.ladd, 1) := by decide +kernel
theorem dX12_digest_54 : decode cX12_digest 54 = .ok (.lstore_n 1, 1) := by decide +kernel
theorem dX12_digest_55 : decode cX12_digest 55 = .ok (.aload_n 0, 1) := by decide +kernel
theorem dX12_digest_56 : decode cX12_digest 56 = .ok (.invokevirtual 165, 3) := by decide +kernel
theorem dX12_digest_59 : decode cX12_digest 59 = .ok (.iconst 0, 1) := by decide +kernel
theorem dX12_digest_60 : decode cX12_digest 60 = .ok (.istore_n 3, 1) := by decide +kernel
theorem dX12_digest_61 : decode cX12_digest 61 = .ok (.iload_n 3, 1) := by decide +kernel
theorem dX12_digest_62 : decode cX12_digest 62 = .ok (.aload_n 0, 1) := by decide +kernel
theorem dX12_digest_63 : decode cX12_digest 63 = .ok (.getfield 112, 3) := by decide +kernel
theorem dX12_digest_66 : decode cX12_digest 66 = .ok (.if_icmp .ge 82, 3) := by decide +kernel
theorem dX12_digest_69 : decode cX12_digest 69 = .ok (.iconst 0, 1) := by decide +kernel
theorem dX12_digest_70 : decode cX12_digest 70 = .ok (.istore 4, 2) := by decide +kernel
theorem dX12_digest_72 : decode cX12_digest 72 = .ok (.iload 4, 2) := by decide +kernel
theorem dX12_digest_74 : decode cX12_digest 74 = .ok (.iconst 5, 1) := by decide +kernel
theorem dX12_digest_75 : decode cX12_digest 75 = .ok (.if_icmp .ge 28, 3) := by decide +kernel
theorem dX12_digest_78 : decode cX12_digest 78 = .ok (.ldc2_w 277, 3) := by decide +kernel
theorem dX12_digest_81 : decode cX12_digest 81 = .ok (.lload_n 1, 1) := by decide +kernel
theorem dX12_digest_82 : decode cX12_digest 82 = .ok (.lmul, 1) := by decide +kernel
theorem dX12_digest_83 : decode cX12_digest 83 = .ok (.aload_n 0, 1) := by decide +kernel
theorem dX12_digest_84 : decode cX12_digest 84 = .ok (.getfield 28, 3) := by decide +kernel
theorem dX12_digest_87 : decode cX12_digest 87 = .ok (.iconst 5, 1) := by decide +kernel
theorem dX12_digest_88 : decode cX12_digest 88 = .ok (.iload_n 3, 1) := by decide +kernel
theorem dX12_digest_89 : decode cX12_digest 89 = .ok (.imul, 1) := by decide +kernel
theorem dX12_digest_90 : decode cX12_digest 90 = .ok (.iload 4, 2) := by decide +kernel
theorem dX12_digest_92 : decode cX12_digest 92 = .ok (.iadd, 1) := by decide +kernel
theorem dX12_digest_93 : decode cX12_digest 93 = .ok (.iaload, 1) := by decide +kernel
theorem dX12_digest_94 : decode cX12_digest 94 = .ok (.i2l, 1) := by decide +kernel
theorem dX12_digest_95 : decode cX12_digest 95 = .ok (.ladd, 1) := by decide +kernel
theorem dX12_digest_96 : decode cX12_digest 96 = .ok (.lstore_n 1, 1) := by decide +kernel
theorem dX12_digest_97 : decode cX12_digest 97 = .ok (.iinc 4 1, 3) := by decide +kernel
theorem dX12_digest_100 : decode cX12_digest 100 = .ok (.goto (-28), 3) := by decide +kernel
theorem dX12_digest_103 : decode cX12_digest 103 = .ok (.ldc2_w 277, 3) := by decide +kernel
theorem dX12_digest_106 : decode cX12_digest 106 = .ok (.lload_n 1, 1) := by decide +kernel
theorem dX12_digest_107 : decode cX12_digest 107 = .ok (.lmul, 1) := by decide +kernel
theorem dX12_digest_108 : decode cX12_digest 108 = .ok (.aload_n 0, 1) := by decide +kernel
theorem dX12_digest_109 : decode cX12_digest 109 = .ok (.iload_n 3, 1) := by decide +kernel
theorem dX12_digest_110 : decode cX12_digest 110 = .ok (.invokevirtual 201, 3) := by decide +kernel
theorem dX12_digest_113 : decode cX12_digest 113 = .ok (.i2l, 1) := by decide +kernel
theorem dX12_digest_114 : decode cX12_digest 114 = .ok (.ladd, 1) := by decide +kernel
theorem dX12_digest_115 : decode cX12_digest 115 = .ok (.lstore_n 1, 1) := by decide +kernel
theorem dX12_digest_116 : decode cX12_digest 116 = .ok (.ldc2_w 277, 3) := by decide +kernel
theorem dX12_digest_119 : decode cX12_digest 119 = .ok (.lload_n 1, 1) := by decide +kernel
theorem dX12_digest_120 : decode cX12_digest 120 = .ok (.lmul, 1) := by decide +kernel
theorem dX12_digest_121 : decode cX12_digest 121 = .ok (.aload_n 0, 1) := by decide +kernel
theorem dX12_digest_122 : decode cX12_digest 122 = .ok (.iload_n 3, 1) := by decide +kernel
theorem dX12_digest_123 : decode cX12_digest 123 = .ok (.invokevirtual 237, 3) := by decide +kernel
theorem dX12_digest_126 : decode cX12_digest 126 = .ok (.i2l, 1) := by decide +kernel
theorem dX12_digest_127 : decode cX12_digest 127 = .ok (.ladd, 1) := by decide +kernel
theorem dX12_digest_128 : decode cX12_digest 128 = .ok (.lstore_n 1, 1) := by decide +kernel
theorem dX12_digest_129 : decode cX12_digest 129 = .ok (.ldc2_w 277, 3) := by decide +kernel
theorem dX12_digest_132 : decode cX12_digest 132 = .ok (.lload_n 1, 1) := by decide +kernel
theorem dX12_digest_133 : decode cX12_digest 133 = .ok (.lmul, 1) := by decide +kernel
theorem dX12_digest_134 : decode cX12_digest 134 = .ok (.aload_n 0, 1) := by decide +kernel
theorem dX12_digest_135 : decode cX12_digest 135 = .ok (.iload_n 3, 1) := by decide +kernel
theorem dX12_digest_136 : decode cX12_digest 136 = .ok (.invokevirtual 253, 3) := by decide +kernel
theorem dX12_digest_139 : decode cX12_digest 139 = .ok (.i2l, 1) := by decide +kernel
theorem dX12_digest_140 : decode cX12_digest 140 = .ok (.ladd, 1) := by decide +kernel
theorem dX12_digest_141 : decode cX12_digest 141 = .ok (.lstore_n 1, 1) := by decide +kernel
theorem dX12_digest_142 : decode cX12_digest 142 = .ok (.iinc 3 1, 3) := by decide +kernel
theorem dX12_digest_145 : decode cX12_digest 145 = .ok (.goto (-84), 3) := by decide +kernel
theorem dX12_digest_148 : decode cX12_digest 148 = .ok (.iconst 0, 1) := by decide +kernel
theorem dX12_digest_149 : decode cX12_digest 149 = .ok (.istore_n 3, 1) := by decide +kernel
theorem dX12_digest_150 : decode cX12_digest 150 = .ok (.iload_n 3, 1) := by decide +kernel
theorem dX12_digest_151 : decode cX12_digest 151 = .ok (.aload_n 0, 1) := by decide +kernel
theorem dX12_digest_152 : decode cX12_digest 152 = .ok (.getfield 118, 3) := by decide +kernel
theorem dX12_digest_155 : decode cX12_digest 155 = .ok (.if_icmp .ge 51, 3) := by decide +kernel
theorem dX12_digest_158 : decode cX12_digest 158 = .ok (.ldc2_w 277, 3) := by decide +kernel
theorem dX12_digest_161 : decode cX12_digest 161 = .ok (.lload_n 1, 1) := by decide +kernel
theorem dX12_digest_162 : decode cX12_digest 162 = .ok (.lmul, 1) := by decide +kernel
theorem dX12_digest_163 : decode cX12_digest 163 = .ok (.aload_n 0, 1) := by decide +kernel
theorem dX12_digest_164 : decode cX12_digest 164 = .ok (.getfield 31, 3) := by decide +kernel
theorem dX12_digest_167 : decode cX12_digest 167 = .ok (.iload_n 3, 1) := by decide +kernel
theorem dX12_digest_168 : decode cX12_digest 168 = .ok (.iaload, 1) := by decide +kernel
theorem dX12_digest_169 : decode cX12_digest 169 = .ok (.i2l, 1) := by decide +kernel
theorem dX12_digest_170 : decode cX12_digest 170 = .ok (.ladd, 1) := by decide +kernel
theorem dX12_digest_171 : decode cX12_digest 171 = .ok (.lstore_n 1, 1) := by decide +kernel
theorem dX12_digest_172 : decode cX12_digest 172 = .ok (.ldc2_w 277, 3) := by decide +kernel
theorem dX12_digest_175 : decode cX12_digest 175 = .ok (.lload_n 1, 1) := by decide +kernel
theorem dX12_digest_176 : decode cX12_digest 176 = .ok (.lmul, 1) := by decide +kernel
theorem dX12_digest_177 : decode cX12_digest 177 = .ok (.aload_n 0, 1) := by decide +kernel
theorem dX12_digest_178 : decode cX12_digest 178 = .ok (.getfield 37, 3) := by decide +kernel
theorem dX12_digest_181 : decode cX12_digest 181 = .ok (.iload_n 3, 1) := by decide +kernel
theorem dX12_digest_182 : decode cX12_digest 182 = .ok (.iaload, 1) := by decide +kernel
theorem dX12_digest_183 : decode cX12_digest 183 = .ok (.i2l, 1) := by decide +kernel
theorem dX12_digest_184 : decode cX12_digest 184 = .ok (.ladd, 1) := by decide +kernel
theorem dX12_digest_185 : decode cX12_digest 185 = .ok (.lstore_n 1, 1) := by decide +kernel
theorem dX12_digest_186 : decode cX12_digest 186 = .ok (.ldc2_w 277, 3) := by decide +kernel
theorem dX12_digest_189 : decode cX12_digest 189 = .ok (.lload_n 1, 1) := by decide +kernel
theorem dX12_digest_190 : decode cX12_digest 190 = .ok (.lmul, 1) := by decide +kernel
theorem dX12_digest_191 : decode cX12_digest 191 = .ok (.aload_n 0, 1) := by decide +kernel
theorem dX12_digest_192 : decode cX12_digest 192 = .ok (.getfield 40, 3) := by decide +kernel
theorem dX12_digest_195 : decode cX12_digest 195 = .ok (.iload_n 3, 1) := by decide +kernel
theorem dX12_digest_196 : decode cX12_digest 196 = .ok (.iaload, 1) := by decide +kernel
theorem dX12_digest_197 : decode cX12_digest 197 = .ok (.i2l, 1) := by decide +kernel
theorem dX12_digest_198 : decode cX12_digest 198 = .ok (.ladd, 1) := by decide +kernel
theorem dX12_digest_199 : decode cX12_digest 199 = .ok (.lstore_n 1, 1) := by decide +kernel
theorem dX12_digest_200 : decode cX12_digest 200 = .ok (.iinc 3 1, 3) := by decide +kernel
theorem dX12_digest_203 : decode cX12_digest 203 = .ok (.goto (-53), 3) := by decide +kernel
theorem dX12_digest_206 : decode cX12_digest 206 = .ok (.iconst 0, 1) := by decide +kernel
theorem dX12_digest_207 : decode cX12_digest 207 = .ok (.istore_n 3, 1) := by decide +kernel
theorem dX12_digest_208 : decode cX12_digest 208 = .ok (.iload_n 3, 1) := by decide +kernel
theorem dX12_digest_209 : decode cX12_digest 209 = .ok (.aload_n 0, 1) := by decide +kernel
theorem dX12_digest_210 : decode cX12_digest 210 = .ok (.getfield 118, 3) := by decide +kernel
theorem dX12_digest_213 : decode cX12_digest 213 = .ok (.if_icmp .gt 47, 3) := by decide +kernel
theorem dX12_digest_216 : decode cX12_digest 216 = .ok (.ldc2_w 277, 3) := by decide +kernel
theorem dX12_digest_219 : decode cX12_digest 219 = .ok (.lload_n 1, 1) := by decide +kernel
theorem dX12_digest_220 : decode cX12_digest 220 = .ok (.lmul, 1) := by decide +kernel
theorem dX12_digest_221 : decode cX12_digest 221 = .ok (.aload_n 0, 1) := by decide +kernel
theorem dX12_digest_222 : decode cX12_digest 222 = .ok (.iload_n 3, 1) := by decide +kernel
theorem dX12_digest_223 : decode cX12_digest 223 = .ok (.iconst 0, 1) := by decide +kernel
theorem dX12_digest_224 : decode cX12_digest 224 = .ok (.invokevirtual 168, 3) := by decide +kernel
theorem dX12_digest_227 : decode cX12_digest 227 = .ok (.i2l, 1) := by decide +kernel
theorem dX12_digest_228 : decode cX12_digest 228 = .ok (.ladd, 1) := by decide +kernel
theorem dX12_digest_229 : decode cX12_digest 229 = .ok (.lstore_n 1, 1) := by decide +kernel
theorem dX12_digest_230 : decode cX12_digest 230 = .ok (.ldc2_w 277, 3) := by decide +kernel
theorem dX12_digest_233 : decode cX12_digest 233 = .ok (.lload_n 1, 1) := by decide +kernel
theorem dX12_digest_234 : decode cX12_digest 234 = .ok (.lmul, 1) := by decide +kernel
theorem dX12_digest_235 : decode cX12_digest 235 = .ok (.aload_n 0, 1) := by decide +kernel
theorem dX12_digest_236 : decode cX12_digest 236 = .ok (.iload_n 3, 1) := by decide +kernel
theorem dX12_digest_237 : decode cX12_digest 237 = .ok (.iconst 1, 1) := by decide +kernel
theorem dX12_digest_238 : decode cX12_digest 238 = .ok (.invokevirtual 168, 3) := by decide +kernel
theorem dX12_digest_241 : decode cX12_digest 241 = .ok (.i2l, 1) := by decide +kernel
theorem dX12_digest_242 : decode cX12_digest 242 = .ok (.ladd, 1) := by decide +kernel
theorem dX12_digest_243 : decode cX12_digest 243 = .ok (.lstore_n 1, 1) := by decide +kernel
theorem dX12_digest_244 : decode cX12_digest 244 = .ok (.lload_n 1, 1) := by decide +kernel
theorem dX12_digest_245 : decode cX12_digest 245 = .ok (.aload_n 0, 1) := by decide +kernel
theorem dX12_digest_246 : decode cX12_digest 246 = .ok (.iload_n 3, 1) := by decide +kernel
theorem dX12_digest_247 : decode cX12_digest 247 = .ok (.invokevirtual 177, 3) := by decide +kernel
theorem dX12_digest_250 : decode cX12_digest 250 = .ok (.invokestatic 284, 3) := by decide +kernel
theorem dX12_digest_253 : decode cX12_digest 253 = .ok (.lstore_n 1, 1) := by decide +kernel
theorem dX12_digest_254 : decode cX12_digest 254 = .ok (.iinc 3 1, 3) := by decide +kernel
theorem dX12_digest_257 : decode cX12_digest 257 = .ok (.goto (-49), 3) := by decide +kernel
theorem dX12_digest_260 : decode cX12_digest 260 = .ok (.lload_n 1, 1) := by decide +kernel
theorem dX12_digest_261 : decode cX12_digest 261 = .ok (.aload_n 0, 1) := by decide +kernel
theorem dX12_digest_262 : decode cX12_digest 262 = .ok (.invokevirtual 188, 3) := by decide +kernel
theorem dX12_digest_265 : decode cX12_digest 265 = .ok (.invokestatic 284, 3) := by decide +kernel
theorem dX12_digest_268 : decode cX12_digest 268 = .ok (.lstore_n 1, 1) := by decide +kernel
theorem dX12_digest_269 : decode cX12_digest 269 = .ok (.lload_n 1, 1) := by decide +kernel
theorem dX12_digest_270 : decode cX12_digest 270 = .ok (.aload_n 0, 1) := by decide +kernel
theorem dX12_digest_271 : decode cX12_digest 271 = .ok (.invokevirtual 195, 3) := by decide +kernel
theorem dX12_digest_274 : decode cX12_digest 274 = .ok (.invokestatic 284, 3) := by decide +kernel
theorem dX12_digest_277 : decode cX12_digest 277 = .ok (.lstore_n 1, 1) := by decide +kernel
theorem dX12_digest_278 : decode cX12_digest 278 = .ok (.ldc2_w 277, 3) := by decide +kernel
theorem dX12_digest_281 : decode cX12_digest 281 = .ok (.lload_n 1, 1) := by decide +kernel
theorem dX12_digest_282 : decode cX12_digest 282 = .ok (.lmul, 1) := by decide +kernel
theorem dX12_digest_283 : decode cX12_digest 283 = .ok (.aload_n 0, 1) := by decide +kernel
theorem dX12_digest_284 : decode cX12_digest 284 = .ok (.invokevirtual 198, 3) := by decide +kernel
theorem dX12_digest_287 : decode cX12_digest 287 = .ok (.i2l, 1) := by decide +kernel
theorem dX12_digest_288 : decode cX12_digest 288 = .ok (.ladd, 1) := by decide +kernel
theorem dX12_digest_289 : decode cX12_digest 289 = .ok (.lstore_n 1, 1) := by decide +kernel
theorem dX12_digest_290 : decode cX12_digest 290 = .ok (.aload_n 0, 1) := by decide +kernel
theorem dX12_digest_291 : decode cX12_digest 291 = .ok (.invokevirtual 225, 3) := by decide +kernel
theorem dX12_digest_294 : decode cX12_digest 294 = .ok (.ldc2_w 277, 3) := by decide +kernel
theorem dX12_digest_297 : decode cX12_digest 297 = .ok (.lload_n 1, 1) := by decide +kernel
theorem dX12_digest_298 : decode cX12_digest 298 = .ok (.lmul, 1) := by decide +kernel
theorem dX12_digest_299 : decode cX12_digest 299 = .ok (.aload_n 0, 1) := by decide +kernel
theorem dX12_digest_300 : decode cX12_digest 300 = .ok (.iconst (-1), 1) := by decide +kernel
theorem dX12_digest_301 : decode cX12_digest 301 = .ok (.invokevirtual 228, 3) := by decide +kernel
theorem dX12_digest_304 : decode cX12_digest 304 = .ok (.i2l, 1) := by decide +kernel
theorem dX12_digest_305 : decode cX12_digest 305 = .ok (.ladd, 1) := by decide +kernel
theorem dX12_digest_306 : decode cX12_digest 306 = .ok (.lstore_n 1, 1) := by decide +kernel
theorem dX12_digest_307 : decode cX12_digest 307 = .ok (.ldc2_w 277, 3) := by decide +kernel
theorem dX12_digest_310 : decode cX12_digest 310 = .ok (.lload_n 1, 1) := by decide +kernel
theorem dX12_digest_311 : decode cX12_digest 311 = .ok (.lmul, 1) := by decide +kernel
theorem dX12_digest_312 : decode cX12_digest 312 = .ok (.aload_n 0, 1) := by decide +kernel
theorem dX12_digest_313 : decode cX12_digest 313 = .ok (.iconst 0, 1) := by decide +kernel
theorem dX12_digest_314 : decode cX12_digest 314 = .ok (.invokevirtual 228, 3) := by decide +kernel
theorem dX12_digest_317 : decode cX12_digest 317 = .ok (.i2l, 1) := by decide +kernel
theorem dX12_digest_318 : decode cX12_digest 318 = .ok (.ladd, 1) := by decide +kernel
theorem dX12_digest_319 : decode cX12_digest 319 = .ok (.lstore_n 1, 1) := by decide +kernel
theorem dX12_digest_320 : decode cX12_digest 320 = .ok (.lload_n 1, 1) := by decide +kernel
theorem dX12_digest_321 : decode cX12_digest 321 = .ok (.aload_n 0, 1) := by decide +kernel
theorem dX12_digest_322 : decode cX12_digest 322 = .ok (.getfield 206, 3) := by decide +kernel
theorem dX12_digest_325 : decode cX12_digest 325 = .ok (.invokestatic 284, 3) := by decide +kernel
theorem dX12_digest_328 : decode cX12_digest 328 = .ok (.lstore_n 1, 1) := by decide +kernel
theorem dX12_digest_329 : decode cX12_digest 329 = .ok (.ldc2_w 277, 3) := by decide +kernel
theorem dX12_digest_332 : decode cX12_digest 332 = .ok (.lload_n 1, 1) := by decide +kernel
theorem dX12_digest_333 : decode cX12_digest 333 = .ok (.lmul, 1) := by decide +kernel
theorem dX12_digest_334 : decode cX12_digest 334 = .ok (.aload_n 0, 1) := by decide +kernel
theorem dX12_digest_335 : decode cX12_digest 335 = .ok (.invokevirtual 231, 3) := by decide +kernel
theorem dX12_digest_338 : decode cX12_digest 338 = .ok (.i2l, 1) := by decide +kernel
theorem dX12_digest_339 : decode cX12_digest 339 = .ok (.ladd, 1) := by decide +kernel
theorem dX12_digest_340 : decode cX12_digest 340 = .ok (.lstore_n 1, 1) := by decide +kernel
theorem dX12_digest_341 : decode cX12_digest 341 = .ok (.ldc2_w 277, 3) := by decide +kernel
theorem dX12_digest_344 : decode cX12_digest 344 = .ok (.lload_n 1, 1) := by decide +kernel
theorem dX12_digest_345 : decode cX12_digest 345 = .ok (.lmul, 1) := by decide +kernel
theorem dX12_digest_346 : decode cX12_digest 346 = .ok (.aload_n 0, 1) := by decide +kernel
theorem dX12_digest_347 : decode cX12_digest 347 = .ok (.iconst 4, 1) := by decide +kernel
theorem dX12_digest_348 : decode cX12_digest 348 = .ok (.invokevirtual 234, 3) := by decide +kernel
theorem dX12_digest_351 : decode cX12_digest 351 = .ok (.i2l, 1) := by decide +kernel
theorem dX12_digest_352 : decode cX12_digest 352 = .ok (.ladd, 1) := by decide +kernel
theorem dX12_digest_353 : decode cX12_digest 353 = .ok (.lstore_n 1, 1) := by decide +kernel
theorem dX12_digest_354 : decode cX12_digest 354 = .ok (.ldc2_w 277, 3) := by decide +kernel
theorem dX12_digest_357 : decode cX12_digest 357 = .ok (.lload_n 1, 1) := by decide +kernel
theorem dX12_digest_358 : decode cX12_digest 358 = .ok (.lmul, 1) := by decide +kernel
theorem dX12_digest_359 : decode cX12_digest 359 = .ok (.aload_n 0, 1) := by decide +kernel
theorem dX12_digest_360 : decode cX12_digest 360 = .ok (.bipush 9, 2) := by decide +kernel
theorem dX12_digest_362 : decode cX12_digest 362 = .ok (.invokevirtual 234, 3) := by decide +kernel
theorem dX12_digest_365 : decode cX12_digest 365 = .ok (.i2l, 1) := by decide +kernel
theorem dX12_digest_366 : decode cX12_digest 366 = .ok (.ladd, 1) := by decide +kernel
theorem dX12_digest_367 : decode cX12_digest 367 = .ok (.lstore_n 1, 1) := by decide +kernel
theorem dX12_digest_368 : decode cX12_digest 368 = .ok (.ldc2_w 277, 3) := by decide +kernel
theorem dX12_digest_371 : decode cX12_digest 371 = .ok (.lload_n 1, 1) := by decide +kernel
theorem dX12_digest_372 : decode cX12_digest 372 = .ok (.lmul, 1) := by decide +kernel
theorem dX12_digest_373 : decode cX12_digest 373 = .ok (.aload_n 0, 1) := by decide +kernel
theorem dX12_digest_374 : decode cX12_digest 374 = .ok (.invokevirtual 250, 3) := by decide +kernel
theorem dX12_digest_377 : decode cX12_digest 377 = .ok (.i2l, 1) := by decide +kernel
theorem dX12_digest_378 : decode cX12_digest 378 = .ok (.ladd, 1) := by decide +kernel
theorem dX12_digest_379 : decode cX12_digest 379 = .ok (.lstore_n 1, 1) := by decide +kernel
theorem dX12_digest_380 : decode cX12_digest 380 = .ok (.ldc2_w 277, 3) := by decide +kernel
theorem dX12_digest_383 : decode cX12_digest 383 = .ok (.lload_n 1, 1) := by decide +kernel
theorem dX12_digest_384 : decode cX12_digest 384 = .ok (.lmul, 1) := by decide +kernel
theorem dX12_digest_385 : decode cX12_digest 385 = .ok (.aload_n 0, 1) := by decide +kernel
theorem dX12_digest_386 : decode cX12_digest 386 = .ok (.invokevirtual 256, 3) := by decide +kernel
theorem dX12_digest_389 : decode cX12_digest 389 = .ok (.i2l, 1) := by decide +kernel
theorem dX12_digest_390 : decode cX12_digest 390 = .ok (.ladd, 1) := by decide +kernel
theorem dX12_digest_391 : decode cX12_digest 391 = .ok (.lstore_n 1, 1) := by decide +kernel
theorem dX12_digest_392 : decode cX12_digest 392 = .ok (.ldc2_w 277, 3) := by decide +kernel
theorem dX12_digest_395 : decode cX12_digest 395 = .ok (.lload_n 1, 1) := by decide +kernel
theorem dX12_digest_396 : decode cX12_digest 396 = .ok (.lmul, 1) := by decide +kernel
theorem dX12_digest_397 : decode cX12_digest 397 = .ok (.aload_n 0, 1) := by decide +kernel
theorem dX12_digest_398 : decode cX12_digest 398 = .ok (.bipush 7, 2) := by decide +kernel
theorem dX12_digest_400 : decode cX12_digest 400 = .ok (.bipush 30, 2) := by decide +kernel
theorem dX12_digest_402 : decode cX12_digest 402 = .ok (.iconst 0, 1) := by decide +kernel
theorem dX12_digest_403 : decode cX12_digest 403 = .ok (.invokevirtual 268, 3) := by decide +kernel
theorem dX12_digest_406 : decode cX12_digest 406 = .ok (.i2l, 1) := by decide +kernel
theorem dX12_digest_407 : decode cX12_digest 407 = .ok (.ladd, 1) := by decide +kernel
theorem dX12_digest_408 : decode cX12_digest 408 = .ok (.lstore_n 1, 1) := by decide +kernel
theorem dX12_digest_409 : decode cX12_digest 409 = .ok (.ldc2_w 277, 3) := by decide +kernel
theorem dX12_digest_412 : decode cX12_digest 412 = .ok (.lload_n 1, 1) := by decide +kernel
theorem dX12_digest_413 : decode cX12_digest 413 = .ok (.lmul, 1) := by decide +kernel
theorem dX12_digest_414 : decode cX12_digest 414 = .ok (.aload_n 0, 1) := by decide +kernel
theorem dX12_digest_415 : decode cX12_digest 415 = .ok (.bipush 7, 2) := by decide +kernel
theorem dX12_digest_417 : decode cX12_digest 417 = .ok (.bipush 30, 2) := by decide +kernel
theorem dX12_digest_419 : decode cX12_digest 419 = .ok (.iconst 1, 1) := by decide +kernel
theorem dX12_digest_420 : decode cX12_digest 420 = .ok (.invokevirtual 268, 3) := by decide +kernel
theorem dX12_digest_423 : decode cX12_digest 423 = .ok (.i2l, 1) := by decide +kernel
theorem dX12_digest_424 : decode cX12_digest 424 = .ok (.ladd, 1) := by decide +kernel
theorem dX12_digest_425 : decode cX12_digest 425 = .ok (.lreturn, 1) := by decide +kernel
theorem dJ6_bitCount_0f7a4_0 : decode cJ6_bitCount_0f7a4 0 = .ok (.iload_n 0, 1) := by decide +kernel
theorem dJ6_bitCount_0f7a4_1 : decode cJ6_bitCount_0f7a4 1 = .ok (.iload_n 0, 1) := by decide +kernel
theorem dJ6_bitCount_0f7a4_2 : decode cJ6_bitCount_0f7a4 2 = .ok (.iconst 1, 1) := by decide +kernel
theorem dJ6_bitCount_0f7a4_3 : decode cJ6_bitCount_0f7a4 3 = .ok (.iushr, 1) := by decide +kernel
theorem dJ6_bitCount_0f7a4_4 : decode cJ6_bitCount_0f7a4 4 = .ok (.ldc_w 265, 3) := by decide +kernel
theorem dJ6_bitCount_0f7a4_7 : decode cJ6_bitCount_0f7a4 7 = .ok (.iand, 1) := by decide +kernel
theorem dJ6_bitCount_0f7a4_8 : decode cJ6_bitCount_0f7a4 8 = .ok (.isub, 1) := by decide +kernel
theorem dJ6_bitCount_0f7a4_9 : decode cJ6_bitCount_0f7a4 9 = .ok (.istore_n 0, 1) := by decide +kernel
theorem dJ6_bitCount_0f7a4_10 : decode cJ6_bitCount_0f7a4 10 = .ok (.iload_n 0, 1) := by decide +kernel
theorem dJ6_bitCount_0f7a4_11 : decode cJ6_bitCount_0f7a4 11 = .ok (.ldc_w 266, 3) := by decide +kernel
theorem dJ6_bitCount_0f7a4_14 : decode cJ6_bitCount_0f7a4 14 = .ok (.iand, 1) := by decide +kernel
theorem dJ6_bitCount_0f7a4_15 : decode cJ6_bitCount_0f7a4 15 = .ok (.iload_n 0, 1) := by decide +kernel
theorem dJ6_bitCount_0f7a4_16 : decode cJ6_bitCount_0f7a4 16 = .ok (.iconst 2, 1) := by decide +kernel
theorem dJ6_bitCount_0f7a4_17 : decode cJ6_bitCount_0f7a4 17 = .ok (.iushr, 1) := by decide +kernel
theorem dJ6_bitCount_0f7a4_18 : decode cJ6_bitCount_0f7a4 18 = .ok (.ldc_w 266, 3) := by decide +kernel
theorem dJ6_bitCount_0f7a4_21 : decode cJ6_bitCount_0f7a4 21 = .ok (.iand, 1) := by decide +kernel
theorem dJ6_bitCount_0f7a4_22 : decode cJ6_bitCount_0f7a4 22 = .ok (.iadd, 1) := by decide +kernel
theorem dJ6_bitCount_0f7a4_23 : decode cJ6_bitCount_0f7a4 23 = .ok (.istore_n 0, 1) := by decide +kernel
theorem dJ6_bitCount_0f7a4_24 : decode cJ6_bitCount_0f7a4 24 = .ok (.iload_n 0, 1) := by decide +kernel
theorem dJ6_bitCount_0f7a4_25 : decode cJ6_bitCount_0f7a4 25 = .ok (.iload_n 0, 1) := by decide +kernel
theorem dJ6_bitCount_0f7a4_26 : decode cJ6_bitCount_0f7a4 26 = .ok (.iconst 4, 1) := by decide +kernel
theorem dJ6_bitCount_0f7a4_27 : decode cJ6_bitCount_0f7a4 27 = .ok (.iushr, 1) := by decide +kernel
theorem dJ6_bitCount_0f7a4_28 : decode cJ6_bitCount_0f7a4 28 = .ok (.iadd, 1) := by decide +kernel
theorem dJ6_bitCount_0f7a4_29 : decode cJ6_bitCount_0f7a4 29 = .ok (.ldc_w 267, 3) := by decide +kernel
theorem dJ6_bitCount_0f7a4_32 : decode cJ6_bitCount_0f7a4 32 = .ok (.iand, 1) := by decide +kernel
theorem dJ6_bitCount_0f7a4_33 : decode cJ6_bitCount_0f7a4 33 = .ok (.istore_n 0, 1) := by decide +kernel
theorem dJ6_bitCount_0f7a4_34 : decode cJ6_bitCount_0f7a4 34 = .ok (.iload_n 0, 1) := by decide +kernel
theorem dJ6_bitCount_0f7a4_35 : decode cJ6_bitCount_0f7a4 35 = .ok (.iload_n 0, 1) := by decide +kernel
theorem dJ6_bitCount_0f7a4_36 : decode cJ6_bitCount_0f7a4 36 = .ok (.bipush 8, 2) := by decide +kernel
theorem dJ6_bitCount_0f7a4_38 : decode cJ6_bitCount_0f7a4 38 = .ok (.iushr, 1) := by decide +kernel
theorem dJ6_bitCount_0f7a4_39 : decode cJ6_bitCount_0f7a4 39 = .ok (.iadd, 1) := by decide +kernel
theorem dJ6_bitCount_0f7a4_40 : decode cJ6_bitCount_0f7a4 40 = .ok (.istore_n 0, 1) := by decide +kernel
theorem dJ6_bitCount_0f7a4_41 : decode cJ6_bitCount_0f7a4 41 = .ok (.iload_n 0, 1) := by decide +kernel
theorem dJ6_bitCount_0f7a4_42 : decode cJ6_bitCount_0f7a4 42 = .ok (.iload_n 0, 1) := by decide +kernel
theorem dJ6_bitCount_0f7a4_43 : decode cJ6_bitCount_0f7a4 43 = .ok (.bipush 16, 2) := by decide +kernel
theorem dJ6_bitCount_0f7a4_45 : decode cJ6_bitCount_0f7a4 45 = .ok (.iushr, 1) := by decide +kernel
theorem dJ6_bitCount_0f7a4_46 : decode cJ6_bitCount_0f7a4 46 = .ok (.iadd, 1) := by decide +kernel
theorem dJ6_bitCount_0f7a4_47 : decode cJ6_bitCount_0f7a4 47 = .ok (.istore_n 0, 1) := by decide +kernel
theorem dJ6_bitCount_0f7a4_48 : decode cJ6_bitCount_0f7a4 48 = .ok (.iload_n 0, 1) := by decide +kernel
theorem dJ6_bitCount_0f7a4_49 : decode cJ6_bitCount_0f7a4 49 = .ok (.bipush 63, 2) := by decide +kernel
theorem dJ6_bitCount_0f7a4_51 : decode cJ6_bitCount_0f7a4 51 = .ok (.iand, 1) := by decide +kernel
theorem dJ6_bitCount_0f7a4_52 : decode cJ6_bitCount_0f7a4 52 = .ok (.ireturn, 1) := by decide +kernel
theorem dJ9_max_7cf53_0 : decode cJ9_max_7cf53 0 = .ok (.iload_n 0, 1) := by decide +kernel
theorem dJ9_max_7cf53_1 : decode cJ9_max_7cf53 1 = .ok (.iload_n 1, 1) := by decide +kernel
theorem dJ9_max_7cf53_2 : decode cJ9_max_7cf53 2 = .ok (.if_icmp .lt 7, 3) := by decide +kernel
theorem dJ9_max_7cf53_5 : decode cJ9_max_7cf53 5 = .ok (.iload_n 0, 1) := by decide +kernel
theorem dJ9_max_7cf53_6 : decode cJ9_max_7cf53 6 = .ok (.goto 4, 3) := by decide +kernel
theorem dJ9_max_7cf53_9 : decode cJ9_max_7cf53 9 = .ok (.iload_n 1, 1) := by decide +kernel
theorem dJ9_max_7cf53_10 : decode cJ9_max_7cf53 10 = .ok (.ireturn, 1) := by decide +kernel
theorem dJ9_max_f86c9_0 : decode cJ9_max_f86c9 0 = .ok (.lload_n 0, 1) := by decide +kernel
theorem dJ9_max_f86c9_1 : decode cJ9_max_f86c9 1 = .ok (.lload_n 2, 1) := by decide +kernel
theorem dJ9_max_f86c9_2 : decode cJ9_max_f86c9 2 = .ok (.lcmp, 1) := by decide +kernel
theorem dJ9_max_f86c9_3 : decode cJ9_max_f86c9 3 = .ok (.ifCond .lt 7, 3) := by decide +kernel
theorem dJ9_max_f86c9_6 : decode cJ9_max_f86c9 6 = .ok (.lload_n 0, 1) := by decide +kernel
theorem dJ9_max_f86c9_7 : decode cJ9_max_f86c9 7 = .ok (.goto 4, 3) := by decide +kernel
theorem dJ9_max_f86c9_10 : decode cJ9_max_f86c9 10 = .ok (.lload_n 2, 1) := by decide +kernel
theorem dJ9_max_f86c9_11 : decode cJ9_max_f86c9 11 = .ok (.lreturn, 1) := by decide +kernel
theorem dJ9_min_7cf53_0 : decode cJ9_min_7cf53 0 = .ok (.iload_n 0, 1) := by decide +kernel
theorem dJ9_min_7cf53_1 : decode cJ9_min_7cf53 1 = .ok (.iload_n 1, 1) := by decide +kernel
theorem dJ9_min_7cf53_2 : decode cJ9_min_7cf53 2 = .ok (.if_icmp .gt 7, 3) := by decide +kernel
theorem dJ9_min_7cf53_5 : decode cJ9_min_7cf53 5 = .ok (.iload_n 0, 1) := by decide +kernel
theorem dJ9_min_7cf53_6 : decode cJ9_min_7cf53 6 = .ok (.goto 4, 3) := by decide +kernel
theorem dJ9_min_7cf53_9 : decode cJ9_min_7cf53 9 = .ok (.iload_n 1, 1) := by decide +kernel
theorem dJ9_min_7cf53_10 : decode cJ9_min_7cf53 10 = .ok (.ireturn, 1) := by decide +kernel
theorem dL_law_0 : decode cL_law 0 = .ok (.new 7, 3) := by decide +kernel
theorem dL_law_3 : decode cL_law 3 = .ok (.dup, 1) := by decide +kernel
theorem dL_law_4 : decode cL_law 4 = .ok (.invokespecial 9, 3) := by decide +kernel
theorem dL_law_7 : decode cL_law 7 = .ok (.astore_n 1, 1) := by decide +kernel
theorem dL_law_8 : decode cL_law 8 = .ok (.new 10, 3) := by decide +kernel
theorem dL_law_11 : decode cL_law 11 = .ok (.dup, 1) := by decide +kernel
theorem dL_law_12 : decode cL_law 12 = .ok (.invokespecial 12, 3) := by decide +kernel
theorem dL_law_15 : decode cL_law 15 = .ok (.astore_n 2, 1) := by decide +kernel
theorem dL_law_16 : decode cL_law 16 = .ok (.iconst 0, 1) := by decide +kernel
theorem dL_law_17 : decode cL_law 17 = .ok (.istore_n 3, 1) := by decide +kernel
theorem dL_law_18 : decode cL_law 18 = .ok (.iload_n 3, 1) := by decide +kernel
theorem dL_law_19 : decode cL_law 19 = .ok (.aload_n 0, 1) := by decide +kernel
theorem dL_law_20 : decode cL_law 20 = .ok (.arraylength, 1) := by decide +kernel
theorem dL_law_21 : decode cL_law 21 = .ok (.bipush 6, 2) := by decide +kernel
theorem dL_law_23 : decode cL_law 23 = .ok (.isub, 1) := by decide +kernel
theorem dL_law_24 : decode cL_law 24 = .ok (.if_icmp .gt 1093, 3) := by decide +kernel
theorem dL_law_27 : decode cL_law 27 = .ok (.aload_n 0, 1) := by decide +kernel
theorem dL_law_28 : decode cL_law 28 = .ok (.iload_n 3, 1) := by decide +kernel
theorem dL_law_29 : decode cL_law 29 = .ok (.iaload, 1) := by decide +kernel
theorem dL_law_30 : decode cL_law 30 = .ok (.bipush 63, 2) := by decide +kernel
theorem dL_law_32 : decode cL_law 32 = .ok (.iand, 1) := by decide +kernel
theorem dL_law_33 : decode cL_law 33 = .ok (.tableswitch 1078 0 33 #[151, 184, 207, 230, 253, 286, 309, 342, 375, 408, 442, 466, 490, 503, 526, 549, 573, 586, 609, 632, 665, 678, 701, 714, 737, 750, 793, 836, 859, 912, 955, 1018, 1041, 1064], 151) := by decide +kernel
theorem dL_law_184 : decode cL_law 184 = .ok (.aload_n 1, 1) := by decide +kernel
theorem dL_law_185 : decode cL_law 185 = .ok (.aload_n 0, 1) := by decide +kernel
theorem dL_law_186 : decode cL_law 186 = .ok (.iload_n 3, 1) := by decide +kernel
theorem dL_law_187 : decode cL_law 187 = .ok (.iconst 1, 1) := by decide +kernel
theorem dL_law_188 : decode cL_law 188 = .ok (.iadd, 1) := by decide +kernel
theorem dL_law_189 : decode cL_law 189 = .ok (.iaload, 1) := by decide +kernel
theorem dL_law_190 : decode cL_law 190 = .ok (.aload_n 0, 1) := by decide +kernel
theorem dL_law_191 : decode cL_law 191 = .ok (.iload_n 3, 1) := by decide +kernel
theorem dL_law_192 : decode cL_law 192 = .ok (.iconst 2, 1) := by decide +kernel
theorem dL_law_193 : decode cL_law 193 = .ok (.iadd, 1) := by decide +kernel
theorem dL_law_194 : decode cL_law 194 = .ok (.iaload, 1) := by decide +kernel
theorem dL_law_195 : decode cL_law 195 = .ok (.invokevirtual 13, 3) := by decide +kernel
theorem dL_law_198 : decode cL_law 198 = .ok (.aload_n 2, 1) := by decide +kernel
theorem dL_law_199 : decode cL_law 199 = .ok (.aload_n 0, 1) := by decide +kernel
theorem dL_law_200 : decode cL_law 200 = .ok (.iload_n 3, 1) := by decide +kernel
theorem dL_law_201 : decode cL_law 201 = .ok (.iconst 1, 1) := by decide +kernel
theorem dL_law_202 : decode cL_law 202 = .ok (.iadd, 1) := by decide +kernel
theorem dL_law_203 : decode cL_law 203 = .ok (.iaload, 1) := by decide +kernel
theorem dL_law_204 : decode cL_law 204 = .ok (.aload_n 0, 1) := by decide +kernel
theorem dL_law_205 : decode cL_law 205 = .ok (.iload_n 3, 1) := by decide +kernel
theorem dL_law_206 : decode cL_law 206 = .ok (.iconst 2, 1) := by decide +kernel
theorem dL_law_207 : decode cL_law 207 = .ok (.iadd, 1) := by decide +kernel
theorem dL_law_208 : decode cL_law 208 = .ok (.iaload, 1) := by decide +kernel
theorem dL_law_209 : decode cL_law 209 = .ok (.invokevirtual 17, 3) := by decide +kernel
theorem dL_law_212 : decode cL_law 212 = .ok (.if_icmp .eq 899, 3) := by decide +kernel
theorem dL_law_215 : decode cL_law 215 = .ok (.iconst 0, 1) := by decide +kernel
theorem dL_law_216 : decode cL_law 216 = .ok (.ireturn, 1) := by decide +kernel
theorem dL_law_217 : decode cL_law 217 = .ok (.aload_n 1, 1) := by decide +kernel
theorem dL_law_218 : decode cL_law 218 = .ok (.aload_n 0, 1) := by decide +kernel
theorem dL_law_219 : decode cL_law 219 = .ok (.iload_n 3, 1) := by decide +kernel
theorem dL_law_220 : decode cL_law 220 = .ok (.iconst 1, 1) := by decide +kernel
theorem dL_law_221 : decode cL_law 221 = .ok (.iadd, 1) := by decide +kernel
theorem dL_law_222 : decode cL_law 222 = .ok (.iaload, 1) := by decide +kernel
theorem dL_law_223 : decode cL_law 223 = .ok (.invokevirtual 18, 3) := by decide +kernel
theorem dL_law_226 : decode cL_law 226 = .ok (.aload_n 2, 1) := by decide +kernel
theorem dL_law_227 : decode cL_law 227 = .ok (.aload_n 0, 1) := by decide +kernel
theorem dL_law_228 : decode cL_law 228 = .ok (.iload_n 3, 1) := by decide +kernel
theorem dL_law_229 : decode cL_law 229 = .ok (.iconst 1, 1) := by decide +kernel
theorem dL_law_230 : decode cL_law 230 = .ok (.iadd, 1) := by decide +kernel
theorem dL_law_231 : decode cL_law 231 = .ok (.iaload, 1) := by decide +kernel
theorem dL_law_232 : decode cL_law 232 = .ok (.invokevirtual 22, 3) := by decide +kernel
theorem dL_law_235 : decode cL_law 235 = .ok (.if_icmp .eq 876, 3) := by decide +kernel
theorem dL_law_238 : decode cL_law 238 = .ok (.iconst 0, 1) := by decide +kernel
theorem dL_law_239 : decode cL_law 239 = .ok (.ireturn, 1) := by decide +kernel
theorem dL_law_240 : decode cL_law 240 = .ok (.aload_n 1, 1) := by decide +kernel
theorem dL_law_241 : decode cL_law 241 = .ok (.aload_n 0, 1) := by decide +kernel
end
section
theorem dL_law_242 : decode cL_law 242 = .ok (.iload_n 3, 1) := by decide +kernel
theorem dL_law_243 : decode cL_law 243 = .ok (.iconst 1, 1) := by decide +kernel
theorem dL_law_244 : decode cL_law 244 = .ok (.iadd, 1) := by decide +kernel
theorem dL_law_245 : decode cL_law 245 = .ok (.iaload, 1) := by decide +kernel
theorem dL_law_246 : decode cL_law 246 = .ok (.invokevirtual 23, 3) := by decide +kernel
theorem dL_law_249 : decode cL_law 249 = .ok (.aload_n 2, 1) := by decide +kernel
theorem dL_law_250 : decode cL_law 250 = .ok (.aload_n 0, 1) := by decide +kernel
theorem dL_law_251 : decode cL_law 251 = .ok (.iload_n 3, 1) := by decide +kernel
theorem dL_law_252 : decode cL_law 252 = .ok (.iconst 1, 1) := by decide +kernel
theorem dL_law_253 : decode cL_law 253 = .ok (.iadd, 1) := by decide +kernel
theorem dL_law_254 : decode cL_law 254 = .ok (.iaload, 1) := by decide +kernel
theorem dL_law_255 : decode cL_law 255 = .ok (.invokevirtual 26, 3) := by decide +kernel
theorem dL_law_258 : decode cL_law 258 = .ok (.if_icmp .eq 853, 3) := by decide +kernel
theorem dL_law_261 : decode cL_law 261 = .ok (.iconst 0, 1) := by decide +kernel
theorem dL_law_262 : decode cL_law 262 = .ok (.ireturn, 1) := by decide +kernel
theorem dL_law_263 : decode cL_law 263 = .ok (.aload_n 1, 1) := by decide +kernel
theorem dL_law_264 : decode cL_law 264 = .ok (.aload_n 0, 1) := by decide +kernel
theorem dL_law_265 : decode cL_law 265 = .ok (.iload_n 3, 1) := by decide +kernel
theorem dL_law_266 : decode cL_law 266 = .ok (.iconst 1, 1) := by decide +kernel
theorem dL_law_267 : decode cL_law 267 = .ok (.iadd, 1) := by decide +kernel
theorem dL_law_268 : decode cL_law 268 = .ok (.iaload, 1) := by decide +kernel
theorem dL_law_269 : decode cL_law 269 = .ok (.invokevirtual 27, 3) := by decide +kernel
theorem dL_law_272 : decode cL_law 272 = .ok (.aload_n 2, 1) := by decide +kernel
theorem dL_law_273 : decode cL_law 273 = .ok (.aload_n 0, 1) := by decide +kernel
theorem dL_law_274 : decode cL_law 274 = .ok (.iload_n 3, 1) := by decide +kernel
theorem dL_law_275 : decode cL_law 275 = .ok (.iconst 1, 1) := by decide +kernel
theorem dL_law_276 : decode cL_law 276 = .ok (.iadd, 1) := by decide +kernel
theorem dL_law_277 : decode cL_law 277 = .ok (.iaload, 1) := by decide +kernel
theorem dL_law_278 : decode cL_law 278 = .ok (.invokevirtual 30, 3) := by decide +kernel
theorem dL_law_281 : decode cL_law 281 = .ok (.if_icmp .eq 830, 3) := by decide +kernel
theorem dL_law_284 : decode cL_law 284 = .ok (.iconst 0, 1) := by decide +kernel
theorem dL_law_285 : decode cL_law 285 = .ok (.ireturn, 1) := by decide +kernel
theorem dL_law_286 : decode cL_law 286 = .ok (.aload_n 1, 1) := by decide +kernel
theorem dL_law_287 : decode cL_law 287 = .ok (.aload_n 0, 1) := by decide +kernel
theorem dL_law_288 : decode cL_law 288 = .ok (.iload_n 3, 1) := by decide +kernel
theorem dL_law_289 : decode cL_law 289 = .ok (.iconst 1, 1) := by decide +kernel
theorem dL_law_290 : decode cL_law 290 = .ok (.iadd, 1) := by decide +kernel
theorem dL_law_291 : decode cL_law 291 = .ok (.iaload, 1) := by decide +kernel
theorem dL_law_292 : decode cL_law 292 = .ok (.aload_n 0, 1) := by decide +kernel
theorem dL_law_293 : decode cL_law 293 = .ok (.iload_n 3, 1) := by decide +kernel
theorem dL_law_294 : decode cL_law 294 = .ok (.iconst 2, 1) := by decide +kernel
theorem dL_law_295 : decode cL_law 295 = .ok (.iadd, 1) := by decide +kernel
theorem dL_law_296 : decode cL_law 296 = .ok (.iaload, 1) := by decide +kernel
theorem dL_law_297 : decode cL_law 297 = .ok (.invokevirtual 31, 3) := by decide +kernel
theorem dL_law_300 : decode cL_law 300 = .ok (.aload_n 2, 1) := by decide +kernel
theorem dL_law_301 : decode cL_law 301 = .ok (.aload_n 0, 1) := by decide +kernel
theorem dL_law_302 : decode cL_law 302 = .ok (.iload_n 3, 1) := by decide +kernel
theorem dL_law_303 : decode cL_law 303 = .ok (.iconst 1, 1) := by decide +kernel
theorem dL_law_304 : decode cL_law 304 = .ok (.iadd, 1) := by decide +kernel
theorem dL_law_305 : decode cL_law 305 = .ok (.iaload, 1) := by decide +kernel
theorem dL_law_306 : decode cL_law 306 = .ok (.aload_n 0, 1) := by decide +kernel
theorem dL_law_307 : decode cL_law 307 = .ok (.iload_n 3, 1) := by decide +kernel
theorem dL_law_308 : decode cL_law 308 = .ok (.iconst 2, 1) := by decide +kernel
theorem dL_law_309 : decode cL_law 309 = .ok (.iadd, 1) := by decide +kernel
theorem dL_law_310 : decode cL_law 310 = .ok (.iaload, 1) := by decide +kernel
theorem dL_law_311 : decode cL_law 311 = .ok (.invokevirtual 34, 3) := by decide +kernel
theorem dL_law_314 : decode cL_law 314 = .ok (.if_icmp .eq 797, 3) := by decide +kernel
theorem dL_law_317 : decode cL_law 317 = .ok (.iconst 0, 1) := by decide +kernel
theorem dL_law_318 : decode cL_law 318 = .ok (.ireturn, 1) := by decide +kernel
theorem dL_law_319 : decode cL_law 319 = .ok (.aload_n 1, 1) := by decide +kernel
theorem dL_law_320 : decode cL_law 320 = .ok (.aload_n 0, 1) := by decide +kernel
theorem dL_law_321 : decode cL_law 321 = .ok (.iload_n 3, 1) := by decide +kernel
theorem dL_law_322 : decode cL_law 322 = .ok (.iconst 1, 1) := by decide +kernel
theorem dL_law_323 : decode cL_law 323 = .ok (.iadd, 1) := by decide +kernel
theorem dL_law_324 : decode cL_law 324 = .ok (.iaload, 1) := by decide +kernel
theorem dL_law_325 : decode cL_law 325 = .ok (.invokevirtual 35, 3) := by decide +kernel
theorem dL_law_328 : decode cL_law 328 = .ok (.aload_n 2, 1) := by decide +kernel
theorem dL_law_329 : decode cL_law 329 = .ok (.aload_n 0, 1) := by decide +kernel
theorem dL_law_330 : decode cL_law 330 = .ok (.iload_n 3, 1) := by decide +kernel
theorem dL_law_331 : decode cL_law 331 = .ok (.iconst 1, 1) := by decide +kernel
theorem dL_law_332 : decode cL_law 332 = .ok (.iadd, 1) := by decide +kernel
theorem dL_law_333 : decode cL_law 333 = .ok (.iaload, 1) := by decide +kernel
theorem dL_law_334 : decode cL_law 334 = .ok (.invokevirtual 38, 3) := by decide +kernel
theorem dL_law_337 : decode cL_law 337 = .ok (.if_icmp .eq 774, 3) := by decide +kernel
theorem dL_law_340 : decode cL_law 340 = .ok (.iconst 0, 1) := by decide +kernel
theorem dL_law_341 : decode cL_law 341 = .ok (.ireturn, 1) := by decide +kernel
theorem dL_law_342 : decode cL_law 342 = .ok (.aload_n 1, 1) := by decide +kernel
theorem dL_law_343 : decode cL_law 343 = .ok (.aload_n 0, 1) := by decide +kernel
theorem dL_law_344 : decode cL_law 344 = .ok (.iload_n 3, 1) := by decide +kernel
theorem dL_law_345 : decode cL_law 345 = .ok (.iconst 1, 1) := by decide +kernel
theorem dL_law_346 : decode cL_law 346 = .ok (.iadd, 1) := by decide +kernel
theorem dL_law_347 : decode cL_law 347 = .ok (.iaload, 1) := by decide +kernel
theorem dL_law_348 : decode cL_law 348 = .ok (.aload_n 0, 1) := by decide +kernel
theorem dL_law_349 : decode cL_law 349 = .ok (.iload_n 3, 1) := by decide +kernel
theorem dL_law_350 : decode cL_law 350 = .ok (.iconst 2, 1) := by decide +kernel
theorem dL_law_351 : decode cL_law 351 = .ok (.iadd, 1) := by decide +kernel
theorem dL_law_352 : decode cL_law 352 = .ok (.iaload, 1) := by decide +kernel
theorem dL_law_353 : decode cL_law 353 = .ok (.invokevirtual 39, 3) := by decide +kernel
theorem dL_law_356 : decode cL_law 356 = .ok (.aload_n 2, 1) := by decide +kernel
theorem dL_law_357 : decode cL_law 357 = .ok (.aload_n 0, 1) := by decide +kernel
theorem dL_law_358 : decode cL_law 358 = .ok (.iload_n 3, 1) := by decide +kernel
theorem dL_law_359 : decode cL_law 359 = .ok (.iconst 1, 1) := by decide +kernel
theorem dL_law_360 : decode cL_law 360 = .ok (.iadd, 1) := by decide +kernel
theorem dL_law_361 : decode cL_law 361 = .ok (.iaload, 1) := by decide +kernel
theorem dL_law_362 : decode cL_law 362 = .ok (.aload_n 0, 1) := by decide +kernel
theorem dL_law_363 : decode cL_law 363 = .ok (.iload_n 3, 1) := by decide +kernel
theorem dL_law_364 : decode cL_law 364 = .ok (.iconst 2, 1) := by decide +kernel
theorem dL_law_365 : decode cL_law 365 = .ok (.iadd, 1) := by decide +kernel
theorem dL_law_366 : decode cL_law 366 = .ok (.iaload, 1) := by decide +kernel
theorem dL_law_367 : decode cL_law 367 = .ok (.invokevirtual 42, 3) := by decide +kernel
theorem dL_law_370 : decode cL_law 370 = .ok (.if_icmp .eq 741, 3) := by decide +kernel
theorem dL_law_373 : decode cL_law 373 = .ok (.iconst 0, 1) := by decide +kernel
theorem dL_law_374 : decode cL_law 374 = .ok (.ireturn, 1) := by decide +kernel
theorem dL_law_375 : decode cL_law 375 = .ok (.aload_n 1, 1) := by decide +kernel
theorem dL_law_376 : decode cL_law 376 = .ok (.aload_n 0, 1) := by decide +kernel
theorem dL_law_377 : decode cL_law 377 = .ok (.iload_n 3, 1) := by decide +kernel
theorem dL_law_378 : decode cL_law 378 = .ok (.iconst 1, 1) := by decide +kernel
theorem dL_law_379 : decode cL_law 379 = .ok (.iadd, 1) := by decide +kernel
theorem dL_law_380 : decode cL_law 380 = .ok (.iaload, 1) := by decide +kernel
theorem dL_law_381 : decode cL_law 381 = .ok (.aload_n 0, 1) := by decide +kernel
theorem dL_law_382 : decode cL_law 382 = .ok (.iload_n 3, 1) := by decide +kernel
theorem dL_law_383 : decode cL_law 383 = .ok (.iconst 2, 1) := by decide +kernel
theorem dL_law_384 : decode cL_law 384 = .ok (.iadd, 1) := by decide +kernel
theorem dL_law_385 : decode cL_law 385 = .ok (.iaload, 1) := by decide +kernel
theorem dL_law_386 : decode cL_law 386 = .ok (.invokevirtual 43, 3) := by decide +kernel
theorem dL_law_389 : decode cL_law 389 = .ok (.aload_n 2, 1) := by decide +kernel
theorem dL_law_390 : decode cL_law 390 = .ok (.aload_n 0, 1) := by decide +kernel
theorem dL_law_391 : decode cL_law 391 = .ok (.iload_n 3, 1) := by decide +kernel
theorem dL_law_392 : decode cL_law 392 = .ok (.iconst 1, 1) := by decide +kernel
theorem dL_law_393 : decode cL_law 393 = .ok (.iadd, 1) := by decide +kernel
theorem dL_law_394 : decode cL_law 394 = .ok (.iaload, 1) := by decide +kernel
theorem dL_law_395 : decode cL_law 395 = .ok (.aload_n 0, 1) := by decide +kernel
theorem dL_law_396 : decode cL_law 396 = .ok (.iload_n 3, 1) := by decide +kernel
theorem dL_law_397 : decode cL_law 397 = .ok (.iconst 2, 1) := by decide +kernel
theorem dL_law_398 : decode cL_law 398 = .ok (.iadd, 1) := by decide +kernel
theorem dL_law_399 : decode cL_law 399 = .ok (.iaload, 1) := by decide +kernel
theorem dL_law_400 : decode cL_law 400 = .ok (.invokevirtual 46, 3) := by decide +kernel
theorem dL_law_403 : decode cL_law 403 = .ok (.if_icmp .eq 708, 3) := by decide +kernel
theorem dL_law_406 : decode cL_law 406 = .ok (.iconst 0, 1) := by decide +kernel
theorem dL_law_407 : decode cL_law 407 = .ok (.ireturn, 1) := by decide +kernel
theorem dL_law_408 : decode cL_law 408 = .ok (.aload_n 1, 1) := by decide +kernel
theorem dL_law_409 : decode cL_law 409 = .ok (.aload_n 0, 1) := by decide +kernel
theorem dL_law_410 : decode cL_law 410 = .ok (.iload_n 3, 1) := by decide +kernel
theorem dL_law_411 : decode cL_law 411 = .ok (.iconst 1, 1) := by decide +kernel
theorem dL_law_412 : decode cL_law 412 = .ok (.iadd, 1) := by decide +kernel
theorem dL_law_413 : decode cL_law 413 = .ok (.iaload, 1) := by decide +kernel
theorem dL_law_414 : decode cL_law 414 = .ok (.aload_n 0, 1) := by decide +kernel
theorem dL_law_415 : decode cL_law 415 = .ok (.iload_n 3, 1) := by decide +kernel
theorem dL_law_416 : decode cL_law 416 = .ok (.iconst 2, 1) := by decide +kernel
theorem dL_law_417 : decode cL_law 417 = .ok (.iadd, 1) := by decide +kernel
theorem dL_law_418 : decode cL_law 418 = .ok (.iaload, 1) := by decide +kernel
theorem dL_law_419 : decode cL_law 419 = .ok (.invokevirtual 47, 3) := by decide +kernel
theorem dL_law_422 : decode cL_law 422 = .ok (.aload_n 2, 1) := by decide +kernel
theorem dL_law_423 : decode cL_law 423 = .ok (.aload_n 0, 1) := by decide +kernel
theorem dL_law_424 : decode cL_law 424 = .ok (.iload_n 3, 1) := by decide +kernel
theorem dL_law_425 : decode cL_law 425 = .ok (.iconst 1, 1) := by decide +kernel
theorem dL_law_426 : decode cL_law 426 = .ok (.iadd, 1) := by decide +kernel
theorem dL_law_427 : decode cL_law 427 = .ok (.iaload, 1) := by decide +kernel
theorem dL_law_428 : decode cL_law 428 = .ok (.aload_n 0, 1) := by decide +kernel
theorem dL_law_429 : decode cL_law 429 = .ok (.iload_n 3, 1) := by decide +kernel
theorem dL_law_430 : decode cL_law 430 = .ok (.iconst 2, 1) := by decide +kernel
theorem dL_law_431 : decode cL_law 431 = .ok (.iadd, 1) := by decide +kernel
theorem dL_law_432 : decode cL_law 432 = .ok (.iaload, 1) := by decide +kernel
theorem dL_law_433 : decode cL_law 433 = .ok (.invokevirtual 50, 3) := by decide +kernel
theorem dL_law_436 : decode cL_law 436 = .ok (.if_icmp .eq 675, 3) := by decide +kernel
theorem dL_law_439 : decode cL_law 439 = .ok (.iconst 0, 1) := by decide +kernel
theorem dL_law_440 : decode cL_law 440 = .ok (.ireturn, 1) := by decide +kernel
theorem dL_law_441 : decode cL_law 441 = .ok (.aload_n 1, 1) := by decide +kernel
theorem dL_law_442 : decode cL_law 442 = .ok (.aload_n 0, 1) := by decide +kernel
theorem dL_law_443 : decode cL_law 443 = .ok (.iload_n 3, 1) := by decide +kernel
theorem dL_law_444 : decode cL_law 444 = .ok (.iconst 1, 1) := by decide +kernel
theorem dL_law_445 : decode cL_law 445 = .ok (.iadd, 1) := by decide +kernel
theorem dL_law_446 : decode cL_law 446 = .ok (.iaload, 1) := by decide +kernel
theorem dL_law_447 : decode cL_law 447 = .ok (.aload_n 0, 1) := by decide +kernel
theorem dL_law_448 : decode cL_law 448 = .ok (.iload_n 3, 1) := by decide +kernel
theorem dL_law_449 : decode cL_law 449 = .ok (.iconst 2, 1) := by decide +kernel
theorem dL_law_450 : decode cL_law 450 = .ok (.iadd, 1) := by decide +kernel
theorem dL_law_451 : decode cL_law 451 = .ok (.iaload, 1) := by decide +kernel
theorem dL_law_452 : decode cL_law 452 = .ok (.invokevirtual 51, 3) := by decide +kernel
theorem dL_law_455 : decode cL_law 455 = .ok (.aload_n 2, 1) := by decide +kernel
theorem dL_law_456 : decode cL_law 456 = .ok (.aload_n 0, 1) := by decide +kernel
theorem dL_law_457 : decode cL_law 457 = .ok (.iload_n 3, 1) := by decide +kernel
theorem dL_law_458 : decode cL_law 458 = .ok (.iconst 1, 1) := by decide +kernel
theorem dL_law_459 : decode cL_law 459 = .ok (.iadd, 1) := by decide +kernel
theorem dL_law_460 : decode cL_law 460 = .ok (.iaload, 1) := by decide +kernel
theorem dL_law_461 : decode cL_law 461 = .ok (.aload_n 0, 1) := by decide +kernel
theorem dL_law_462 : decode cL_law 462 = .ok (.iload_n 3, 1) := by decide +kernel
theorem dL_law_463 : decode cL_law 463 = .ok (.iconst 2, 1) := by decide +kernel
theorem dL_law_464 : decode cL_law 464 = .ok (.iadd, 1) := by decide +kernel
theorem dL_law_465 : decode cL_law 465 = .ok (.iaload, 1) := by decide +kernel
theorem dL_law_466 : decode cL_law 466 = .ok (.invokevirtual 55, 3) := by decide +kernel
theorem dL_law_469 : decode cL_law 469 = .ok (.lcmp, 1) := by decide +kernel
theorem dL_law_470 : decode cL_law 470 = .ok (.ifCond .eq 641, 3) := by decide +kernel
theorem dL_law_473 : decode cL_law 473 = .ok (.iconst 0, 1) := by decide +kernel
theorem dL_law_474 : decode cL_law 474 = .ok (.ireturn, 1) := by decide +kernel
theorem dL_law_475 : decode cL_law 475 = .ok (.aload_n 1, 1) := by decide +kernel
theorem dL_law_476 : decode cL_law 476 = .ok (.aload_n 0, 1) := by decide +kernel
theorem dL_law_477 : decode cL_law 477 = .ok (.iload_n 3, 1) := by decide +kernel
theorem dL_law_478 : decode cL_law 478 = .ok (.iconst 1, 1) := by decide +kernel
theorem dL_law_479 : decode cL_law 479 = .ok (.iadd, 1) := by decide +kernel
theorem dL_law_480 : decode cL_law 480 = .ok (.iaload, 1) := by decide +kernel
theorem dL_law_481 : decode cL_law 481 = .ok (.invokevirtual 56, 3) := by decide +kernel
theorem dL_law_484 : decode cL_law 484 = .ok (.aload_n 2, 1) := by decide +kernel
theorem dL_law_485 : decode cL_law 485 = .ok (.aload_n 0, 1) := by decide +kernel
theorem dL_law_486 : decode cL_law 486 = .ok (.iload_n 3, 1) := by decide +kernel
theorem dL_law_487 : decode cL_law 487 = .ok (.iconst 1, 1) := by decide +kernel
theorem dL_law_488 : decode cL_law 488 = .ok (.iadd, 1) := by decide +kernel
theorem dL_law_489 : decode cL_law 489 = .ok (.iaload, 1) := by decide +kernel
theorem dL_law_490 : decode cL_law 490 = .ok (.invokevirtual 60, 3) := by decide +kernel
theorem dL_law_493 : decode cL_law 493 = .ok (.lcmp, 1) := by decide +kernel
theorem dL_law_494 : decode cL_law 494 = .ok (.ifCond .eq 617, 3) := by decide +kernel
theorem dL_law_497 : decode cL_law 497 = .ok (.iconst 0, 1) := by decide +kernel
theorem dL_law_498 : decode cL_law 498 = .ok (.ireturn, 1) := by decide +kernel
theorem dL_law_499 : decode cL_law 499 = .ok (.aload_n 1, 1) := by decide +kernel
theorem dL_law_500 : decode cL_law 500 = .ok (.aload_n 0, 1) := by decide +kernel
theorem dL_law_501 : decode cL_law 501 = .ok (.iload_n 3, 1) := by decide +kernel
theorem dL_law_502 : decode cL_law 502 = .ok (.iconst 1, 1) := by decide +kernel
theorem dL_law_503 : decode cL_law 503 = .ok (.iadd, 1) := by decide +kernel
theorem dL_law_504 : decode cL_law 504 = .ok (.iaload, 1) := by decide +kernel
theorem dL_law_505 : decode cL_law 505 = .ok (.invokevirtual 61, 3) := by decide +kernel
theorem dL_law_508 : decode cL_law 508 = .ok (.aload_n 2, 1) := by decide +kernel
theorem dL_law_509 : decode cL_law 509 = .ok (.aload_n 0, 1) := by decide +kernel
theorem dL_law_510 : decode cL_law 510 = .ok (.iload_n 3, 1) := by decide +kernel
theorem dL_law_511 : decode cL_law 511 = .ok (.iconst 1, 1) := by decide +kernel
theorem dL_law_512 : decode cL_law 512 = .ok (.iadd, 1) := by decide +kernel
theorem dL_law_513 : decode cL_law 513 = .ok (.iaload, 1) := by decide +kernel
theorem dL_law_514 : decode cL_law 514 = .ok (.invokevirtual 64, 3) := by decide +kernel
theorem dL_law_517 : decode cL_law 517 = .ok (.lcmp, 1) := by decide +kernel
theorem dL_law_518 : decode cL_law 518 = .ok (.ifCond .eq 593, 3) := by decide +kernel
theorem dL_law_521 : decode cL_law 521 = .ok (.iconst 0, 1) := by decide +kernel
theorem dL_law_522 : decode cL_law 522 = .ok (.ireturn, 1) := by decide +kernel
theorem dL_law_523 : decode cL_law 523 = .ok (.aload_n 1, 1) := by decide +kernel
theorem dL_law_524 : decode cL_law 524 = .ok (.invokevirtual 65, 3) := by decide +kernel
theorem dL_law_527 : decode cL_law 527 = .ok (.aload_n 2, 1) := by decide +kernel
theorem dL_law_528 : decode cL_law 528 = .ok (.invokevirtual 69, 3) := by decide +kernel
theorem dL_law_531 : decode cL_law 531 = .ok (.if_icmp .eq 580, 3) := by decide +kernel
theorem dL_law_534 : decode cL_law 534 = .ok (.iconst 0, 1) := by decide +kernel
theorem dL_law_535 : decode cL_law 535 = .ok (.ireturn, 1) := by decide +kernel
theorem dL_law_536 : decode cL_law 536 = .ok (.aload_n 1, 1) := by decide +kernel
theorem dL_law_537 : decode cL_law 537 = .ok (.aload_n 0, 1) := by decide +kernel
theorem dL_law_538 : decode cL_law 538 = .ok (.iload_n 3, 1) := by decide +kernel
theorem dL_law_539 : decode cL_law 539 = .ok (.iconst 1, 1) := by decide +kernel
theorem dL_law_540 : decode cL_law 540 = .ok (.iadd, 1) := by decide +kernel
theorem dL_law_541 : decode cL_law 541 = .ok (.iaload, 1) := by decide +kernel
theorem dL_law_542 : decode cL_law 542 = .ok (.invokevirtual 70, 3) := by decide +kernel
theorem dL_law_545 : decode cL_law 545 = .ok (.aload_n 2, 1) := by decide +kernel
theorem dL_law_546 : decode cL_law 546 = .ok (.aload_n 0, 1) := by decide +kernel
theorem dL_law_547 : decode cL_law 547 = .ok (.iload_n 3, 1) := by decide +kernel
theorem dL_law_548 : decode cL_law 548 = .ok (.iconst 1, 1) := by decide +kernel
theorem dL_law_549 : decode cL_law 549 = .ok (.iadd, 1) := by decide +kernel
theorem dL_law_550 : decode cL_law 550 = .ok (.iaload, 1) := by decide +kernel
theorem dL_law_551 : decode cL_law 551 = .ok (.invokevirtual 73, 3) := by decide +kernel
theorem dL_law_554 : decode cL_law 554 = .ok (.if_icmp .eq 557, 3) := by decide +kernel
theorem dL_law_557 : decode cL_law 557 = .ok (.iconst 0, 1) := by decide +kernel
theorem dL_law_558 : decode cL_law 558 = .ok (.ireturn, 1) := by decide +kernel
theorem dL_law_559 : decode cL_law 559 = .ok (.aload_n 1, 1) := by decide +kernel
theorem dL_law_560 : decode cL_law 560 = .ok (.aload_n 0, 1) := by decide +kernel
theorem dL_law_561 : decode cL_law 561 = .ok (.iload_n 3, 1) := by decide +kernel
theorem dL_law_562 : decode cL_law 562 = .ok (.iconst 1, 1) := by decide +kernel
theorem dL_law_563 : decode cL_law 563 = .ok (.iadd, 1) := by decide +kernel
theorem dL_law_564 : decode cL_law 564 = .ok (.iaload, 1) := by decide +kernel
theorem dL_law_565 : decode cL_law 565 = .ok (.invokevirtual 74, 3) := by decide +kernel
theorem dL_law_568 : decode cL_law 568 = .ok (.aload_n 2, 1) := by decide +kernel
theorem dL_law_569 : decode cL_law 569 = .ok (.aload_n 0, 1) := by decide +kernel
theorem dL_law_570 : decode cL_law 570 = .ok (.iload_n 3, 1) := by decide +kernel
theorem dL_law_571 : decode cL_law 571 = .ok (.iconst 1, 1) := by decide +kernel
theorem dL_law_572 : decode cL_law 572 = .ok (.iadd, 1) := by decide +kernel
theorem dL_law_573 : decode cL_law 573 = .ok (.iaload, 1) := by decide +kernel
theorem dL_law_574 : decode cL_law 574 = .ok (.invokevirtual 77, 3) := by decide +kernel
theorem dL_law_577 : decode cL_law 577 = .ok (.if_icmp .eq 534, 3) := by decide +kernel
theorem dL_law_580 : decode cL_law 580 = .ok (.iconst 0, 1) := by decide +kernel
theorem dL_law_581 : decode cL_law 581 = .ok (.ireturn, 1) := by decide +kernel
theorem dL_law_582 : decode cL_law 582 = .ok (.aload_n 1, 1) := by decide +kernel
theorem dL_law_583 : decode cL_law 583 = .ok (.aload_n 0, 1) := by decide +kernel
theorem dL_law_584 : decode cL_law 584 = .ok (.iload_n 3, 1) := by decide +kernel
theorem dL_law_585 : decode cL_law 585 = .ok (.iconst 1, 1) := by decide +kernel
theorem dL_law_586 : decode cL_law 586 = .ok (.iadd, 1) := by decide +kernel
theorem dL_law_587 : decode cL_law 587 = .ok (.iaload, 1) := by decide +kernel
theorem dL_law_588 : decode cL_law 588 = .ok (.invokevirtual 78, 3) := by decide +kernel
theorem dL_law_591 : decode cL_law 591 = .ok (.aload_n 2, 1) := by decide +kernel
theorem dL_law_592 : decode cL_law 592 = .ok (.aload_n 0, 1) := by decide +kernel
theorem dL_law_593 : decode cL_law 593 = .ok (.iload_n 3, 1) := by decide +kernel
theorem dL_law_594 : decode cL_law 594 = .ok (.iconst 1, 1) := by decide +kernel
theorem dL_law_595 : decode cL_law 595 = .ok (.iadd, 1) := by decide +kernel
theorem dL_law_596 : decode cL_law 596 = .ok (.iaload, 1) := by decide +kernel
theorem dL_law_597 : decode cL_law 597 = .ok (.invokevirtual 81, 3) := by decide +kernel
theorem dL_law_600 : decode cL_law 600 = .ok (.lcmp, 1) := by decide +kernel
theorem dL_law_601 : decode cL_law 601 = .ok (.ifCond .eq 510, 3) := by decide +kernel
theorem dL_law_604 : decode cL_law 604 = .ok (.iconst 0, 1) := by decide +kernel
theorem dL_law_605 : decode cL_law 605 = .ok (.ireturn, 1) := by decide +kernel
theorem dL_law_606 : decode cL_law 606 = .ok (.aload_n 1, 1) := by decide +kernel
theorem dL_law_607 : decode cL_law 607 = .ok (.invokevirtual 82, 3) := by decide +kernel
theorem dL_law_610 : decode cL_law 610 = .ok (.aload_n 2, 1) := by decide +kernel
theorem dL_law_611 : decode cL_law 611 = .ok (.invokevirtual 85, 3) := by decide +kernel
theorem dL_law_614 : decode cL_law 614 = .ok (.if_icmp .eq 497, 3) := by decide +kernel
theorem dL_law_617 : decode cL_law 617 = .ok (.iconst 0, 1) := by decide +kernel
theorem dL_law_618 : decode cL_law 618 = .ok (.ireturn, 1) := by decide +kernel
theorem dL_law_619 : decode cL_law 619 = .ok (.aload_n 1, 1) := by decide +kernel
theorem dL_law_620 : decode cL_law 620 = .ok (.aload_n 0, 1) := by decide +kernel
theorem dL_law_621 : decode cL_law 621 = .ok (.iload_n 3, 1) := by decide +kernel
theorem dL_law_622 : decode cL_law 622 = .ok (.iconst 1, 1) := by decide +kernel
theorem dL_law_623 : decode cL_law 623 = .ok (.iadd, 1) := by decide +kernel
theorem dL_law_624 : decode cL_law 624 = .ok (.iaload, 1) := by decide +kernel
theorem dL_law_625 : decode cL_law 625 = .ok (.invokevirtual 86, 3) := by decide +kernel
theorem dL_law_628 : decode cL_law 628 = .ok (.aload_n 2, 1) := by decide +kernel
theorem dL_law_629 : decode cL_law 629 = .ok (.aload_n 0, 1) := by decide +kernel
theorem dL_law_630 : decode cL_law 630 = .ok (.iload_n 3, 1) := by decide +kernel
theorem dL_law_631 : decode cL_law 631 = .ok (.iconst 1, 1) := by decide +kernel
theorem dL_law_632 : decode cL_law 632 = .ok (.iadd, 1) := by decide +kernel
theorem dL_law_633 : decode cL_law 633 = .ok (.iaload, 1) := by decide +kernel
theorem dL_law_634 : decode cL_law 634 = .ok (.invokevirtual 89, 3) := by decide +kernel
theorem dL_law_637 : decode cL_law 637 = .ok (.if_icmp .eq 474, 3) := by decide +kernel
theorem dL_law_640 : decode cL_law 640 = .ok (.iconst 0, 1) := by decide +kernel
theorem dL_law_641 : decode cL_law 641 = .ok (.ireturn, 1) := by decide +kernel
theorem dL_law_642 : decode cL_law 642 = .ok (.aload_n 1, 1) := by decide +kernel
theorem dL_law_643 : decode cL_law 643 = .ok (.aload_n 0, 1) := by decide +kernel
theorem dL_law_644 : decode cL_law 644 = .ok (.iload_n 3, 1) := by decide +kernel
theorem dL_law_645 : decode cL_law 645 = .ok (.iconst 1, 1) := by decide +kernel
theorem dL_law_646 : decode cL_law 646 = .ok (.iadd, 1) := by decide +kernel
theorem dL_law_647 : decode cL_law 647 = .ok (.iaload, 1) := by decide +kernel
theorem dL_law_648 : decode cL_law 648 = .ok (.invokevirtual 90, 3) := by decide +kernel
theorem dL_law_651 : decode cL_law 651 = .ok (.aload_n 2, 1) := by decide +kernel
theorem dL_law_652 : decode cL_law 652 = .ok (.aload_n 0, 1) := by decide +kernel
theorem dL_law_653 : decode cL_law 653 = .ok (.iload_n 3, 1) := by decide +kernel
theorem dL_law_654 : decode cL_law 654 = .ok (.iconst 1, 1) := by decide +kernel
theorem dL_law_655 : decode cL_law 655 = .ok (.iadd, 1) := by decide +kernel
theorem dL_law_656 : decode cL_law 656 = .ok (.iaload, 1) := by decide +kernel
theorem dL_law_657 : decode cL_law 657 = .ok (.invokevirtual 93, 3) := by decide +kernel
theorem dL_law_660 : decode cL_law 660 = .ok (.if_icmp .eq 451, 3) := by decide +kernel
theorem dL_law_663 : decode cL_law 663 = .ok (.iconst 0, 1) := by decide +kernel
theorem dL_law_664 : decode cL_law 664 = .ok (.ireturn, 1) := by decide +kernel
theorem dL_law_665 : decode cL_law 665 = .ok (.aload_n 1, 1) := by decide +kernel
theorem dL_law_666 : decode cL_law 666 = .ok (.aload_n 0, 1) := by decide +kernel
theorem dL_law_667 : decode cL_law 667 = .ok (.iload_n 3, 1) := by decide +kernel
theorem dL_law_668 : decode cL_law 668 = .ok (.iconst 1, 1) := by decide +kernel
theorem dL_law_669 : decode cL_law 669 = .ok (.iadd, 1) := by decide +kernel
theorem dL_law_670 : decode cL_law 670 = .ok (.iaload, 1) := by decide +kernel
theorem dL_law_671 : decode cL_law 671 = .ok (.aload_n 0, 1) := by decide +kernel
theorem dL_law_672 : decode cL_law 672 = .ok (.iload_n 3, 1) := by decide +kernel
theorem dL_law_673 : decode cL_law 673 = .ok (.iconst 2, 1) := by decide +kernel
theorem dL_law_674 : decode cL_law 674 = .ok (.iadd, 1) := by decide +kernel
theorem dL_law_675 : decode cL_law 675 = .ok (.iaload, 1) := by decide +kernel
theorem dL_law_676 : decode cL_law 676 = .ok (.invokevirtual 94, 3) := by decide +kernel
theorem dL_law_679 : decode cL_law 679 = .ok (.aload_n 2, 1) := by decide +kernel
theorem dL_law_680 : decode cL_law 680 = .ok (.aload_n 0, 1) := by decide +kernel
theorem dL_law_681 : decode cL_law 681 = .ok (.iload_n 3, 1) := by decide +kernel
theorem dL_law_682 : decode cL_law 682 = .ok (.iconst 1, 1) := by decide +kernel
theorem dL_law_683 : decode cL_law 683 = .ok (.iadd, 1) := by decide +kernel
theorem dL_law_684 : decode cL_law 684 = .ok (.iaload, 1) := by decide +kernel
theorem dL_law_685 : decode cL_law 685 = .ok (.aload_n 0, 1) := by decide +kernel
theorem dL_law_686 : decode cL_law 686 = .ok (.iload_n 3, 1) := by decide +kernel
theorem dL_law_687 : decode cL_law 687 = .ok (.iconst 2, 1) := by decide +kernel
theorem dL_law_688 : decode cL_law 688 = .ok (.iadd, 1) := by decide +kernel
theorem dL_law_689 : decode cL_law 689 = .ok (.iaload, 1) := by decide +kernel
theorem dL_law_690 : decode cL_law 690 = .ok (.invokevirtual 97, 3) := by decide +kernel
theorem dL_law_693 : decode cL_law 693 = .ok (.if_icmp .eq 418, 3) := by decide +kernel
theorem dL_law_696 : decode cL_law 696 = .ok (.iconst 0, 1) := by decide +kernel
theorem dL_law_697 : decode cL_law 697 = .ok (.ireturn, 1) := by decide +kernel
theorem dL_law_698 : decode cL_law 698 = .ok (.aload_n 1, 1) := by decide +kernel
theorem dL_law_699 : decode cL_law 699 = .ok (.invokevirtual 98, 3) := by decide +kernel
theorem dL_law_702 : decode cL_law 702 = .ok (.aload_n 2, 1) := by decide +kernel
theorem dL_law_703 : decode cL_law 703 = .ok (.invokevirtual 101, 3) := by decide +kernel
theorem dL_law_706 : decode cL_law 706 = .ok (.if_icmp .eq 405, 3) := by decide +kernel
theorem dL_law_709 : decode cL_law 709 = .ok (.iconst 0, 1) := by decide +kernel
theorem dL_law_710 : decode cL_law 710 = .ok (.ireturn, 1) := by decide +kernel
theorem dL_law_711 : decode cL_law 711 = .ok (.aload_n 1, 1) := by decide +kernel
theorem dL_law_712 : decode cL_law 712 = .ok (.aload_n 0, 1) := by decide +kernel
theorem dL_law_713 : decode cL_law 713 = .ok (.iload_n 3, 1) := by decide +kernel
theorem dL_law_714 : decode cL_law 714 = .ok (.iconst 1, 1) := by decide +kernel
theorem dL_law_715 : decode cL_law 715 = .ok (.iadd, 1) := by decide +kernel
theorem dL_law_716 : decode cL_law 716 = .ok (.iaload, 1) := by decide +kernel
theorem dL_law_717 : decode cL_law 717 = .ok (.invokevirtual 102, 3) := by decide +kernel
theorem dL_law_720 : decode cL_law 720 = .ok (.aload_n 2, 1) := by decide +kernel
theorem dL_law_721 : decode cL_law 721 = .ok (.aload_n 0, 1) := by decide +kernel
theorem dL_law_722 : decode cL_law 722 = .ok (.iload_n 3, 1) := by decide +kernel
theorem dL_law_723 : decode cL_law 723 = .ok (.iconst 1, 1) := by decide +kernel
theorem dL_law_724 : decode cL_law 724 = .ok (.iadd, 1) := by decide +kernel
theorem dL_law_725 : decode cL_law 725 = .ok (.iaload, 1) := by decide +kernel
theorem dL_law_726 : decode cL_law 726 = .ok (.invokevirtual 105, 3) := by decide +kernel
theorem dL_law_729 : decode cL_law 729 = .ok (.if_icmp .eq 382, 3) := by decide +kernel
theorem dL_law_732 : decode cL_law 732 = .ok (.iconst 0, 1) := by decide +kernel
theorem dL_law_733 : decode cL_law 733 = .ok (.ireturn, 1) := by decide +kernel
theorem dL_law_734 : decode cL_law 734 = .ok (.aload_n 1, 1) := by decide +kernel
theorem dL_law_735 : decode cL_law 735 = .ok (.invokevirtual 106, 3) := by decide +kernel
theorem dL_law_738 : decode cL_law 738 = .ok (.aload_n 2, 1) := by decide +kernel
theorem dL_law_739 : decode cL_law 739 = .ok (.invokevirtual 109, 3) := by decide +kernel
theorem dL_law_742 : decode cL_law 742 = .ok (.if_icmp .eq 369, 3) := by decide +kernel
theorem dL_law_745 : decode cL_law 745 = .ok (.iconst 0, 1) := by decide +kernel
theorem dL_law_746 : decode cL_law 746 = .ok (.ireturn, 1) := by decide +kernel
theorem dL_law_747 : decode cL_law 747 = .ok (.aload_n 1, 1) := by decide +kernel
theorem dL_law_748 : decode cL_law 748 = .ok (.aload_n 0, 1) := by decide +kernel
theorem dL_law_749 : decode cL_law 749 = .ok (.iload_n 3, 1) := by decide +kernel
theorem dL_law_750 : decode cL_law 750 = .ok (.iconst 1, 1) := by decide +kernel
theorem dL_law_751 : decode cL_law 751 = .ok (.iadd, 1) := by decide +kernel
theorem dL_law_752 : decode cL_law 752 = .ok (.iaload, 1) := by decide +kernel
theorem dL_law_753 : decode cL_law 753 = .ok (.invokevirtual 110, 3) := by decide +kernel
theorem dL_law_756 : decode cL_law 756 = .ok (.aload_n 2, 1) := by decide +kernel
theorem dL_law_757 : decode cL_law 757 = .ok (.aload_n 0, 1) := by decide +kernel
theorem dL_law_758 : decode cL_law 758 = .ok (.iload_n 3, 1) := by decide +kernel
theorem dL_law_759 : decode cL_law 759 = .ok (.iconst 1, 1) := by decide +kernel
theorem dL_law_760 : decode cL_law 760 = .ok (.iadd, 1) := by decide +kernel
theorem dL_law_761 : decode cL_law 761 = .ok (.iaload, 1) := by decide +kernel
theorem dL_law_762 : decode cL_law 762 = .ok (.invokevirtual 113, 3) := by decide +kernel
theorem dL_law_765 : decode cL_law 765 = .ok (.if_icmp .eq 346, 3) := by decide +kernel
theorem dL_law_768 : decode cL_law 768 = .ok (.iconst 0, 1) := by decide +kernel
theorem dL_law_769 : decode cL_law 769 = .ok (.ireturn, 1) := by decide +kernel
theorem dL_law_770 : decode cL_law 770 = .ok (.aload_n 1, 1) := by decide +kernel
theorem dL_law_771 : decode cL_law 771 = .ok (.invokevirtual 114, 3) := by decide +kernel
theorem dL_law_774 : decode cL_law 774 = .ok (.aload_n 2, 1) := by decide +kernel
theorem dL_law_775 : decode cL_law 775 = .ok (.invokevirtual 117, 3) := by decide +kernel
theorem dL_law_778 : decode cL_law 778 = .ok (.if_icmp .eq 333, 3) := by decide +kernel
theorem dL_law_781 : decode cL_law 781 = .ok (.iconst 0, 1) := by decide +kernel
theorem dL_law_782 : decode cL_law 782 = .ok (.ireturn, 1) := by decide +kernel
theorem dL_law_783 : decode cL_law 783 = .ok (.aload_n 1, 1) := by decide +kernel
theorem dL_law_784 : decode cL_law 784 = .ok (.aload_n 0, 1) := by decide +kernel
theorem dL_law_785 : decode cL_law 785 = .ok (.iload_n 3, 1) := by decide +kernel
theorem dL_law_786 : decode cL_law 786 = .ok (.iconst 1, 1) := by decide +kernel
theorem dL_law_787 : decode cL_law 787 = .ok (.iadd, 1) := by decide +kernel
theorem dL_law_788 : decode cL_law 788 = .ok (.iaload, 1) := by decide +kernel
theorem dL_law_789 : decode cL_law 789 = .ok (.aload_n 0, 1) := by decide +kernel
theorem dL_law_790 : decode cL_law 790 = .ok (.iload_n 3, 1) := by decide +kernel
theorem dL_law_791 : decode cL_law 791 = .ok (.iconst 2, 1) := by decide +kernel
theorem dL_law_792 : decode cL_law 792 = .ok (.iadd, 1) := by decide +kernel
theorem dL_law_793 : decode cL_law 793 = .ok (.iaload, 1) := by decide +kernel
theorem dL_law_794 : decode cL_law 794 = .ok (.aload_n 0, 1) := by decide +kernel
theorem dL_law_795 : decode cL_law 795 = .ok (.iload_n 3, 1) := by decide +kernel
theorem dL_law_796 : decode cL_law 796 = .ok (.iconst 3, 1) := by decide +kernel
theorem dL_law_797 : decode cL_law 797 = .ok (.iadd, 1) := by decide +kernel
theorem dL_law_798 : decode cL_law 798 = .ok (.iaload, 1) := by decide +kernel
theorem dL_law_799 : decode cL_law 799 = .ok (.invokevirtual 118, 3) := by decide +kernel
theorem dL_law_802 : decode cL_law 802 = .ok (.aload_n 2, 1) := by decide +kernel
theorem dL_law_803 : decode cL_law 803 = .ok (.aload_n 0, 1) := by decide +kernel
theorem dL_law_804 : decode cL_law 804 = .ok (.iload_n 3, 1) := by decide +kernel
theorem dL_law_805 : decode cL_law 805 = .ok (.iconst 1, 1) := by decide +kernel
theorem dL_law_806 : decode cL_law 806 = .ok (.iadd, 1) := by decide +kernel
theorem dL_law_807 : decode cL_law 807 = .ok (.iaload, 1) := by decide +kernel
theorem dL_law_808 : decode cL_law 808 = .ok (.aload_n 0, 1) := by decide +kernel
theorem dL_law_809 : decode cL_law 809 = .ok (.iload_n 3, 1) := by decide +kernel
theorem dL_law_810 : decode cL_law 810 = .ok (.iconst 2, 1) := by decide +kernel
theorem dL_law_811 : decode cL_law 811 = .ok (.iadd, 1) := by decide +kernel
theorem dL_law_812 : decode cL_law 812 = .ok (.iaload, 1) := by decide +kernel
theorem dL_law_813 : decode cL_law 813 = .ok (.aload_n 0, 1) := by decide +kernel
theorem dL_law_814 : decode cL_law 814 = .ok (.iload_n 3, 1) := by decide +kernel
theorem dL_law_815 : decode cL_law 815 = .ok (.iconst 3, 1) := by decide +kernel
theorem dL_law_816 : decode cL_law 816 = .ok (.iadd, 1) := by decide +kernel
theorem dL_law_817 : decode cL_law 817 = .ok (.iaload, 1) := by decide +kernel
theorem dL_law_818 : decode cL_law 818 = .ok (.invokevirtual 122, 3) := by decide +kernel
theorem dL_law_821 : decode cL_law 821 = .ok (.if_icmp .eq 290, 3) := by decide +kernel
theorem dL_law_824 : decode cL_law 824 = .ok (.iconst 0, 1) := by decide +kernel
theorem dL_law_825 : decode cL_law 825 = .ok (.ireturn, 1) := by decide +kernel
theorem dL_law_826 : decode cL_law 826 = .ok (.aload_n 1, 1) := by decide +kernel
theorem dL_law_827 : decode cL_law 827 = .ok (.aload_n 0, 1) := by decide +kernel
theorem dL_law_828 : decode cL_law 828 = .ok (.iload_n 3, 1) := by decide +kernel
theorem dL_law_829 : decode cL_law 829 = .ok (.iconst 1, 1) := by decide +kernel
theorem dL_law_830 : decode cL_law 830 = .ok (.iadd, 1) := by decide +kernel
theorem dL_law_831 : decode cL_law 831 = .ok (.iaload, 1) := by decide +kernel
theorem dL_law_832 : decode cL_law 832 = .ok (.aload_n 0, 1) := by decide +kernel
theorem dL_law_833 : decode cL_law 833 = .ok (.iload_n 3, 1) := by decide +kernel
theorem dL_law_834 : decode cL_law 834 = .ok (.iconst 2, 1) := by decide +kernel
theorem dL_law_835 : decode cL_law 835 = .ok (.iadd, 1) := by decide +kernel
theorem dL_law_836 : decode cL_law 836 = .ok (.iaload, 1) := by decide +kernel
theorem dL_law_837 : decode cL_law 837 = .ok (.aload_n 0, 1) := by decide +kernel
theorem dL_law_838 : decode cL_law 838 = .ok (.iload_n 3, 1) := by decide +kernel
theorem dL_law_839 : decode cL_law 839 = .ok (.iconst 3, 1) := by decide +kernel
theorem dL_law_840 : decode cL_law 840 = .ok (.iadd, 1) := by decide +kernel
theorem dL_law_841 : decode cL_law 841 = .ok (.iaload, 1) := by decide +kernel
theorem dL_law_842 : decode cL_law 842 = .ok (.invokevirtual 123, 3) := by decide +kernel
theorem dL_law_845 : decode cL_law 845 = .ok (.aload_n 2, 1) := by decide +kernel
theorem dL_law_846 : decode cL_law 846 = .ok (.aload_n 0, 1) := by decide +kernel
theorem dL_law_847 : decode cL_law 847 = .ok (.iload_n 3, 1) := by decide +kernel
theorem dL_law_848 : decode cL_law 848 = .ok (.iconst 1, 1) := by decide +kernel
theorem dL_law_849 : decode cL_law 849 = .ok (.iadd, 1) := by decide +kernel
theorem dL_law_850 : decode cL_law 850 = .ok (.iaload, 1) := by decide +kernel
theorem dL_law_851 : decode cL_law 851 = .ok (.aload_n 0, 1) := by decide +kernel
theorem dL_law_852 : decode cL_law 852 = .ok (.iload_n 3, 1) := by decide +kernel
theorem dL_law_853 : decode cL_law 853 = .ok (.iconst 2, 1) := by decide +kernel
theorem dL_law_854 : decode cL_law 854 = .ok (.iadd, 1) := by decide +kernel
theorem dL_law_855 : decode cL_law 855 = .ok (.iaload, 1) := by decide +kernel
theorem dL_law_856 : decode cL_law 856 = .ok (.aload_n 0, 1) := by decide +kernel
theorem dL_law_857 : decode cL_law 857 = .ok (.iload_n 3, 1) := by decide +kernel
theorem dL_law_858 : decode cL_law 858 = .ok (.iconst 3, 1) := by decide +kernel
theorem dL_law_859 : decode cL_law 859 = .ok (.iadd, 1) := by decide +kernel
theorem dL_law_860 : decode cL_law 860 = .ok (.iaload, 1) := by decide +kernel
theorem dL_law_861 : decode cL_law 861 = .ok (.invokevirtual 126, 3) := by decide +kernel
theorem dL_law_864 : decode cL_law 864 = .ok (.if_icmp .eq 247, 3) := by decide +kernel
theorem dL_law_867 : decode cL_law 867 = .ok (.iconst 0, 1) := by decide +kernel
theorem dL_law_868 : decode cL_law 868 = .ok (.ireturn, 1) := by decide +kernel
theorem dL_law_869 : decode cL_law 869 = .ok (.aload_n 1, 1) := by decide +kernel
theorem dL_law_870 : decode cL_law 870 = .ok (.aload_n 0, 1) := by decide +kernel
theorem dL_law_871 : decode cL_law 871 = .ok (.iload_n 3, 1) := by decide +kernel
theorem dL_law_872 : decode cL_law 872 = .ok (.iconst 1, 1) := by decide +kernel
theorem dL_law_873 : decode cL_law 873 = .ok (.iadd, 1) := by decide +kernel
theorem dL_law_874 : decode cL_law 874 = .ok (.iaload, 1) := by decide +kernel
theorem dL_law_875 : decode cL_law 875 = .ok (.invokevirtual 127, 3) := by decide +kernel
theorem dL_law_878 : decode cL_law 878 = .ok (.aload_n 2, 1) := by decide +kernel
theorem dL_law_879 : decode cL_law 879 = .ok (.aload_n 0, 1) := by decide +kernel
theorem dL_law_880 : decode cL_law 880 = .ok (.iload_n 3, 1) := by decide +kernel
theorem dL_law_881 : decode cL_law 881 = .ok (.iconst 1, 1) := by decide +kernel
theorem dL_law_882 : decode cL_law 882 = .ok (.iadd, 1) := by decide +kernel
theorem dL_law_883 : decode cL_law 883 = .ok (.iaload, 1) := by decide +kernel
theorem dL_law_884 : decode cL_law 884 = .ok (.invokevirtual 130, 3) := by decide +kernel
theorem dL_law_887 : decode cL_law 887 = .ok (.if_icmp .eq 224, 3) := by decide +kernel
theorem dL_law_890 : decode cL_law 890 = .ok (.iconst 0, 1) := by decide +kernel
theorem dL_law_891 : decode cL_law 891 = .ok (.ireturn, 1) := by decide +kernel
theorem dL_law_892 : decode cL_law 892 = .ok (.aload_n 1, 1) := by decide +kernel
theorem dL_law_893 : decode cL_law 893 = .ok (.aload_n 0, 1) := by decide +kernel
theorem dL_law_894 : decode cL_law 894 = .ok (.iload_n 3, 1) := by decide +kernel
theorem dL_law_895 : decode cL_law 895 = .ok (.iconst 1, 1) := by decide +kernel
theorem dL_law_896 : decode cL_law 896 = .ok (.iadd, 1) := by decide +kernel
theorem dL_law_897 : decode cL_law 897 = .ok (.iaload, 1) := by decide +kernel
theorem dL_law_898 : decode cL_law 898 = .ok (.aload_n 0, 1) := by decide +kernel
theorem dL_law_899 : decode cL_law 899 = .ok (.iload_n 3, 1) := by decide +kernel
theorem dL_law_900 : decode cL_law 900 = .ok (.iconst 2, 1) := by decide +kernel
theorem dL_law_901 : decode cL_law 901 = .ok (.iadd, 1) := by decide +kernel
theorem dL_law_902 : decode cL_law 902 = .ok (.iaload, 1) := by decide +kernel
theorem dL_law_903 : decode cL_law 903 = .ok (.aload_n 0, 1) := by decide +kernel
theorem dL_law_904 : decode cL_law 904 = .ok (.iload_n 3, 1) := by decide +kernel
theorem dL_law_905 : decode cL_law 905 = .ok (.iconst 3, 1) := by decide +kernel
theorem dL_law_906 : decode cL_law 906 = .ok (.iadd, 1) := by decide +kernel
theorem dL_law_907 : decode cL_law 907 = .ok (.iaload, 1) := by decide +kernel
theorem dL_law_908 : decode cL_law 908 = .ok (.aload_n 0, 1) := by decide +kernel
theorem dL_law_909 : decode cL_law 909 = .ok (.iload_n 3, 1) := by decide +kernel
theorem dL_law_910 : decode cL_law 910 = .ok (.iconst 4, 1) := by decide +kernel
theorem dL_law_911 : decode cL_law 911 = .ok (.iadd, 1) := by decide +kernel
theorem dL_law_912 : decode cL_law 912 = .ok (.iaload, 1) := by decide +kernel
theorem dL_law_913 : decode cL_law 913 = .ok (.invokevirtual 131, 3) := by decide +kernel
theorem dL_law_916 : decode cL_law 916 = .ok (.aload_n 2, 1) := by decide +kernel
theorem dL_law_917 : decode cL_law 917 = .ok (.aload_n 0, 1) := by decide +kernel
theorem dL_law_918 : decode cL_law 918 = .ok (.iload_n 3, 1) := by decide +kernel
theorem dL_law_919 : decode cL_law 919 = .ok (.iconst 1, 1) := by decide +kernel
theorem dL_law_920 : decode cL_law 920 = .ok (.iadd, 1) := by decide +kernel
theorem dL_law_921 : decode cL_law 921 = .ok (.iaload, 1) := by decide +kernel
theorem dL_law_922 : decode cL_law 922 = .ok (.aload_n 0, 1) := by decide +kernel
theorem dL_law_923 : decode cL_law 923 = .ok (.iload_n 3, 1) := by decide +kernel
theorem dL_law_924 : decode cL_law 924 = .ok (.iconst 2, 1) := by decide +kernel
theorem dL_law_925 : decode cL_law 925 = .ok (.iadd, 1) := by decide +kernel
theorem dL_law_926 : decode cL_law 926 = .ok (.iaload, 1) := by decide +kernel
theorem dL_law_927 : decode cL_law 927 = .ok (.aload_n 0, 1) := by decide +kernel
theorem dL_law_928 : decode cL_law 928 = .ok (.iload_n 3, 1) := by decide +kernel
theorem dL_law_929 : decode cL_law 929 = .ok (.iconst 3, 1) := by decide +kernel
theorem dL_law_930 : decode cL_law 930 = .ok (.iadd, 1) := by decide +kernel
theorem dL_law_931 : decode cL_law 931 = .ok (.iaload, 1) := by decide +kernel
theorem dL_law_932 : decode cL_law 932 = .ok (.aload_n 0, 1) := by decide +kernel
theorem dL_law_933 : decode cL_law 933 = .ok (.iload_n 3, 1) := by decide +kernel
theorem dL_law_934 : decode cL_law 934 = .ok (.iconst 4, 1) := by decide +kernel
theorem dL_law_935 : decode cL_law 935 = .ok (.iadd, 1) := by decide +kernel
theorem dL_law_936 : decode cL_law 936 = .ok (.iaload, 1) := by decide +kernel
theorem dL_law_937 : decode cL_law 937 = .ok (.invokevirtual 135, 3) := by decide +kernel
theorem dL_law_940 : decode cL_law 940 = .ok (.if_icmp .eq 171, 3) := by decide +kernel
theorem dL_law_943 : decode cL_law 943 = .ok (.iconst 0, 1) := by decide +kernel
theorem dL_law_944 : decode cL_law 944 = .ok (.ireturn, 1) := by decide +kernel
theorem dL_law_945 : decode cL_law 945 = .ok (.aload_n 1, 1) := by decide +kernel
theorem dL_law_946 : decode cL_law 946 = .ok (.aload_n 0, 1) := by decide +kernel
theorem dL_law_947 : decode cL_law 947 = .ok (.iload_n 3, 1) := by decide +kernel
theorem dL_law_948 : decode cL_law 948 = .ok (.iconst 1, 1) := by decide +kernel
theorem dL_law_949 : decode cL_law 949 = .ok (.iadd, 1) := by decide +kernel
theorem dL_law_950 : decode cL_law 950 = .ok (.iaload, 1) := by decide +kernel
theorem dL_law_951 : decode cL_law 951 = .ok (.aload_n 0, 1) := by decide +kernel
theorem dL_law_952 : decode cL_law 952 = .ok (.iload_n 3, 1) := by decide +kernel
theorem dL_law_953 : decode cL_law 953 = .ok (.iconst 2, 1) := by decide +kernel
theorem dL_law_954 : decode cL_law 954 = .ok (.iadd, 1) := by decide +kernel
theorem dL_law_955 : decode cL_law 955 = .ok (.iaload, 1) := by decide +kernel
theorem dL_law_956 : decode cL_law 956 = .ok (.aload_n 0, 1) := by decide +kernel
theorem dL_law_957 : decode cL_law 957 = .ok (.iload_n 3, 1) := by decide +kernel
theorem dL_law_958 : decode cL_law 958 = .ok (.iconst 3, 1) := by decide +kernel
theorem dL_law_959 : decode cL_law 959 = .ok (.iadd, 1) := by decide +kernel
theorem dL_law_960 : decode cL_law 960 = .ok (.iaload, 1) := by decide +kernel
theorem dL_law_961 : decode cL_law 961 = .ok (.invokevirtual 136, 3) := by decide +kernel
theorem dL_law_964 : decode cL_law 964 = .ok (.aload_n 2, 1) := by decide +kernel
theorem dL_law_965 : decode cL_law 965 = .ok (.aload_n 0, 1) := by decide +kernel
theorem dL_law_966 : decode cL_law 966 = .ok (.iload_n 3, 1) := by decide +kernel
theorem dL_law_967 : decode cL_law 967 = .ok (.iconst 1, 1) := by decide +kernel
theorem dL_law_968 : decode cL_law 968 = .ok (.iadd, 1) := by decide +kernel
theorem dL_law_969 : decode cL_law 969 = .ok (.iaload, 1) := by decide +kernel
theorem dL_law_970 : decode cL_law 970 = .ok (.aload_n 0, 1) := by decide +kernel
theorem dL_law_971 : decode cL_law 971 = .ok (.iload_n 3, 1) := by decide +kernel
theorem dL_law_972 : decode cL_law 972 = .ok (.iconst 2, 1) := by decide +kernel
theorem dL_law_973 : decode cL_law 973 = .ok (.iadd, 1) := by decide +kernel
theorem dL_law_974 : decode cL_law 974 = .ok (.iaload, 1) := by decide +kernel
theorem dL_law_975 : decode cL_law 975 = .ok (.aload_n 0, 1) := by decide +kernel
theorem dL_law_976 : decode cL_law 976 = .ok (.iload_n 3, 1) := by decide +kernel
theorem dL_law_977 : decode cL_law 977 = .ok (.iconst 3, 1) := by decide +kernel
theorem dL_law_978 : decode cL_law 978 = .ok (.iadd, 1) := by decide +kernel
theorem dL_law_979 : decode cL_law 979 = .ok (.iaload, 1) := by decide +kernel
theorem dL_law_980 : decode cL_law 980 = .ok (.invokevirtual 139, 3) := by decide +kernel
theorem dL_law_983 : decode cL_law 983 = .ok (.if_icmp .eq 128, 3) := by decide +kernel
theorem dL_law_986 : decode cL_law 986 = .ok (.iconst 0, 1) := by decide +kernel
theorem dL_law_987 : decode cL_law 987 = .ok (.ireturn, 1) := by decide +kernel
theorem dL_law_988 : decode cL_law 988 = .ok (.aload_n 1, 1) := by decide +kernel
theorem dL_law_989 : decode cL_law 989 = .ok (.aload_n 0, 1) := by decide +kernel
theorem dL_law_990 : decode cL_law 990 = .ok (.iload_n 3, 1) := by decide +kernel
theorem dL_law_991 : decode cL_law 991 = .ok (.iconst 1, 1) := by decide +kernel
theorem dL_law_992 : decode cL_law 992 = .ok (.iadd, 1) := by decide +kernel
theorem dL_law_993 : decode cL_law 993 = .ok (.iaload, 1) := by decide +kernel
theorem dL_law_994 : decode cL_law 994 = .ok (.aload_n 0, 1) := by decide +kernel
theorem dL_law_995 : decode cL_law 995 = .ok (.iload_n 3, 1) := by decide +kernel
theorem dL_law_996 : decode cL_law 996 = .ok (.iconst 2, 1) := by decide +kernel
theorem dL_law_997 : decode cL_law 997 = .ok (.iadd, 1) := by decide +kernel
theorem dL_law_998 : decode cL_law 998 = .ok (.iaload, 1) := by decide +kernel
theorem dL_law_999 : decode cL_law 999 = .ok (.aload_n 0, 1) := by decide +kernel
theorem dL_law_1000 : decode cL_law 1000 = .ok (.iload_n 3, 1) := by decide +kernel
theorem dL_law_1001 : decode cL_law 1001 = .ok (.iconst 3, 1) := by decide +kernel
theorem dL_law_1002 : decode cL_law 1002 = .ok (.iadd, 1) := by decide +kernel
theorem dL_law_1003 : decode cL_law 1003 = .ok (.iaload, 1) := by decide +kernel
theorem dL_law_1004 : decode cL_law 1004 = .ok (.aload_n 0, 1) := by decide +kernel
theorem dL_law_1005 : decode cL_law 1005 = .ok (.iload_n 3, 1) := by decide +kernel
theorem dL_law_1006 : decode cL_law 1006 = .ok (.iconst 4, 1) := by decide +kernel
theorem dL_law_1007 : decode cL_law 1007 = .ok (.iadd, 1) := by decide +kernel
theorem dL_law_1008 : decode cL_law 1008 = .ok (.iaload, 1) := by decide +kernel
theorem dL_law_1009 : decode cL_law 1009 = .ok (.aload_n 0, 1) := by decide +kernel
end
section
theorem dL_law_1010 : decode cL_law 1010 = .ok (.iload_n 3, 1) := by decide +kernel
theorem dL_law_1011 : decode cL_law 1011 = .ok (.iconst 5, 1) := by decide +kernel
theorem dL_law_1012 : decode cL_law 1012 = .ok (.iadd, 1) := by decide +kernel
theorem dL_law_1013 : decode cL_law 1013 = .ok (.iaload, 1) := by decide +kernel
theorem dL_law_1014 : decode cL_law 1014 = .ok (.invokevirtual 140, 3) := by decide +kernel
theorem dL_law_1017 : decode cL_law 1017 = .ok (.aload_n 2, 1) := by decide +kernel
theorem dL_law_1018 : decode cL_law 1018 = .ok (.aload_n 0, 1) := by decide +kernel
theorem dL_law_1019 : decode cL_law 1019 = .ok (.iload_n 3, 1) := by decide +kernel
theorem dL_law_1020 : decode cL_law 1020 = .ok (.iconst 1, 1) := by decide +kernel
theorem dL_law_1021 : decode cL_law 1021 = .ok (.iadd, 1) := by decide +kernel
theorem dL_law_1022 : decode cL_law 1022 = .ok (.iaload, 1) := by decide +kernel
theorem dL_law_1023 : decode cL_law 1023 = .ok (.aload_n 0, 1) := by decide +kernel
theorem dL_law_1024 : decode cL_law 1024 = .ok (.iload_n 3, 1) := by decide +kernel
theorem dL_law_1025 : decode cL_law 1025 = .ok (.iconst 2, 1) := by decide +kernel
theorem dL_law_1026 : decode cL_law 1026 = .ok (.iadd, 1) := by decide +kernel
theorem dL_law_1027 : decode cL_law 1027 = .ok (.iaload, 1) := by decide +kernel
theorem dL_law_1028 : decode cL_law 1028 = .ok (.aload_n 0, 1) := by decide +kernel
theorem dL_law_1029 : decode cL_law 1029 = .ok (.iload_n 3, 1) := by decide +kernel
theorem dL_law_1030 : decode cL_law 1030 = .ok (.iconst 3, 1) := by decide +kernel
theorem dL_law_1031 : decode cL_law 1031 = .ok (.iadd, 1) := by decide +kernel
theorem dL_law_1032 : decode cL_law 1032 = .ok (.iaload, 1) := by decide +kernel
theorem dL_law_1033 : decode cL_law 1033 = .ok (.aload_n 0, 1) := by decide +kernel
theorem dL_law_1034 : decode cL_law 1034 = .ok (.iload_n 3, 1) := by decide +kernel
theorem dL_law_1035 : decode cL_law 1035 = .ok (.iconst 4, 1) := by decide +kernel
theorem dL_law_1036 : decode cL_law 1036 = .ok (.iadd, 1) := by decide +kernel
theorem dL_law_1037 : decode cL_law 1037 = .ok (.iaload, 1) := by decide +kernel
theorem dL_law_1038 : decode cL_law 1038 = .ok (.aload_n 0, 1) := by decide +kernel
theorem dL_law_1039 : decode cL_law 1039 = .ok (.iload_n 3, 1) := by decide +kernel
theorem dL_law_1040 : decode cL_law 1040 = .ok (.iconst 5, 1) := by decide +kernel
theorem dL_law_1041 : decode cL_law 1041 = .ok (.iadd, 1) := by decide +kernel
theorem dL_law_1042 : decode cL_law 1042 = .ok (.iaload, 1) := by decide +kernel
theorem dL_law_1043 : decode cL_law 1043 = .ok (.invokevirtual 144, 3) := by decide +kernel
theorem dL_law_1046 : decode cL_law 1046 = .ok (.if_icmp .eq 65, 3) := by decide +kernel
theorem dL_law_1049 : decode cL_law 1049 = .ok (.iconst 0, 1) := by decide +kernel
theorem dL_law_1050 : decode cL_law 1050 = .ok (.ireturn, 1) := by decide +kernel
theorem dL_law_1051 : decode cL_law 1051 = .ok (.aload_n 1, 1) := by decide +kernel
theorem dL_law_1052 : decode cL_law 1052 = .ok (.aload_n 0, 1) := by decide +kernel
theorem dL_law_1053 : decode cL_law 1053 = .ok (.iload_n 3, 1) := by decide +kernel
theorem dL_law_1054 : decode cL_law 1054 = .ok (.iconst 1, 1) := by decide +kernel
theorem dL_law_1055 : decode cL_law 1055 = .ok (.iadd, 1) := by decide +kernel
theorem dL_law_1056 : decode cL_law 1056 = .ok (.iaload, 1) := by decide +kernel
theorem dL_law_1057 : decode cL_law 1057 = .ok (.invokevirtual 145, 3) := by decide +kernel
theorem dL_law_1060 : decode cL_law 1060 = .ok (.aload_n 2, 1) := by decide +kernel
theorem dL_law_1061 : decode cL_law 1061 = .ok (.aload_n 0, 1) := by decide +kernel
theorem dL_law_1062 : decode cL_law 1062 = .ok (.iload_n 3, 1) := by decide +kernel
theorem dL_law_1063 : decode cL_law 1063 = .ok (.iconst 1, 1) := by decide +kernel
theorem dL_law_1064 : decode cL_law 1064 = .ok (.iadd, 1) := by decide +kernel
theorem dL_law_1065 : decode cL_law 1065 = .ok (.iaload, 1) := by decide +kernel
theorem dL_law_1066 : decode cL_law 1066 = .ok (.invokevirtual 148, 3) := by decide +kernel
theorem dL_law_1069 : decode cL_law 1069 = .ok (.if_icmp .eq 42, 3) := by decide +kernel
theorem dL_law_1072 : decode cL_law 1072 = .ok (.iconst 0, 1) := by decide +kernel
theorem dL_law_1073 : decode cL_law 1073 = .ok (.ireturn, 1) := by decide +kernel
theorem dL_law_1074 : decode cL_law 1074 = .ok (.aload_n 1, 1) := by decide +kernel
theorem dL_law_1075 : decode cL_law 1075 = .ok (.aload_n 0, 1) := by decide +kernel
theorem dL_law_1076 : decode cL_law 1076 = .ok (.iload_n 3, 1) := by decide +kernel
theorem dL_law_1077 : decode cL_law 1077 = .ok (.iconst 1, 1) := by decide +kernel
theorem dL_law_1078 : decode cL_law 1078 = .ok (.iadd, 1) := by decide +kernel
theorem dL_law_1079 : decode cL_law 1079 = .ok (.iaload, 1) := by decide +kernel
theorem dL_law_1080 : decode cL_law 1080 = .ok (.invokevirtual 149, 3) := by decide +kernel
theorem dL_law_1083 : decode cL_law 1083 = .ok (.aload_n 2, 1) := by decide +kernel
theorem dL_law_1084 : decode cL_law 1084 = .ok (.aload_n 0, 1) := by decide +kernel
theorem dL_law_1085 : decode cL_law 1085 = .ok (.iload_n 3, 1) := by decide +kernel
theorem dL_law_1086 : decode cL_law 1086 = .ok (.iconst 1, 1) := by decide +kernel
theorem dL_law_1087 : decode cL_law 1087 = .ok (.iadd, 1) := by decide +kernel
theorem dL_law_1088 : decode cL_law 1088 = .ok (.iaload, 1) := by decide +kernel
theorem dL_law_1089 : decode cL_law 1089 = .ok (.invokevirtual 152, 3) := by decide +kernel
theorem dL_law_1092 : decode cL_law 1092 = .ok (.if_icmp .eq 19, 3) := by decide +kernel
theorem dL_law_1095 : decode cL_law 1095 = .ok (.iconst 0, 1) := by decide +kernel
theorem dL_law_1096 : decode cL_law 1096 = .ok (.ireturn, 1) := by decide +kernel
theorem dL_law_1097 : decode cL_law 1097 = .ok (.aload_n 1, 1) := by decide +kernel
theorem dL_law_1098 : decode cL_law 1098 = .ok (.invokevirtual 153, 3) := by decide +kernel
theorem dL_law_1101 : decode cL_law 1101 = .ok (.aload_n 2, 1) := by decide +kernel
theorem dL_law_1102 : decode cL_law 1102 = .ok (.invokevirtual 157, 3) := by decide +kernel
theorem dL_law_1105 : decode cL_law 1105 = .ok (.lcmp, 1) := by decide +kernel
theorem dL_law_1106 : decode cL_law 1106 = .ok (.ifCond .eq 5, 3) := by decide +kernel
theorem dL_law_1109 : decode cL_law 1109 = .ok (.iconst 0, 1) := by decide +kernel
theorem dL_law_1110 : decode cL_law 1110 = .ok (.ireturn, 1) := by decide +kernel
theorem dL_law_1111 : decode cL_law 1111 = .ok (.iinc 3 6, 3) := by decide +kernel
theorem dL_law_1114 : decode cL_law 1114 = .ok (.goto (-1096), 3) := by decide +kernel
theorem dL_law_1117 : decode cL_law 1117 = .ok (.iconst 1, 1) := by decide +kernel
theorem dL_law_1118 : decode cL_law 1118 = .ok (.ireturn, 1) := by decide +kernel
end
section
/-! LOCAL WORLDS: a list of cells; a reference is a place in the list; where the cells lie is told by ad -/
abbrev AE : Type := (Nat × ((Nat → Int32) ⊕ (Nat → Int64) ⊕ List (Option Nat))) ⊕ (Nat × List Value)
abbrev zI (n : Nat) (f : Nat → Int32) : AE := .inl (n, .inl f)
abbrev zL (n : Nat) (f : Nat → Int64) : AE := .inl (n, .inr (.inl f))
abbrev zR (n : Nat) (l : List (Option Nat)) : AE := .inl (n, .inr (.inr l))
abbrev zO (c : Nat) (fs : List Value) : AE := .inr (c, fs)
def sid : Nat := 1000000
def gv (ad : Nat → Nat) : Value → Value
  | .ref k => .ref (ad k)
  | .int x => .int x
  | .long x => .long x
  | .null => .null
  | .float x => .float x
  | .double x => .double x
  | .retAddr x => .retAddr x
theorem gv_cat (ad : Nat → Nat) (v : Value) : (gv ad v).category = v.category := by cases v <;> rfl
theorem gv_gv (ad r : Nat → Nat) (v : Value) : gv ad (gv r v) = gv (fun k => ad (r k)) v := by cases v <;> rfl
def ge (ad tC : Nat → Nat) : AE → va_E
  | .inl (n, .inl f) => .inl (tC 0, n, .inl f)
  | .inl (n, .inr (.inl f)) => .inl (tC 1, n, .inr (.inl f))
  | .inl (n, .inr (.inr l)) => .inl (tC 2, n, .inr (.inr (.inr (.inr (fun i => (l.getD i none).map ad)))))
  | .inr (c, fs) => .inr (c, fs.map (gv ad))
def rn (r : Nat → Nat) : AE → AE
  | .inl (n, .inl f) => .inl (n, .inl f)
  | .inl (n, .inr (.inl f)) => .inl (n, .inr (.inl f))
  | .inl (n, .inr (.inr l)) => .inl (n, .inr (.inr (l.map (Option.map r))))
  | .inr (c, fs) => .inr (c, fs.map (gv r))
theorem ge_rn (ad tC r : Nat → Nat) (e : AE) : ge ad tC (rn r e) = ge (fun k => ad (r k)) tC e := by
  match e with
  | .inl (n, .inl f) => rfl
  | .inl (n, .inr (.inl f)) => rfl
  | .inl (n, .inr (.inr l)) =>
    simp only [rn, ge]
    congr 7
    funext i
    simp only [List.getD_eq_getElem?_getD, List.getElem?_map]
    cases l[i]? with
    | none => rfl
    | some o => cases o <;> rfl
  | .inr (c, fs) =>
    simp only [rn, ge, List.map_map]
    congr 3
    funext v
    exact gv_gv ad r v
def gw (ad tC : Nat → Nat) (w : List AE) : va_W := w.mapIdx (fun k e => (ad k, ge ad tC e))
theorem gw_at {ad tC : Nat → Nat} {w : List AE} {k : Nat} {e : AE} (h : w[k]? = some e) : (gw ad tC w)[k]? = some (ad k, ge ad tC e) := by
  simp [gw, List.getElem?_mapIdx, h]
theorem gw_inv {ad tC : Nat → Nat} {w : List AE} {k : Nat} {q : Nat × va_E} (h : (gw ad tC w)[k]? = some q) : ∃ e, w[k]? = some e ∧ q = (ad k, ge ad tC e) := by
  simp only [gw, List.getElem?_mapIdx, Option.map_eq_some_iff] at h
  obtain ⟨e, h1, h2⟩ := h
  exact ⟨e, h1, h2.symm⟩
theorem gw_len (ad tC : Nat → Nat) (w : List AE) : (gw ad tC w).length = w.length := by simp [gw]
theorem gw_set (ad tC : Nat → Nat) (w : List AE) (k : Nat) (e : AE) : (gw ad tC w).set k (ad k, ge ad tC e) = gw ad tC (w.set k e) := by
  apply List.ext_getElem?
  intro j
  simp only [gw, List.getElem?_set, List.getElem?_mapIdx, List.length_mapIdx]
  by_cases h : k = j
  · subst h
    simp only [if_true]
    by_cases h2 : k < w.length
    · simp [h2]
    · simp [h2]
  · simp [h]
/-- the addresses are apart, and of a kind -/
def DA (A : Nat → Prop) (ad : Nat → Nat) (n : Nat) : Prop := (∀ i j, i < n → j < n → ad i = ad j → i = j) ∧ ∀ k, k < n → A (ad k)
theorem gw_D {A : Nat → Prop} {ad tC : Nat → Nat} {w : List AE} : va_D A (gw ad tC w) ↔ DA A ad w.length := by
  constructor
  · intro h
    refine ⟨fun i j hi hj e => ?_, fun k hk => ?_⟩
    · exact h.1 i j _ _ (gw_at (List.getElem?_eq_getElem hi)) (gw_at (List.getElem?_eq_getElem hj)) e
    · exact h.2 k _ (gw_at (List.getElem?_eq_getElem hk))
  · intro h
    refine ⟨fun i j p q hp hq e => ?_, fun k q hq => ?_⟩
    · obtain ⟨e1, h1, rfl⟩ := gw_inv hp
      obtain ⟨e2, h2, rfl⟩ := gw_inv hq
      exact h.1 i j (List.getElem?_eq_some_iff.mp h1).1 (List.getElem?_eq_some_iff.mp h2).1 e
    · obtain ⟨e1, h1, rfl⟩ := gw_inv hq
      exact h.2 k (List.getElem?_eq_some_iff.mp h1).1
theorem gw_P {D : va_G} {ad tC : Nat → Nat} {w : List AE} {H : Heap} : va_P D vwCl (gw ad tC w) H ↔ ∀ k e, w[k]? = some e → va_at D vwCl (ad k, ge ad tC e) H := by
  constructor
  · intro h k e he
    exact h k _ (gw_at he)
  · intro h k q hq
    obtain ⟨e, h1, rfl⟩ := gw_inv hq
    exact h k e h1
/-! locals -/
def gl (ad : Nat → Nat) : Nat → List (Option Value) → List (Nat × Value)
  | _, [] => []
  | i, some v :: t => (i, gv ad v) :: gl ad (i + 1) t
  | i, none :: t => gl ad (i + 1) t
theorem gl_mem {ad : Nat → Nat} : ∀ {L : List (Option Value)} {i : Nat} {q : Nat × Value}, q ∈ gl ad i L ↔ ∃ k v, L[k]? = some (some v) ∧ q = (i + k, gv ad v)
  | [], i, q => by simp [gl]
  | some a :: t, i, q => by
    rw [gl, List.mem_cons, gl_mem (L := t)]
    constructor
    · rintro (rfl | ⟨k, v, h1, rfl⟩)
      · exact ⟨0, a, rfl, rfl⟩
      · exact ⟨k + 1, v, by simpa using h1, by rw [Nat.add_right_comm]; rfl⟩
    · rintro ⟨k, v, h1, rfl⟩
      cases k with
      | zero => left; simp at h1; rw [h1]; rfl
      | succ k => right; exact ⟨k, v, by simpa using h1, by rw [Nat.add_right_comm]; rfl⟩
  | none :: t, i, q => by
    rw [gl, gl_mem (L := t)]
    constructor
    · rintro ⟨k, v, h1, rfl⟩
      exact ⟨k + 1, v, by simpa using h1, by rw [Nat.add_right_comm]; rfl⟩
    · rintro ⟨k, v, h1, rfl⟩
      cases k with
      | zero => simp at h1
      | succ k => exact ⟨k, v, by simpa using h1, by rw [Nat.add_right_comm]; rfl⟩
theorem lv_mono {ls : Array Slot} {nL : Nat} {l l' : List (Nat × Value)} (h : lv_has ls nL l) (hs : ∀ q ∈ l', q ∈ l) : lv_has ls nL l' := ⟨h.1, h.2.1, fun q hq => h.2.2 q (hs q hq)⟩
def lh (ls : Array Slot) (nL : Nat) (ad : Nat → Nat) (L : List (Option Value)) : Prop := lv_has ls nL (gl ad 0 L)
theorem lh_at {ls : Array Slot} {nL : Nat} {ad : Nat → Nat} {L : List (Option Value)} (h : lh ls nL ad L) {i : Nat} {v : Value} (hi : L[i]? = some (some v)) : ls[i]? = some (.val (gv ad v)) := by
  have := h.2.2 (i, gv ad v) (gl_mem.mpr ⟨i, v, hi, by rw [Nat.zero_add]⟩)
  exact this
def c2 : Option Value → Option Value
  | some (.long _) => none
  | some (.double _) => none
  | a => a
theorem c2_some {a : Option Value} {v : Value} (h : c2 a = some v) : a = some v ∧ v.category = 1 := by
  match a with
  | none => simp [c2] at h
  | some (.long x) => simp [c2] at h
  | some (.double x) => simp [c2] at h
  | some (.int x) => simp [c2] at h; subst h; exact ⟨rfl, rfl⟩
  | some (.ref x) => simp [c2] at h; subst h; exact ⟨rfl, rfl⟩
  | some .null => simp [c2] at h; subst h; exact ⟨rfl, rfl⟩
  | some (.float x) => simp [c2] at h; subst h; exact ⟨rfl, rfl⟩
  | some (.retAddr x) => simp [c2] at h; subst h; exact ⟨rfl, rfl⟩
theorem nbf {a b : Nat} (h : a ≠ b) : Nat.beq a b = false := by
  cases hh : Nat.beq a b with
  | false => rfl
  | true => exact absurd (Nat.eq_of_beq_eq_true hh) h
/-- a value of one word comes to place i -/
def s1 (i : Nat) (v : Value) : Nat → List (Option Value) → List (Option Value)
  | _, [] => []
  | j, a :: t => (bif Nat.beq j i then some v else bif Nat.beq (j + 1) i then c2 a else a) :: s1 i v (j + 1) t
/-- a value of two words -/
def s2 (i : Nat) (v : Value) : Nat → List (Option Value) → List (Option Value)
  | _, [] => []
  | j, a :: t => (bif Nat.beq j i then some v else bif Nat.beq j (i + 1) then none else bif Nat.beq (j + 1) i then c2 a else a) :: s2 i v (j + 1) t
theorem s1_get {i : Nat} {v : Value} : ∀ {L : List (Option Value)} {j k : Nat} {u : Value}, (s1 i v j L)[k]? = some (some u) → (j + k = i ∧ u = v) ∨ (j + k ≠ i ∧ L[k]? = some (some u) ∧ ¬ (j + k + 1 = i ∧ u.category = 2))
  | [], j, k, u, h => by simp [s1] at h
  | a :: t, j, 0, u, h => by
    simp only [s1, List.getElem?_cons_zero, Option.some.injEq] at h
    by_cases h1 : j = i
    · subst h1; simp at h; exact Or.inl ⟨rfl, h.symm⟩
    · have hb : Nat.beq j i = false := nbf h1
      rw [hb] at h
      by_cases h2 : j + 1 = i
      · subst h2
        simp at h
        obtain ⟨rfl, h4⟩ := c2_some h
        exact Or.inr ⟨by omega, rfl, fun q => by omega⟩
      · have hb2 : Nat.beq (j + 1) i = false := nbf h2
        rw [hb2] at h
        simp at h
        exact Or.inr ⟨by omega, by simp [h], fun q => by omega⟩
  | a :: t, j, k + 1, u, h => by
    simp only [s1, List.getElem?_cons_succ] at h
    have h9 := s1_get h
    rw [show j + (k + 1) = j + 1 + k by omega]
    simpa using h9
theorem s2_get {i : Nat} {v : Value} : ∀ {L : List (Option Value)} {j k : Nat} {u : Value}, (s2 i v j L)[k]? = some (some u) → (j + k = i ∧ u = v) ∨ (j + k ≠ i ∧ j + k ≠ i + 1 ∧ L[k]? = some (some u) ∧ ¬ (j + k + 1 = i ∧ u.category = 2))
  | [], j, k, u, h => by simp [s2] at h
  | a :: t, j, 0, u, h => by
    simp only [s2, List.getElem?_cons_zero, Option.some.injEq] at h
    by_cases h1 : j = i
    · subst h1; simp at h; exact Or.inl ⟨rfl, h.symm⟩
    · have hb : Nat.beq j i = false := nbf h1
      rw [hb] at h
      by_cases h3 : j = i + 1
      · subst h3; simp at h
      · have hb3 : Nat.beq j (i + 1) = false := nbf h3
        rw [hb3] at h
        by_cases h2 : j + 1 = i
        · subst h2
          simp at h
          obtain ⟨rfl, h4⟩ := c2_some h
          exact Or.inr ⟨by omega, by omega, rfl, fun q => by omega⟩
        · have hb2 : Nat.beq (j + 1) i = false := nbf h2
          rw [hb2] at h
          simp at h
          exact Or.inr ⟨by omega, by omega, by simp [h], fun q => by omega⟩
  | a :: t, j, k + 1, u, h => by
    simp only [s2, List.getElem?_cons_succ] at h
    have h9 := s2_get h
    rw [show j + (k + 1) = j + 1 + k by omega]
    simpa using h9
theorem lh_s1 {ls : Array Slot} {nL : Nat} {ad : Nat → Nat} {L : List (Option Value)} {i : Nat} {v : Value} (h : lv_has ls nL ((i, gv ad v) :: (gl ad 0 L).filter (fun q => !(q.1 == i) && !(q.1 + 1 == i && q.2.category == 2)))) : lh ls nL ad (s1 i v 0 L) := by
  refine lv_mono h fun q hq => ?_
  obtain ⟨k, u, h1, rfl⟩ := gl_mem.mp hq
  rcases s1_get h1 with ⟨h2, rfl⟩ | ⟨h2, h3, h4⟩
  · rw [h2]; exact List.mem_cons_self
  · refine List.mem_cons_of_mem _ (List.mem_filter.mpr ⟨gl_mem.mpr ⟨k, u, h3, rfl⟩, ?_⟩)
    simp only [gv_cat]
    rw [Nat.zero_add] at h2 h4 ⊢
    by_cases h5 : k + 1 = i
    · have h6 : ¬ u.category = 2 := fun q => h4 ⟨h5, q⟩
      simp [h2, h6]
    · simp [h2, h5]
theorem lh_s2 {ls : Array Slot} {nL : Nat} {ad : Nat → Nat} {L : List (Option Value)} {i : Nat} {v : Value} (h : lv_has ls nL ((i, gv ad v) :: (gl ad 0 L).filter (fun q => !(q.1 == i) && (!(q.1 == i + 1) && !(q.1 + 1 == i && q.2.category == 2))))) : lh ls nL ad (s2 i v 0 L) := by
  refine lv_mono h fun q hq => ?_
  obtain ⟨k, u, h1, rfl⟩ := gl_mem.mp hq
  rcases s2_get h1 with ⟨h2, rfl⟩ | ⟨h2, h7, h3, h4⟩
  · rw [h2]; exact List.mem_cons_self
  · refine List.mem_cons_of_mem _ (List.mem_filter.mpr ⟨gl_mem.mpr ⟨k, u, h3, rfl⟩, ?_⟩)
    simp only [gv_cat]
    rw [Nat.zero_add] at h2 h4 h7 ⊢
    by_cases h5 : k + 1 = i
    · have h6 : ¬ u.category = 2 := fun q => h4 ⟨h5, q⟩
      simp [h2, h6, h7]
    · simp [h2, h5, h7]
/-! how a method begins -/
def eL : List Value → List (Option Value)
  | [] => []
  | .long x :: t => some (.long x) :: none :: eL t
  | .double x :: t => some (.double x) :: none :: eL t
  | v :: t => some v :: eL t
def pL : Nat → List (Option Value) → List (Option Value)
  | 0, _ => []
  | n + 1, [] => none :: pL n []
  | n + 1, a :: t => a :: pL n t
theorem pL_nil {n k : Nat} {v : Value} : (pL n [])[k]? = some (some v) → False := by
  induction n generalizing k with
  | zero => simp [pL]
  | succ n ih => cases k with
    | zero => simp [pL]
    | succ k => simp only [pL, List.getElem?_cons_succ]; exact ih
theorem pL_get : ∀ {n : Nat} {L : List (Option Value)} {k : Nat} {v : Value}, (pL n L)[k]? = some (some v) → L[k]? = some (some v)
  | 0, L, k, v, h => by simp [pL] at h
  | n + 1, [], k, v, h => (pL_nil (n := n + 1) h).elim
  | n + 1, a :: t, 0, v, h => by simpa [pL] using h
  | n + 1, a :: t, k + 1, v, h => by
    simp only [pL, List.getElem?_cons_succ] at h ⊢
    exact pL_get h
theorem eL_1 {v : Value} {t : List Value} (h : v.category = 1) : eL (v :: t) = some v :: eL t := by cases v <;> first | rfl | (simp [Value.category] at h)
theorem eL_2 {v : Value} {t : List Value} (h : v.category = 2) : eL (v :: t) = some v :: none :: eL t := by cases v <;> first | rfl | (simp [Value.category] at h)
theorem eL_args {ad : Nat → Nat} : ∀ {av : List Value} {k i : Nat} {v : Value}, (eL av)[k]? = some (some v) → (i + k, gv ad v) ∈ lv_args i (av.map (gv ad))
  | [], k, i, v, h => by simp [eL] at h
  | a :: t, k, i, v, h => by
    rcases lv_cat a with hc | hc
    · rw [eL_1 hc] at h
      simp only [List.map_cons, lv_args, gv_cat, hc]
      cases k with
      | zero => simp at h; subst h; exact List.mem_cons_self
      | succ k =>
        have h2 := eL_args (ad := ad) (i := i + 1) (by simpa using h)
        rw [Nat.add_right_comm] at h2
        exact List.mem_cons_of_mem _ h2
    · rw [eL_2 hc] at h
      simp only [List.map_cons, lv_args, gv_cat, hc]
      match k, h with
      | 0, h => simp at h; subst h; exact List.mem_cons_self
      | 1, h => simp at h
      | k + 2, h =>
        have h2 := eL_args (ad := ad) (i := i + 2) (by simpa using h)
        rw [show i + 2 + k = i + (k + 2) by omega] at h2
        exact List.mem_cons_of_mem _ h2
theorem eL_len (ad : Nat → Nat) : ∀ av : List Value, (lg_sl (av.map (gv ad))).length = (eL av).length
  | [] => rfl
  | a :: t => by
    have h := eL_len ad t
    rcases lv_cat a with hc | hc
    · rw [eL_1 hc]
      simp only [lg_sl, List.map_cons, List.flatMap_cons, gv_cat, hc] at h ⊢
      simpa using h
    · rw [eL_2 hc]
      simp only [lg_sl, List.map_cons, List.flatMap_cons, gv_cat, hc] at h ⊢
      simp at h ⊢
      omega
end
section
def nsW : List Cond := [.methodLinkNest RX11 23 yX2_init "ApproverWins", .methodLinkNest RX11 30 yX4_init "ApproverWins", .methodLinkNest RX11 37 yX9_init "ApproverWins", .methodLinkNest RX11 44 yX0_init "ApproverWins", .methodLinkNest RX11 54 yX5_init "ApproverWins", .methodLinkNest RX11 61 yX7_init "ApproverWins", .methodLinkNest RX11 76 yX6_init "ApproverWins"]
theorem nsW_on : ∀ w ∈ nsW, w.onTables = true := by decide +kernel
theorem nsW_warm {s U : State} (hW : s.WarmedH U.vm) : ∀ w ∈ nsW, va_Nw w s → va_Nw w U := by
  intro w hw h
  simp only [nsW, List.mem_cons, List.not_mem_nil, or_false] at hw
  rcases hw with rfl | rfl | rfl | rfl | rfl | rfl | rfl <;> exact va_Nw.warmM hW h
/-- what the tables say of the classes and of the arrays -/
def KK (D : va_G) (tC : Nat → Nat) (U : State) : Prop := va_K D vwCl [(tC 0, .int), (tC 1, .long), (tC 2, .object RX6)] U ∧ (∀ w ∈ nsW, va_Nw w U) ∧ va_AO RX6 U
theorem KK.warm {D : va_G} {tC : Nat → Nat} {s U : State} (hW : s.WarmedH U.vm) (h : KK D tC s) : KK D tC U := ⟨va_K.moved hW.alike h.1, fun w hw => nsW_warm hW w hw (h.2.1 w hw), va_AO.moved hW.alike h.2.2⟩
theorem KK.blind {D : va_G} {tC : Nat → Nat} {U : State} {g : JFrame} {mk : MethodId} {a : Array Value} (h : KK D tC U) : KK D tC (U.calling g mk a) := ⟨va_K.moved (u := U) (U := U.calling g mk a) (Vm.Alike.refl U.vm) h.1, fun w hw => va_Nw.same (nsW_on w hw) (rfl : U.vm = (U.calling g mk a).vm) (h.2.1 w hw), va_AO.moved (u := U) (U := U.calling g mk a) (Vm.Alike.refl U.vm) h.2.2⟩
/-- a running method -/
def Cx (M : MD) (p : Program) (s : State) (m : MethodId) (args : Array Value) (meth : Method) (c : Code) : Prop :=
  p.tables.exec = Jvm.exec ∧ c.code = M.2.1 ∧ c.maxLocals = M.2.2.1 ∧ meth.sig.returnType = M.2.2.2.1 ∧ s.vm.findClass M.1.cls = some m.cls ∧ (∀ w ∈ tb, w.before args s = true) ∧ meth.locks = false ∧ meth.name = M.1.name
def Rl (D : va_G) (tC : Nat → Nat) (A : Nat → Prop) (n0 : Nat) (ad0 ad : Nat → Nat) (w : List AE) (s : State) (H : Heap) (locs : List Loc) : Prop :=
  va_P D vwCl (gw ad tC w) H ∧ va_D A (gw ad tC w) ∧ va_S A s.heap H locs ∧ (∀ q, s.heap.size ≤ q → A q) ∧ n0 ≤ w.length ∧ (∀ k, k < n0 → ad k = ad0 k) ∧ (w.length = n0 → ad = ad0) ∧ ad sid = ad0 sid
/-- a return that fits -/
def rti (M : MD) (pc : Nat) : Option Value → Prop
  | none => decode M.2.1 pc = .ok (.return_, 1) ∧ M.2.2.2.1 = none
  | some (.int x) => decode M.2.1 pc = .ok (.ireturn, 1) ∧ ∃ ty, M.2.2.2.1 = some ty ∧ narrow ty (.int x) = .int x
  | some (.long _) => decode M.2.1 pc = .ok (.lreturn, 1) ∧ M.2.2.2.1 = some .long
  | some (.ref _) => decode M.2.1 pc = .ok (.areturn, 1) ∧ ∃ n, M.2.2.2.1 = some (.object n)
  | _ => False
/-- what comes of a return -/
def Rt (M : MD) (p : Program) (l : Launch) (e : Env) (s : State) (m : MethodId) (args : Array Value) (below : List Frame) (meth : Method) (c : Code) (D : va_G) (tC : Nat → Nat) (A : Nat → Prop) (n0 : Nat) (ad0 : Nat → Nat) (Q : Option Value → List AE → Prop) (Z : State → Prop) : Prop :=
  ∀ (v : Option Value) (w : List AE) (ad : Nat → Nat) (H : Heap) (locs : List Loc) (ls : Array Slot) (pc : Nat), Q v w → Rl D tC A n0 ad0 ad w s H locs → rti M pc v →
    W p l e M.2.2.2.2 s m args below meth c H locs M.2.2.2.2.cells M.2.2.2.2.slots Z (F0 m pc ls (v.map (gv ad)).toList)
/-- from this frame, with this world, the method comes to a return with Q -/
def Go (X : (Nat → Nat) → State → (Nat → Prop) → Prop) (M : MD) (Q : Option Value → List AE → Prop) (n0 cn sn pc : Nat) (L : List (Option Value)) (st : List Value) (w : List AE) : Prop :=
  ∀ (p : Program) (l : Launch) (e : Env) (s : State) (m : MethodId) (args : Array Value) (below : List Frame) (meth : Method) (c : Code) (D : va_G) (ad0 ad tC : Nat → Nat) (A : Nat → Prop) (H : Heap) (locs : List Loc) (ls : Array Slot) (Z : State → Prop),
    Cx M p s m args meth c → KK D tC s → X ad0 s A → Rl D tC A n0 ad0 ad w s H locs → lh ls M.2.2.1 ad L → Rt M p l e s m args below meth c D tC A n0 ad0 Q Z →
    W p l e M.2.2.2.2 s m args below meth c H locs cn sn Z (F0 m pc ls (st.map (gv ad)))
def adx (n n1 : Nat) (ad ad1 : Nat → Nat) : Prop := n ≤ n1 ∧ (∀ k, k < n → ad1 k = ad k) ∧ (n1 = n → ad1 = ad)
/-- a method's contract: called with av in the world w it comes back, with Q of its answer and of the world -/
def Ev (M : MD) (av : List Value) (w : List AE) (Q : Option Value → List AE → Prop) : Prop :=
  ∀ (l : Launch) (D : va_G) (tC ad : Nat → Nat) (sz : Nat),
    Met l M.1 (wCode M :: tb) M.2.2.2.2 (va_Pc (av.map (gv ad)) (fun U => U.heap.size = sz ∧ va_P D vwCl (gw ad tC w) U.heap ∧ KK D tC U ∧ va_D (fun _ => True) (gw ad tC w)))
      (fun _ st oc t => (∃ (v : Option Value) (w1 : List AE) (ad1 : Nat → Nat), oc = .returned (v.map (gv ad1)) ∧ Q v w1 ∧ adx w.length w1.length ad ad1 ∧ va_P D vwCl (gw ad1 tC w1) t.heap ∧ va_D (va_A (gw ad tC w) sz) (gw ad1 tC w1)) ∧ va_F (va_A (gw ad tC w) sz) st t)
      M.2.2.2.2.cells M.2.2.2.2.slots (va_A (gw ad tC w) sz)
abbrev X0 : (Nat → Nat) → State → (Nat → Prop) → Prop := fun _ _ _ => True
set_option maxHeartbeats 1000000 in
theorem ev_of {M : MD} {n : Nat} (hM : CB M n) {av : List Value} {w : List AE} {Q : Option Value → List AE → Prop} (L : List (Option Value)) (hlen : (eL av).length ≤ M.2.2.1) (hL : pL M.2.2.1 (eL av) = L) (hg : Go X0 M Q w.length 0 0 0 L [] w) : Ev M av w Q := by
  intro l D tC ad sz
  refine Met.ofW (cc := M.2.1) (maxL := M.2.2.1) (ret := M.2.2.2.1) hM.1 rfl ?_
  intro p e s m args below meth c s₁ B hml hv
  obtain ⟨rfl, hsz, hP, hK, hD0⟩ := hv
  have hts := atoms_spec (ws := wCode M :: tb) B.pre
  have hown : s.vm.findClass M.1.cls = some m.cls := findClass_of_methodNamed B.named
  have hlocks := B.notSynchronized
  subst hsz
  have hD := hD0.self (sz := s.heap.size)
  have hl := lv_entry (av.map (gv ad)) (n := M.2.2.1) (by rw [eL_len]; exact hlen)
  rw [lg_entry_eq]
  generalize (lg_sl (av.map (gv ad)) ++ List.replicate (M.2.2.1 - (lg_sl (av.map (gv ad))).length) Slot.unset).toArray = ls at hl ⊢
  refine hg p l e s m _ below meth c D ad ad tC (va_A (gw ad tC w) s.heap.size) s.heap [] ls _ ⟨B.exec, B.bytes, hml, B.returns, hown, fun w h => hts w (List.mem_cons_of_mem _ h), hlocks, (name_of_methodNamed B.named B.method).1⟩ hK trivial ⟨hP, hD, va_S.rf, fun q h => Or.inr h, Nat.le_refl _, fun _ _ => rfl, fun _ => rfl, rfl⟩ (lv_mono hl fun q hq => ?_) ?_
  · obtain ⟨k, v, h1, rfl⟩ := gl_mem.mp hq
    rw [← hL] at h1
    exact eL_args (pL_get h1)
  · intro v w' ad' H' locs' ls' pc' hQ hR hr
    have post : ∀ t : State, t.heap = H' → ((∃ (v1 : Option Value) (w1 : List AE) (ad1 : Nat → Nat), Outcome.returned (v.map (gv ad')) = .returned (v1.map (gv ad1)) ∧ Q v1 w1 ∧ adx w.length w1.length ad ad1 ∧ va_P D vwCl (gw ad1 tC w1) t.heap ∧ va_D (va_A (gw ad tC w) s.heap.size) (gw ad1 tC w1)) ∧ va_F (va_A (gw ad tC w) s.heap.size) s t) := fun t ht =>
      ⟨⟨v, w', ad', rfl, hQ, ⟨hR.2.2.2.2.1, hR.2.2.2.2.2.1, hR.2.2.2.2.2.2.1⟩, by rw [ht]; exact hR.1, hR.2.1⟩, hR.2.2.1.F ht⟩
    match v, hr, post with
    | none, hr, post => exact W.vret B.exec B.bytes (B.returns.trans hr.2) (fun t ht _ => post t ht) hR.2.2.1.2.2 hr.1 hlocks
    | some (.int x), hr, post =>
      obtain ⟨h1, ty, h2, h3⟩ := hr
      exact W.zret B.exec B.bytes (B.returns.trans h2) h3 (fun t ht _ => post t ht) hR.2.2.1.2.2 h1 hlocks
    | some (.long x), hr, post => exact W.lret B.exec B.bytes (B.returns.trans hr.2) (fun t ht _ => post t ht) hR.2.2.1.2.2 hr.1 hlocks
    | some (.ref x), hr, post =>
      obtain ⟨h1, n, h2⟩ := hr
      exact W.aret B.exec B.bytes (B.returns.trans h2) (Or.inl ⟨n, rfl⟩) (Or.inr ⟨_, rfl⟩) (fun t ht _ => post t ht) hR.2.2.1.2.2 h1 hlocks
    | some .null, hr, _ => exact hr.elim
    | some (.float x), hr, _ => exact hr.elim
    | some (.double x), hr, _ => exact hr.elim
    | some (.retAddr x), hr, _ => exact hr.elim
section Rows
variable {X : (Nat → Nat) → State → (Nat → Prop) → Prop} {M : MD} {Q : Option Value → List AE → Prop} {n0 cn sn pc : Nat} {L : List (Option Value)} {st : List Value} {w : List AE}
theorem go_iconst {n : Int} (v : Int32) (hd : decode M.2.1 pc = .ok (.iconst n, 1)) (hv : Int32.ofInt n = v) (k : Go X M Q n0 cn sn (pc + 1) L (.int v :: st) w) : Go X M Q n0 cn sn pc L st w := by
  intro p l e s m args below meth c D ad0 ad tC A H locs ls Z hC hK hX hR hl hZ
  exact lv_iconst hC.1 hC.2.1 hd hv (k p l e s m args below meth c D ad0 ad tC A H locs ls Z hC hK hX hR hl hZ)
theorem go_bipush {n : Int} (v : Int32) (hd : decode M.2.1 pc = .ok (.bipush n, 2)) (hv : (Int8.ofInt n).toInt32 = v) (k : Go X M Q n0 cn sn (pc + 2) L (.int v :: st) w) : Go X M Q n0 cn sn pc L st w := by
  intro p l e s m args below meth c D ad0 ad tC A H locs ls Z hC hK hX hR hl hZ
  exact lv_bipush hC.1 hC.2.1 hd hv (k p l e s m args below meth c D ad0 ad tC A H locs ls Z hC hK hX hR hl hZ)
theorem go_sipush {n : Int} (v : Int32) (hd : decode M.2.1 pc = .ok (.sipush n, 3)) (hv : (Int16.ofInt n).toInt32 = v) (k : Go X M Q n0 cn sn (pc + 3) L (.int v :: st) w) : Go X M Q n0 cn sn pc L st w := by
  intro p l e s m args below meth c D ad0 ad tC A H locs ls Z hC hK hX hR hl hZ
  exact lv_sipush hC.1 hC.2.1 hd hv (k p l e s m args below meth c D ad0 ad tC A H locs ls Z hC hK hX hR hl hZ)
theorem go_lconst {n : Fin 2} (v : Int64) (hd : decode M.2.1 pc = .ok (.lconst n, 1)) (hv : Int64.ofNat (n : Nat) = v) (k : Go X M Q n0 cn sn (pc + 1) L (.long v :: st) w) : Go X M Q n0 cn sn pc L st w := by
  intro p l e s m args below meth c D ad0 ad tC A H locs ls Z hC hK hX hR hl hZ
  exact lv_lconst hC.1 hC.2.1 hd hv (k p l e s m args below meth c D ad0 ad tC A H locs ls Z hC hK hX hR hl hZ)
theorem go_ldc {i : Nat} {v : Int32} (hd : decode M.2.1 pc = .ok (.ldc i, 2)) (hc : Cond.constant M.1.cls i v ∈ tb) (k : Go X M Q n0 cn sn (pc + 2) L (.int v :: st) w) : Go X M Q n0 cn sn pc L st w := by
  intro p l e s m args below meth c D ad0 ad tC A H locs ls Z hC hK hX hR hl hZ
  exact lv_ldc hC.1 hC.2.1 hC.2.2.2.2.1 (hC.2.2.2.2.2.1 _ hc) hd (k p l e s m args below meth c D ad0 ad tC A H locs ls Z hC hK hX hR hl hZ)
theorem go_ldc_w {i : Nat} {v : Int32} (hd : decode M.2.1 pc = .ok (.ldc_w i, 3)) (hc : Cond.constant M.1.cls i v ∈ tb) (k : Go X M Q n0 cn sn (pc + 3) L (.int v :: st) w) : Go X M Q n0 cn sn pc L st w := by
  intro p l e s m args below meth c D ad0 ad tC A H locs ls Z hC hK hX hR hl hZ
  exact lv_ldcw hC.1 hC.2.1 hC.2.2.2.2.1 (hC.2.2.2.2.2.1 _ hc) hd (k p l e s m args below meth c D ad0 ad tC A H locs ls Z hC hK hX hR hl hZ)
theorem go_ldc2_w {i : Nat} {v : Int64} (hd : decode M.2.1 pc = .ok (.ldc2_w i, 3)) (hc : Cond.constantLong M.1.cls i v ∈ tb) (k : Go X M Q n0 cn sn (pc + 3) L (.long v :: st) w) : Go X M Q n0 cn sn pc L st w := by
  intro p l e s m args below meth c D ad0 ad tC A H locs ls Z hC hK hX hR hl hZ
  exact lv_ldc2 hC.1 hC.2.1 hC.2.2.2.2.1 (hC.2.2.2.2.2.1 _ hc) hd (k p l e s m args below meth c D ad0 ad tC A H locs ls Z hC hK hX hR hl hZ)
theorem go_iload_n {i : Fin 4} {x : Int32} (hd : decode M.2.1 pc = .ok (.iload_n i, 1)) (hv : L[(i : Nat)]? = some (some (.int x))) (k : Go X M Q n0 cn sn (pc + 1) L (.int x :: st) w) : Go X M Q n0 cn sn pc L st w := by
  intro p l e s m args below meth c D ad0 ad tC A H locs ls Z hC hK hX hR hl hZ
  exact lv_iload_n hC.1 hC.2.1 hd rfl (lh_at hl hv) (k p l e s m args below meth c D ad0 ad tC A H locs ls Z hC hK hX hR hl hZ)
theorem go_iload {i : Nat} {x : Int32} (hd : decode M.2.1 pc = .ok (.iload i, 2)) (hv : L[i]? = some (some (.int x))) (k : Go X M Q n0 cn sn (pc + 2) L (.int x :: st) w) : Go X M Q n0 cn sn pc L st w := by
  intro p l e s m args below meth c D ad0 ad tC A H locs ls Z hC hK hX hR hl hZ
  exact lv_iload hC.1 hC.2.1 hd (lh_at hl hv) (k p l e s m args below meth c D ad0 ad tC A H locs ls Z hC hK hX hR hl hZ)
theorem go_lload_n {i : Fin 4} {x : Int64} (hd : decode M.2.1 pc = .ok (.lload_n i, 1)) (hv : L[(i : Nat)]? = some (some (.long x))) (k : Go X M Q n0 cn sn (pc + 1) L (.long x :: st) w) : Go X M Q n0 cn sn pc L st w := by
  intro p l e s m args below meth c D ad0 ad tC A H locs ls Z hC hK hX hR hl hZ
  exact lv_lload_n hC.1 hC.2.1 hd rfl (lh_at hl hv) (k p l e s m args below meth c D ad0 ad tC A H locs ls Z hC hK hX hR hl hZ)
theorem go_lload {i : Nat} {x : Int64} (hd : decode M.2.1 pc = .ok (.lload i, 2)) (hv : L[i]? = some (some (.long x))) (k : Go X M Q n0 cn sn (pc + 2) L (.long x :: st) w) : Go X M Q n0 cn sn pc L st w := by
  intro p l e s m args below meth c D ad0 ad tC A H locs ls Z hC hK hX hR hl hZ
  exact lv_lload hC.1 hC.2.1 hd (lh_at hl hv) (k p l e s m args below meth c D ad0 ad tC A H locs ls Z hC hK hX hR hl hZ)
theorem go_aload_n {i : Fin 4} {x : Nat} (hd : decode M.2.1 pc = .ok (.aload_n i, 1)) (hv : L[(i : Nat)]? = some (some (.ref x))) (k : Go X M Q n0 cn sn (pc + 1) L (.ref x :: st) w) : Go X M Q n0 cn sn pc L st w := by
  intro p l e s m args below meth c D ad0 ad tC A H locs ls Z hC hK hX hR hl hZ
  exact lv_aload_n hC.1 hC.2.1 hd rfl (lh_at hl hv) (k p l e s m args below meth c D ad0 ad tC A H locs ls Z hC hK hX hR hl hZ)
theorem go_aload {i : Nat} {x : Nat} (hd : decode M.2.1 pc = .ok (.aload i, 2)) (hv : L[i]? = some (some (.ref x))) (k : Go X M Q n0 cn sn (pc + 2) L (.ref x :: st) w) : Go X M Q n0 cn sn pc L st w := by
  intro p l e s m args below meth c D ad0 ad tC A H locs ls Z hC hK hX hR hl hZ
  exact lv_aload hC.1 hC.2.1 hd (lh_at hl hv) (k p l e s m args below meth c D ad0 ad tC A H locs ls Z hC hK hX hR hl hZ)
theorem go_istore_n {i : Fin 4} {x : Int32} (hd : decode M.2.1 pc = .ok (.istore_n i, 1)) (hn : (i : Nat) < M.2.2.1) (k : Go X M Q n0 cn sn (pc + 1) (s1 (i : Nat) (.int x) 0 L) st w) : Go X M Q n0 cn sn pc L (.int x :: st) w := by
  intro p l e s m args below meth c D ad0 ad tC A H locs ls Z hC hK hX hR hl hZ
  exact lv_istore_n hC.1 hC.2.1 hd rfl hl hn rfl (fun ls' h => k p l e s m args below meth c D ad0 ad tC A H locs ls' Z hC hK hX hR (lh_s1 (v := .int x) h) hZ)
theorem go_istore {i : Nat} {x : Int32} (hd : decode M.2.1 pc = .ok (.istore i, 2)) (hn : i < M.2.2.1) (k : Go X M Q n0 cn sn (pc + 2) (s1 i (.int x) 0 L) st w) : Go X M Q n0 cn sn pc L (.int x :: st) w := by
  intro p l e s m args below meth c D ad0 ad tC A H locs ls Z hC hK hX hR hl hZ
  exact lv_istore hC.1 hC.2.1 hd hl hn rfl (fun ls' h => k p l e s m args below meth c D ad0 ad tC A H locs ls' Z hC hK hX hR (lh_s1 (v := .int x) h) hZ)
theorem go_lstore_n {i : Fin 4} {x : Int64} (hd : decode M.2.1 pc = .ok (.lstore_n i, 1)) (hn : (i : Nat) + 1 < M.2.2.1) (k : Go X M Q n0 cn sn (pc + 1) (s2 (i : Nat) (.long x) 0 L) st w) : Go X M Q n0 cn sn pc L (.long x :: st) w := by
  intro p l e s m args below meth c D ad0 ad tC A H locs ls Z hC hK hX hR hl hZ
  exact lv_lstore_n hC.1 hC.2.1 hd rfl hl hn rfl (fun ls' h => k p l e s m args below meth c D ad0 ad tC A H locs ls' Z hC hK hX hR (lh_s2 (v := .long x) h) hZ)
theorem go_lstore {i : Nat} {x : Int64} (hd : decode M.2.1 pc = .ok (.lstore i, 2)) (hn : i + 1 < M.2.2.1) (k : Go X M Q n0 cn sn (pc + 2) (s2 i (.long x) 0 L) st w) : Go X M Q n0 cn sn pc L (.long x :: st) w := by
  intro p l e s m args below meth c D ad0 ad tC A H locs ls Z hC hK hX hR hl hZ
  exact lv_lstore hC.1 hC.2.1 hd hl hn rfl (fun ls' h => k p l e s m args below meth c D ad0 ad tC A H locs ls' Z hC hK hX hR (lh_s2 (v := .long x) h) hZ)
theorem go_astore_n {i : Fin 4} {x : Nat} (hd : decode M.2.1 pc = .ok (.astore_n i, 1)) (hn : (i : Nat) < M.2.2.1) (k : Go X M Q n0 cn sn (pc + 1) (s1 (i : Nat) (.ref x) 0 L) st w) : Go X M Q n0 cn sn pc L (.ref x :: st) w := by
  intro p l e s m args below meth c D ad0 ad tC A H locs ls Z hC hK hX hR hl hZ
  exact lv_astore_n hC.1 hC.2.1 hd rfl hl hn rfl (fun ls' h => k p l e s m args below meth c D ad0 ad tC A H locs ls' Z hC hK hX hR (lh_s1 (v := .ref x) h) hZ)
theorem go_astore {i : Nat} {x : Nat} (hd : decode M.2.1 pc = .ok (.astore i, 2)) (hn : i < M.2.2.1) (k : Go X M Q n0 cn sn (pc + 2) (s1 i (.ref x) 0 L) st w) : Go X M Q n0 cn sn pc L (.ref x :: st) w := by
  intro p l e s m args below meth c D ad0 ad tC A H locs ls Z hC hK hX hR hl hZ
  exact lv_astore hC.1 hC.2.1 hd hl hn rfl (fun ls' h => k p l e s m args below meth c D ad0 ad tC A H locs ls' Z hC hK hX hR (lh_s1 (v := .ref x) h) hZ)
theorem go_iinc {i : Nat} {n : Int} {x : Int32} (v : Int32) (hd : decode M.2.1 pc = .ok (.iinc i n, 3)) (hx : L[i]? = some (some (.int x))) (hv : x + Int32.ofInt n = v) (hn : i < M.2.2.1) (k : Go X M Q n0 cn sn (pc + 3) (s1 i (.int v) 0 L) st w) : Go X M Q n0 cn sn pc L st w := by
  intro p l e s m args below meth c D ad0 ad tC A H locs ls Z hC hK hX hR hl hZ
  obtain ⟨j, hj⟩ := List.getElem?_of_mem (gl_mem.mpr ⟨i, .int x, hx, rfl⟩ : (0 + i, gv ad (.int x)) ∈ gl ad 0 L)
  rw [Nat.zero_add] at hj
  exact lv_iinc hC.1 hC.2.1 hd hl hj hv hn rfl (fun ls' h => k p l e s m args below meth c D ad0 ad tC A H locs ls' Z hC hK hX hR (lh_s1 (v := .int v) h) hZ)
theorem go_iadd {x y : Int32} (hd : decode M.2.1 pc = .ok (.iadd, 1)) (k : Go X M Q n0 cn sn (pc + 1) L (.int (x + y) :: st) w) : Go X M Q n0 cn sn pc L (.int y :: .int x :: st) w := by
  intro p l e s m args below meth c D ad0 ad tC A H locs ls Z hC hK hX hR hl hZ
  exact lv_iadd hC.1 hC.2.1 hd (k p l e s m args below meth c D ad0 ad tC A H locs ls Z hC hK hX hR hl hZ)
theorem go_isub {x y : Int32} (hd : decode M.2.1 pc = .ok (.isub, 1)) (k : Go X M Q n0 cn sn (pc + 1) L (.int (x - y) :: st) w) : Go X M Q n0 cn sn pc L (.int y :: .int x :: st) w := by
  intro p l e s m args below meth c D ad0 ad tC A H locs ls Z hC hK hX hR hl hZ
  exact lv_isub hC.1 hC.2.1 hd (k p l e s m args below meth c D ad0 ad tC A H locs ls Z hC hK hX hR hl hZ)
theorem go_imul {x y : Int32} (hd : decode M.2.1 pc = .ok (.imul, 1)) (k : Go X M Q n0 cn sn (pc + 1) L (.int (x * y) :: st) w) : Go X M Q n0 cn sn pc L (.int y :: .int x :: st) w := by
  intro p l e s m args below meth c D ad0 ad tC A H locs ls Z hC hK hX hR hl hZ
  exact lv_imul hC.1 hC.2.1 hd (k p l e s m args below meth c D ad0 ad tC A H locs ls Z hC hK hX hR hl hZ)
theorem go_iand {x y : Int32} (hd : decode M.2.1 pc = .ok (.iand, 1)) (k : Go X M Q n0 cn sn (pc + 1) L (.int (x &&& y) :: st) w) : Go X M Q n0 cn sn pc L (.int y :: .int x :: st) w := by
  intro p l e s m args below meth c D ad0 ad tC A H locs ls Z hC hK hX hR hl hZ
  exact lv_iand hC.1 hC.2.1 hd (k p l e s m args below meth c D ad0 ad tC A H locs ls Z hC hK hX hR hl hZ)
theorem go_ior {x y : Int32} (hd : decode M.2.1 pc = .ok (.ior, 1)) (k : Go X M Q n0 cn sn (pc + 1) L (.int (x ||| y) :: st) w) : Go X M Q n0 cn sn pc L (.int y :: .int x :: st) w := by
  intro p l e s m args below meth c D ad0 ad tC A H locs ls Z hC hK hX hR hl hZ
  exact lv_ior hC.1 hC.2.1 hd (k p l e s m args below meth c D ad0 ad tC A H locs ls Z hC hK hX hR hl hZ)
theorem go_ixor {x y : Int32} (hd : decode M.2.1 pc = .ok (.ixor, 1)) (k : Go X M Q n0 cn sn (pc + 1) L (.int (x ^^^ y) :: st) w) : Go X M Q n0 cn sn pc L (.int y :: .int x :: st) w := by
  intro p l e s m args below meth c D ad0 ad tC A H locs ls Z hC hK hX hR hl hZ
  exact lv_ixor hC.1 hC.2.1 hd (k p l e s m args below meth c D ad0 ad tC A H locs ls Z hC hK hX hR hl hZ)
theorem go_ishl {x y : Int32} (hd : decode M.2.1 pc = .ok (.ishl, 1)) (k : Go X M Q n0 cn sn (pc + 1) L (.int (x <<< (y &&& 31)) :: st) w) : Go X M Q n0 cn sn pc L (.int y :: .int x :: st) w := by
  intro p l e s m args below meth c D ad0 ad tC A H locs ls Z hC hK hX hR hl hZ
  exact lv_ishl hC.1 hC.2.1 hd (k p l e s m args below meth c D ad0 ad tC A H locs ls Z hC hK hX hR hl hZ)
theorem go_ishr {x y : Int32} (hd : decode M.2.1 pc = .ok (.ishr, 1)) (k : Go X M Q n0 cn sn (pc + 1) L (.int (x >>> (y &&& 31)) :: st) w) : Go X M Q n0 cn sn pc L (.int y :: .int x :: st) w := by
  intro p l e s m args below meth c D ad0 ad tC A H locs ls Z hC hK hX hR hl hZ
  exact lv_ishr hC.1 hC.2.1 hd (k p l e s m args below meth c D ad0 ad tC A H locs ls Z hC hK hX hR hl hZ)
theorem go_iushr {x y : Int32} (hd : decode M.2.1 pc = .ok (.iushr, 1)) (k : Go X M Q n0 cn sn (pc + 1) L (.int (x.toUInt32 >>> (y.toUInt32 &&& Int32.toUInt32 31)).toInt32 :: st) w) : Go X M Q n0 cn sn pc L (.int y :: .int x :: st) w := by
  intro p l e s m args below meth c D ad0 ad tC A H locs ls Z hC hK hX hR hl hZ
  exact lv_iushr hC.1 hC.2.1 hd rfl (k p l e s m args below meth c D ad0 ad tC A H locs ls Z hC hK hX hR hl hZ)
theorem go_idiv {x y : Int32} (hd : decode M.2.1 pc = .ok (.idiv, 1)) (hne : ¬ y = 0) (k : Go X M Q n0 cn sn (pc + 1) L (.int (x / y) :: st) w) : Go X M Q n0 cn sn pc L (.int y :: .int x :: st) w := by
  intro p l e s m args below meth c D ad0 ad tC A H locs ls Z hC hK hX hR hl hZ
  exact lv_idiv hC.1 hC.2.1 hd hne (k p l e s m args below meth c D ad0 ad tC A H locs ls Z hC hK hX hR hl hZ)
theorem go_ladd {x y : Int64} (hd : decode M.2.1 pc = .ok (.ladd, 1)) (k : Go X M Q n0 cn sn (pc + 1) L (.long (x + y) :: st) w) : Go X M Q n0 cn sn pc L (.long y :: .long x :: st) w := by
  intro p l e s m args below meth c D ad0 ad tC A H locs ls Z hC hK hX hR hl hZ
  exact lv_ladd hC.1 hC.2.1 hd (k p l e s m args below meth c D ad0 ad tC A H locs ls Z hC hK hX hR hl hZ)
theorem go_lsub {x y : Int64} (hd : decode M.2.1 pc = .ok (.lsub, 1)) (k : Go X M Q n0 cn sn (pc + 1) L (.long (x - y) :: st) w) : Go X M Q n0 cn sn pc L (.long y :: .long x :: st) w := by
  intro p l e s m args below meth c D ad0 ad tC A H locs ls Z hC hK hX hR hl hZ
  exact lv_lsub hC.1 hC.2.1 hd (k p l e s m args below meth c D ad0 ad tC A H locs ls Z hC hK hX hR hl hZ)
theorem go_lmul {x y : Int64} (hd : decode M.2.1 pc = .ok (.lmul, 1)) (k : Go X M Q n0 cn sn (pc + 1) L (.long (x * y) :: st) w) : Go X M Q n0 cn sn pc L (.long y :: .long x :: st) w := by
  intro p l e s m args below meth c D ad0 ad tC A H locs ls Z hC hK hX hR hl hZ
  exact lv_lmul hC.1 hC.2.1 hd (k p l e s m args below meth c D ad0 ad tC A H locs ls Z hC hK hX hR hl hZ)
theorem go_land {x y : Int64} (hd : decode M.2.1 pc = .ok (.land, 1)) (k : Go X M Q n0 cn sn (pc + 1) L (.long (x &&& y) :: st) w) : Go X M Q n0 cn sn pc L (.long y :: .long x :: st) w := by
  intro p l e s m args below meth c D ad0 ad tC A H locs ls Z hC hK hX hR hl hZ
  exact lv_land hC.1 hC.2.1 hd (k p l e s m args below meth c D ad0 ad tC A H locs ls Z hC hK hX hR hl hZ)
theorem go_lshl {x : Int64} {y : Int32} (hd : decode M.2.1 pc = .ok (.lshl, 1)) (k : Go X M Q n0 cn sn (pc + 1) L (.long (x <<< (y.toInt64 &&& 63)) :: st) w) : Go X M Q n0 cn sn pc L (.int y :: .long x :: st) w := by
  intro p l e s m args below meth c D ad0 ad tC A H locs ls Z hC hK hX hR hl hZ
  exact lv_lshl hC.1 hC.2.1 hd rfl (k p l e s m args below meth c D ad0 ad tC A H locs ls Z hC hK hX hR hl hZ)
theorem go_lshr {x : Int64} {y : Int32} (hd : decode M.2.1 pc = .ok (.lshr, 1)) (k : Go X M Q n0 cn sn (pc + 1) L (.long (x >>> (y.toInt64 &&& 63)) :: st) w) : Go X M Q n0 cn sn pc L (.int y :: .long x :: st) w := by
  intro p l e s m args below meth c D ad0 ad tC A H locs ls Z hC hK hX hR hl hZ
  exact lv_lshr hC.1 hC.2.1 hd rfl (k p l e s m args below meth c D ad0 ad tC A H locs ls Z hC hK hX hR hl hZ)
theorem go_i2l {x : Int32} (hd : decode M.2.1 pc = .ok (.i2l, 1)) (k : Go X M Q n0 cn sn (pc + 1) L (.long (x.toInt64) :: st) w) : Go X M Q n0 cn sn pc L (.int x :: st) w := by
  intro p l e s m args below meth c D ad0 ad tC A H locs ls Z hC hK hX hR hl hZ
  exact lv_i2l hC.1 hC.2.1 hd rfl (k p l e s m args below meth c D ad0 ad tC A H locs ls Z hC hK hX hR hl hZ)
theorem go_i2b {x : Int32} (hd : decode M.2.1 pc = .ok (.i2b, 1)) (k : Go X M Q n0 cn sn (pc + 1) L (.int (x.toInt8.toInt32) :: st) w) : Go X M Q n0 cn sn pc L (.int x :: st) w := by
  intro p l e s m args below meth c D ad0 ad tC A H locs ls Z hC hK hX hR hl hZ
  exact lv_i2b hC.1 hC.2.1 hd rfl (k p l e s m args below meth c D ad0 ad tC A H locs ls Z hC hK hX hR hl hZ)
theorem go_i2s {x : Int32} (hd : decode M.2.1 pc = .ok (.i2s, 1)) (k : Go X M Q n0 cn sn (pc + 1) L (.int (x.toInt16.toInt32) :: st) w) : Go X M Q n0 cn sn pc L (.int x :: st) w := by
  intro p l e s m args below meth c D ad0 ad tC A H locs ls Z hC hK hX hR hl hZ
  exact lv_i2s hC.1 hC.2.1 hd rfl (k p l e s m args below meth c D ad0 ad tC A H locs ls Z hC hK hX hR hl hZ)
theorem go_dup {v : Value} (hd : decode M.2.1 pc = .ok (.dup, 1)) (hv : v.category = 1) (k : Go X M Q n0 cn sn (pc + 1) L (v :: v :: st) w) : Go X M Q n0 cn sn pc L (v :: st) w := by
  intro p l e s m args below meth c D ad0 ad tC A H locs ls Z hC hK hX hR hl hZ
  exact lv_dup hC.1 hC.2.1 hd ((gv_cat ad v).trans hv) (k p l e s m args below meth c D ad0 ad tC A H locs ls Z hC hK hX hR hl hZ)
theorem go_dup2 {v u : Value} (hd : decode M.2.1 pc = .ok (.dup2, 1)) (hv : v.category = 1) (hu : u.category = 1) (k : Go X M Q n0 cn sn (pc + 1) L (v :: u :: v :: u :: st) w) : Go X M Q n0 cn sn pc L (v :: u :: st) w := by
  intro p l e s m args below meth c D ad0 ad tC A H locs ls Z hC hK hX hR hl hZ
  exact lv_dup2_11 hC.1 hC.2.1 hd ((gv_cat ad v).trans hv) ((gv_cat ad u).trans hu) (k p l e s m args below meth c D ad0 ad tC A H locs ls Z hC hK hX hR hl hZ)
theorem go_pop {v : Value} (hd : decode M.2.1 pc = .ok (.pop, 1)) (hv : v.category = 1) (k : Go X M Q n0 cn sn (pc + 1) L st w) : Go X M Q n0 cn sn pc L (v :: st) w := by
  intro p l e s m args below meth c D ad0 ad tC A H locs ls Z hC hK hX hR hl hZ
  exact lv_pop hC.1 hC.2.1 hd ((gv_cat ad v).trans hv) (k p l e s m args below meth c D ad0 ad tC A H locs ls Z hC hK hX hR hl hZ)
theorem go_if_eq {x : Int32} {off : Int} (tgt : Nat) (hd : decode M.2.1 pc = .ok (.ifCond .eq off, 3)) (ht : (pc : Int) + off = (tgt : Int)) (k : x = 0 → Go X M Q n0 cn sn tgt L st w) (k2 : ¬ x = 0 → Go X M Q n0 cn sn (pc + 3) L st w) : Go X M Q n0 cn sn pc L (.int x :: st) w := by
  intro p l e s m args below meth c D ad0 ad tC A H locs ls Z hC hK hX hR hl hZ
  exact lv_if_eq hC.1 hC.2.1 hd ht (fun q => k q p l e s m args below meth c D ad0 ad tC A H locs ls Z hC hK hX hR hl hZ) (fun q => k2 q p l e s m args below meth c D ad0 ad tC A H locs ls Z hC hK hX hR hl hZ)
theorem go_icmp_eq {x y : Int32} {off : Int} (tgt : Nat) (hd : decode M.2.1 pc = .ok (.if_icmp .eq off, 3)) (ht : (pc : Int) + off = (tgt : Int)) (k : x = y → Go X M Q n0 cn sn tgt L st w) (k2 : ¬ x = y → Go X M Q n0 cn sn (pc + 3) L st w) : Go X M Q n0 cn sn pc L (.int y :: .int x :: st) w := by
  intro p l e s m args below meth c D ad0 ad tC A H locs ls Z hC hK hX hR hl hZ
  exact lv_icmp_eq hC.1 hC.2.1 hd ht (fun q => k q p l e s m args below meth c D ad0 ad tC A H locs ls Z hC hK hX hR hl hZ) (fun q => k2 q p l e s m args below meth c D ad0 ad tC A H locs ls Z hC hK hX hR hl hZ)
theorem go_if_ne {x : Int32} {off : Int} (tgt : Nat) (hd : decode M.2.1 pc = .ok (.ifCond .ne off, 3)) (ht : (pc : Int) + off = (tgt : Int)) (k : ¬ x = 0 → Go X M Q n0 cn sn tgt L st w) (k2 : x = 0 → Go X M Q n0 cn sn (pc + 3) L st w) : Go X M Q n0 cn sn pc L (.int x :: st) w := by
  intro p l e s m args below meth c D ad0 ad tC A H locs ls Z hC hK hX hR hl hZ
  exact lv_if_ne hC.1 hC.2.1 hd ht (fun q => k q p l e s m args below meth c D ad0 ad tC A H locs ls Z hC hK hX hR hl hZ) (fun q => k2 q p l e s m args below meth c D ad0 ad tC A H locs ls Z hC hK hX hR hl hZ)
theorem go_icmp_ne {x y : Int32} {off : Int} (tgt : Nat) (hd : decode M.2.1 pc = .ok (.if_icmp .ne off, 3)) (ht : (pc : Int) + off = (tgt : Int)) (k : ¬ x = y → Go X M Q n0 cn sn tgt L st w) (k2 : x = y → Go X M Q n0 cn sn (pc + 3) L st w) : Go X M Q n0 cn sn pc L (.int y :: .int x :: st) w := by
  intro p l e s m args below meth c D ad0 ad tC A H locs ls Z hC hK hX hR hl hZ
  exact lv_icmp_ne hC.1 hC.2.1 hd ht (fun q => k q p l e s m args below meth c D ad0 ad tC A H locs ls Z hC hK hX hR hl hZ) (fun q => k2 q p l e s m args below meth c D ad0 ad tC A H locs ls Z hC hK hX hR hl hZ)
theorem go_if_lt {x : Int32} {off : Int} (tgt : Nat) (hd : decode M.2.1 pc = .ok (.ifCond .lt off, 3)) (ht : (pc : Int) + off = (tgt : Int)) (k : x < 0 → Go X M Q n0 cn sn tgt L st w) (k2 : ¬ x < 0 → Go X M Q n0 cn sn (pc + 3) L st w) : Go X M Q n0 cn sn pc L (.int x :: st) w := by
  intro p l e s m args below meth c D ad0 ad tC A H locs ls Z hC hK hX hR hl hZ
  exact lv_if_lt hC.1 hC.2.1 hd ht (fun q => k q p l e s m args below meth c D ad0 ad tC A H locs ls Z hC hK hX hR hl hZ) (fun q => k2 q p l e s m args below meth c D ad0 ad tC A H locs ls Z hC hK hX hR hl hZ)
theorem go_icmp_lt {x y : Int32} {off : Int} (tgt : Nat) (hd : decode M.2.1 pc = .ok (.if_icmp .lt off, 3)) (ht : (pc : Int) + off = (tgt : Int)) (k : x < y → Go X M Q n0 cn sn tgt L st w) (k2 : ¬ x < y → Go X M Q n0 cn sn (pc + 3) L st w) : Go X M Q n0 cn sn pc L (.int y :: .int x :: st) w := by
  intro p l e s m args below meth c D ad0 ad tC A H locs ls Z hC hK hX hR hl hZ
  exact lv_icmp_lt hC.1 hC.2.1 hd ht (fun q => k q p l e s m args below meth c D ad0 ad tC A H locs ls Z hC hK hX hR hl hZ) (fun q => k2 q p l e s m args below meth c D ad0 ad tC A H locs ls Z hC hK hX hR hl hZ)
theorem go_if_ge {x : Int32} {off : Int} (tgt : Nat) (hd : decode M.2.1 pc = .ok (.ifCond .ge off, 3)) (ht : (pc : Int) + off = (tgt : Int)) (k : 0 ≤ x → Go X M Q n0 cn sn tgt L st w) (k2 : ¬ 0 ≤ x → Go X M Q n0 cn sn (pc + 3) L st w) : Go X M Q n0 cn sn pc L (.int x :: st) w := by
  intro p l e s m args below meth c D ad0 ad tC A H locs ls Z hC hK hX hR hl hZ
  exact lv_if_ge hC.1 hC.2.1 hd ht (fun q => k q p l e s m args below meth c D ad0 ad tC A H locs ls Z hC hK hX hR hl hZ) (fun q => k2 q p l e s m args below meth c D ad0 ad tC A H locs ls Z hC hK hX hR hl hZ)
theorem go_icmp_ge {x y : Int32} {off : Int} (tgt : Nat) (hd : decode M.2.1 pc = .ok (.if_icmp .ge off, 3)) (ht : (pc : Int) + off = (tgt : Int)) (k : y ≤ x → Go X M Q n0 cn sn tgt L st w) (k2 : ¬ y ≤ x → Go X M Q n0 cn sn (pc + 3) L st w) : Go X M Q n0 cn sn pc L (.int y :: .int x :: st) w := by
  intro p l e s m args below meth c D ad0 ad tC A H locs ls Z hC hK hX hR hl hZ
  exact lv_icmp_ge hC.1 hC.2.1 hd ht (fun q => k q p l e s m args below meth c D ad0 ad tC A H locs ls Z hC hK hX hR hl hZ) (fun q => k2 q p l e s m args below meth c D ad0 ad tC A H locs ls Z hC hK hX hR hl hZ)
theorem go_if_gt {x : Int32} {off : Int} (tgt : Nat) (hd : decode M.2.1 pc = .ok (.ifCond .gt off, 3)) (ht : (pc : Int) + off = (tgt : Int)) (k : 0 < x → Go X M Q n0 cn sn tgt L st w) (k2 : ¬ 0 < x → Go X M Q n0 cn sn (pc + 3) L st w) : Go X M Q n0 cn sn pc L (.int x :: st) w := by
  intro p l e s m args below meth c D ad0 ad tC A H locs ls Z hC hK hX hR hl hZ
  exact lv_if_gt hC.1 hC.2.1 hd ht (fun q => k q p l e s m args below meth c D ad0 ad tC A H locs ls Z hC hK hX hR hl hZ) (fun q => k2 q p l e s m args below meth c D ad0 ad tC A H locs ls Z hC hK hX hR hl hZ)
theorem go_icmp_gt {x y : Int32} {off : Int} (tgt : Nat) (hd : decode M.2.1 pc = .ok (.if_icmp .gt off, 3)) (ht : (pc : Int) + off = (tgt : Int)) (k : y < x → Go X M Q n0 cn sn tgt L st w) (k2 : ¬ y < x → Go X M Q n0 cn sn (pc + 3) L st w) : Go X M Q n0 cn sn pc L (.int y :: .int x :: st) w := by
  intro p l e s m args below meth c D ad0 ad tC A H locs ls Z hC hK hX hR hl hZ
  exact lv_icmp_gt hC.1 hC.2.1 hd ht (fun q => k q p l e s m args below meth c D ad0 ad tC A H locs ls Z hC hK hX hR hl hZ) (fun q => k2 q p l e s m args below meth c D ad0 ad tC A H locs ls Z hC hK hX hR hl hZ)
theorem go_if_le {x : Int32} {off : Int} (tgt : Nat) (hd : decode M.2.1 pc = .ok (.ifCond .le off, 3)) (ht : (pc : Int) + off = (tgt : Int)) (k : x ≤ 0 → Go X M Q n0 cn sn tgt L st w) (k2 : ¬ x ≤ 0 → Go X M Q n0 cn sn (pc + 3) L st w) : Go X M Q n0 cn sn pc L (.int x :: st) w := by
  intro p l e s m args below meth c D ad0 ad tC A H locs ls Z hC hK hX hR hl hZ
  exact lv_if_le hC.1 hC.2.1 hd ht (fun q => k q p l e s m args below meth c D ad0 ad tC A H locs ls Z hC hK hX hR hl hZ) (fun q => k2 q p l e s m args below meth c D ad0 ad tC A H locs ls Z hC hK hX hR hl hZ)
theorem go_icmp_le {x y : Int32} {off : Int} (tgt : Nat) (hd : decode M.2.1 pc = .ok (.if_icmp .le off, 3)) (ht : (pc : Int) + off = (tgt : Int)) (k : x ≤ y → Go X M Q n0 cn sn tgt L st w) (k2 : ¬ x ≤ y → Go X M Q n0 cn sn (pc + 3) L st w) : Go X M Q n0 cn sn pc L (.int y :: .int x :: st) w := by
  intro p l e s m args below meth c D ad0 ad tC A H locs ls Z hC hK hX hR hl hZ
  exact lv_icmp_le hC.1 hC.2.1 hd ht (fun q => k q p l e s m args below meth c D ad0 ad tC A H locs ls Z hC hK hX hR hl hZ) (fun q => k2 q p l e s m args below meth c D ad0 ad tC A H locs ls Z hC hK hX hR hl hZ)
theorem go_goto {off : Int} (tgt : Nat) (hd : decode M.2.1 pc = .ok (.goto off, 3)) (ht : (pc : Int) + off = (tgt : Int)) (k : Go X M Q n0 cn sn tgt L st w) : Go X M Q n0 cn sn pc L st w := by
  intro p l e s m args below meth c D ad0 ad tC A H locs ls Z hC hK hX hR hl hZ
  exact lv_goto hC.1 hC.2.1 hd ht (k p l e s m args below meth c D ad0 ad tC A H locs ls Z hC hK hX hR hl hZ)
theorem go_irem {x y : Int32} (hd : decode M.2.1 pc = .ok (.irem, 1)) (hne : ¬ y = 0) (k : Go X M Q n0 cn sn (pc + 1) L (.int (x - x / y * y) :: st) w) : Go X M Q n0 cn sn pc L (.int y :: .int x :: st) w := by
  intro p l e s m args below meth c D ad0 ad tC A H locs ls Z hC hK hX hR hl hZ
  exact lv_irem hC.1 hC.2.1 hd hne (k p l e s m args below meth c D ad0 ad tC A H locs ls Z hC hK hX hR hl hZ)
theorem go_ldiv {x y : Int64} (hd : decode M.2.1 pc = .ok (.ldiv, 1)) (hne : ¬ y = 0) (k : Go X M Q n0 cn sn (pc + 1) L (.long (x / y) :: st) w) : Go X M Q n0 cn sn pc L (.long y :: .long x :: st) w := by
  intro p l e s m args below meth c D ad0 ad tC A H locs ls Z hC hK hX hR hl hZ
  exact lv_ldiv hC.1 hC.2.1 hd hne (k p l e s m args below meth c D ad0 ad tC A H locs ls Z hC hK hX hR hl hZ)
theorem go_lrem {x y : Int64} (hd : decode M.2.1 pc = .ok (.lrem, 1)) (hne : ¬ y = 0) (k : Go X M Q n0 cn sn (pc + 1) L (.long (x - x / y * y) :: st) w) : Go X M Q n0 cn sn pc L (.long y :: .long x :: st) w := by
  intro p l e s m args below meth c D ad0 ad tC A H locs ls Z hC hK hX hR hl hZ
  exact lv_lrem hC.1 hC.2.1 hd hne (k p l e s m args below meth c D ad0 ad tC A H locs ls Z hC hK hX hR hl hZ)
theorem go_lcmp {x y : Int64} (hd : decode M.2.1 pc = .ok (.lcmp, 1)) (k : Go X M Q n0 cn sn (pc + 1) L (.int (lg_cmp x y) :: st) w) : Go X M Q n0 cn sn pc L (.long y :: .long x :: st) w := by
  intro p l e s m args below meth c D ad0 ad tC A H locs ls Z hC hK hX hR hl hZ
  exact W.lcmp hC.1 hC.2.1 hd (k p l e s m args below meth c D ad0 ad tC A H locs ls Z hC hK hX hR hl hZ)
theorem go_tblIn {dflt lo hi : Int} {offs : Array Int} {len : Nat} {x : Int32} {off : Int} (tgt : Nat) (hd : decode M.2.1 pc = .ok (.tableswitch dflt lo hi offs, len)) (h1 : ¬ x.toInt < lo) (h2 : ¬ hi < x.toInt) (ho : offs[(x.toInt - lo).toNat]? = some off) (ht : (pc : Int) + off = (tgt : Int)) (k : Go X M Q n0 cn sn tgt L st w) : Go X M Q n0 cn sn pc L (.int x :: st) w := by
  intro p l e s m args below meth c D ad0 ad tC A H locs ls Z hC hK hX hR hl hZ
  exact lv_tableIn hC.1 hC.2.1 hd h1 h2 ho ht (k p l e s m args below meth c D ad0 ad tC A H locs ls Z hC hK hX hR hl hZ)
theorem go_tblOut {dflt lo hi : Int} {offs : Array Int} {len : Nat} {x : Int32} (tgt : Nat) (hd : decode M.2.1 pc = .ok (.tableswitch dflt lo hi offs, len)) (h : x.toInt < lo ∨ hi < x.toInt) (ht : (pc : Int) + dflt = (tgt : Int)) (k : Go X M Q n0 cn sn tgt L st w) : Go X M Q n0 cn sn pc L (.int x :: st) w := by
  intro p l e s m args below meth c D ad0 ad tC A H locs ls Z hC hK hX hR hl hZ
  exact lv_tableOut hC.1 hC.2.1 hd h ht (k p l e s m args below meth c D ad0 ad tC A H locs ls Z hC hK hX hR hl hZ)
theorem go_lookup {dflt : Int} {ps : Array (Int × Int)} {len : Nat} {x : Int32} {off : Int} (tgt : Nat) (hd : decode M.2.1 pc = .ok (.lookupswitch dflt ps, len)) (hp : (ps.toList.zip (ps.toList.drop 1)).all (fun (a, next) => a.1 < next.1) = true) (ho : Op.lookupswitch.offset ps.toList dflt x.toInt = off) (ht : (pc : Int) + off = (tgt : Int)) (k : Go X M Q n0 cn sn tgt L st w) : Go X M Q n0 cn sn pc L (.int x :: st) w := by
  intro p l e s m args below meth c D ad0 ad tC A H locs ls Z hC hK hX hR hl hZ
  exact lv_lookup hC.1 hC.2.1 hd hp ho ht (k p l e s m args below meth c D ad0 ad tC A H locs ls Z hC hK hX hR hl hZ)
end Rows
end
section
section Heap
variable {X : (Nat → Nat) → State → (Nat → Prop) → Prop} {M : MD} {Q : Option Value → List AE → Prop} {n0 cn sn pc : Nat} {L : List (Option Value)} {st : List Value} {w : List AE}
theorem map_at {ad : Nat → Nat} {fs : List Value} {k : Nat} {v : Value} (h : fs[k]? = some v) : (fs.map (gv ad))[k]? = some (gv ad v) := by simp [h]
theorem Rl_set {D : va_G} {tC : Nat → Nat} {A : Nat → Prop} {ad0 ad : Nat → Nat} {s : State} {H H1 : Heap} {locs locs1 : List Loc} {a : Nat} {e : AE} (hR : Rl D tC A n0 ad0 ad w s H locs) (h1 : va_P D vwCl ((gw ad tC w).set a (ad a, ge ad tC e)) H1) (h2 : va_D A ((gw ad tC w).set a (ad a, ge ad tC e))) (h3 : va_S A s.heap H1 locs1) : Rl D tC A n0 ad0 ad (w.set a e) s H1 locs1 := by
  rw [gw_set] at h1 h2
  obtain ⟨-, -, -, g4, g5, g6, g7, g8⟩ := hR
  exact ⟨h1, h2, h3, g4, by rw [List.length_set]; exact g5, g6, fun q => g7 (by rw [← q, List.length_set]), g8⟩
theorem go_getf {i ci f a : Nat} {fs : List Value} {v : Value} (fl : FL M.1.cls i ci f) (hd : decode M.2.1 pc = .ok (.getfield i, 3)) (he : w[a]? = some (zO ci fs)) (hv : fs[f]? = some v) (k : Go X M Q n0 cn sn (pc + 3) L (v :: st) w) : Go X M Q n0 cn sn pc L (.ref a :: st) w := by
  intro p l e s m args below meth c D ad0 ad tC A H locs ls Z hC hK hX hR hl hZ
  obtain ⟨C, T, N, hc, hk, -, hin⟩ := fl
  exact va_get hC.1 hC.2.1 hC.2.2.2.2.2.1 (ck _ _ _ _ hc).1 hC.2.2.2.2.1 hK.1 hR.1 a (gw_at he) hc f hk (hC.2.2.2.2.2.1 _ hin) (fun _ h => h) (map_at hv) hd (k p l e s m args below meth c D ad0 ad tC A H locs ls Z hC hK hX hR hl hZ)
theorem go_putf {i ci f a : Nat} {fs : List Value} {v : Value} (fl : FL M.1.cls i ci f) (hd : decode M.2.1 pc = .ok (.putfield i, 3)) (he : w[a]? = some (zO ci fs)) (hf : ∀ C T N, vwCl[ci]? = some (C, T, N) → (T f).2.2.2 = false) (hn : ∀ ad, narrow (tyT ci f) (gv ad v) = gv ad v) (hfit : ∀ ad, fits (tyT ci f) (gv ad v) = true) (hlen : f < fs.length) (k : Go X M Q n0 cn sn (pc + 3) L st (w.set a (zO ci (fs.set f v)))) : Go X M Q n0 cn sn pc L (v :: .ref a :: st) w := by
  intro p l e s m args below meth c D ad0 ad tC A H locs ls Z hC hK hX hR hl hZ
  obtain ⟨C, T, N, hc, hk, -, hin⟩ := fl
  have h9 := ck _ _ _ _ hc
  refine va_put hC.1 hC.2.1 hC.2.2.2.2.2.1 h9.1 (tyT ci) h9.2.1 h9.2.2 hC.2.2.2.2.1 hK.1 hR.1 hR.2.1 hR.2.2.1 a (gw_at he) hc f hk (hC.2.2.2.2.2.1 _ hin) (fun _ h => h) (hf _ _ _ hc) (h9.2.1 f hk) (hn ad) (hfit ad) (by rw [List.length_map]; exact hlen) hd (fun H1 locs1 h1 h2 h3 => ?_)
  rw [← List.map_set] at h1 h2
  exact k p l e s m args below meth c D ad0 ad tC A H1 locs1 ls Z hC hK hX (Rl_set (e := zO ci (fs.set f v)) hR h1 h2 h3) hl hZ
theorem go_putF {i ci f a : Nat} {fs : List Value} {v : Value} (fl : FL M.1.cls i ci f) (hd : decode M.2.1 pc = .ok (.putfield i, 3)) (he : w[a]? = some (zO ci fs)) (hf : ∀ C T N, vwCl[ci]? = some (C, T, N) → (T f).2.2.2 = true ∧ (T f).1 = M.1.cls) (hi : M.1.name = "<init>") (hn : ∀ ad, narrow (tyT ci f) (gv ad v) = gv ad v) (hfit : ∀ ad, fits (tyT ci f) (gv ad v) = true) (hlen : f < fs.length) (k : Go X M Q n0 cn sn (pc + 3) L st (w.set a (zO ci (fs.set f v)))) : Go X M Q n0 cn sn pc L (v :: .ref a :: st) w := by
  intro p l e s m args below meth c D ad0 ad tC A H locs ls Z hC hK hX hR hl hZ
  obtain ⟨C, T, N, hc, hk, -, hin⟩ := fl
  have h9 := ck _ _ _ _ hc
  refine va_putF hC.1 hC.2.1 hC.2.2.2.2.2.1 h9.1 (tyT ci) h9.2.1 h9.2.2 hC.2.2.2.2.1 hK.1 hR.1 hR.2.1 hR.2.2.1 a (gw_at he) hc f hk (hC.2.2.2.2.2.1 _ hin) (fun _ h => h) (hf _ _ _ hc).1 (hC.2.2.2.2.2.2.2.trans hi) (hf _ _ _ hc).2 (h9.2.1 f hk) (hn ad) (hfit ad) (by rw [List.length_map]; exact hlen) hd (fun H1 locs1 h1 h2 h3 => ?_)
  rw [← List.map_set] at h1 h2
  exact k p l e s m args below meth c D ad0 ad tC A H1 locs1 ls Z hC hK hX (Rl_set (e := zO ci (fs.set f v)) hR h1 h2 h3) hl hZ
theorem go_iald {a n : Nat} {f : Nat → Int32} {i : Int32} (hd : decode M.2.1 pc = .ok (.iaload, 1)) (he : w[a]? = some (zI n f)) (hin : vp_in i n) (k : Go X M Q n0 cn sn (pc + 1) L (.int (f i.toNatClampNeg) :: st) w) : Go X M Q n0 cn sn pc L (.int i :: .ref a :: st) w := by
  intro p l e s m args below meth c D ad0 ad tC A H locs ls Z hC hK hX hR hl hZ
  exact va_iald hC.1 hC.2.1 hK.1 hR.1 a 0 (gw_at he) rfl hin hd (k p l e s m args below meth c D ad0 ad tC A H locs ls Z hC hK hX hR hl hZ)
theorem go_lald {a n : Nat} {f : Nat → Int64} {i : Int32} (hd : decode M.2.1 pc = .ok (.laload, 1)) (he : w[a]? = some (zL n f)) (hin : vp_in i n) (k : Go X M Q n0 cn sn (pc + 1) L (.long (f i.toNatClampNeg) :: st) w) : Go X M Q n0 cn sn pc L (.int i :: .ref a :: st) w := by
  intro p l e s m args below meth c D ad0 ad tC A H locs ls Z hC hK hX hR hl hZ
  exact va_lald hC.1 hC.2.1 hK.1 hR.1 a 1 (gw_at he) rfl hin hd (k p l e s m args below meth c D ad0 ad tC A H locs ls Z hC hK hX hR hl hZ)
theorem go_aald {a n b : Nat} {r : List (Option Nat)} {i : Int32} (hd : decode M.2.1 pc = .ok (.aaload, 1)) (he : w[a]? = some (zR n r)) (hin : vp_in i n) (hv : r.getD i.toNatClampNeg none = some b) (k : Go X M Q n0 cn sn (pc + 1) L (.ref b :: st) w) : Go X M Q n0 cn sn pc L (.int i :: .ref a :: st) w := by
  intro p l e s m args below meth c D ad0 ad tC A H locs ls Z hC hK hX hR hl hZ
  refine va_aldq hC.1 hC.2.1 hK.1 hR.1 a 2 (gw_at he) rfl hin hd ?_
  rw [hv]
  exact k p l e s m args below meth c D ad0 ad tC A H locs ls Z hC hK hX hR hl hZ
theorem go_iast {a n : Nat} {f : Nat → Int32} {i x : Int32} (hd : decode M.2.1 pc = .ok (.iastore, 1)) (he : w[a]? = some (zI n f)) (hin : vp_in i n) (k : Go X M Q n0 cn sn (pc + 1) L st (w.set a (zI n (upd f i.toNatClampNeg x)))) : Go X M Q n0 cn sn pc L (.int x :: .int i :: .ref a :: st) w := by
  intro p l e s m args below meth c D ad0 ad tC A H locs ls Z hC hK hX hR hl hZ
  exact va_iast hC.1 hC.2.1 hK.1 hR.1 hR.2.1 hR.2.2.1 a 0 (gw_at he) rfl hin hd (fun H1 locs1 h1 h2 h3 => k p l e s m args below meth c D ad0 ad tC A H1 locs1 ls Z hC hK hX (Rl_set (e := zI n (upd f i.toNatClampNeg x)) hR h1 h2 h3) hl hZ)
theorem go_last {a n : Nat} {f : Nat → Int64} {i : Int32} {x : Int64} (hd : decode M.2.1 pc = .ok (.lastore, 1)) (he : w[a]? = some (zL n f)) (hin : vp_in i n) (k : Go X M Q n0 cn sn (pc + 1) L st (w.set a (zL n (vp_updL f i.toNatClampNeg x)))) : Go X M Q n0 cn sn pc L (.long x :: .int i :: .ref a :: st) w := by
  intro p l e s m args below meth c D ad0 ad tC A H locs ls Z hC hK hX hR hl hZ
  exact va_last hC.1 hC.2.1 hK.1 hR.1 hR.2.1 hR.2.2.1 a 1 (gw_at he) rfl hin hd (fun H1 locs1 h1 h2 h3 => k p l e s m args below meth c D ad0 ad tC A H1 locs1 ls Z hC hK hX (Rl_set (e := zL n (vp_updL f i.toNatClampNeg x)) hR h1 h2 h3) hl hZ)
theorem refs_set {ad : Nat → Nat} {r : List (Option Nat)} {j b : Nat} (hj : j < r.length) : (fun i => ((r.set j (some b)).getD i none).map ad) = va_up (fun i => (r.getD i none).map ad) j (some (ad b)) := by
  funext i
  simp only [va_up, List.getD_eq_getElem?_getD, List.getElem?_set]
  by_cases h : j = i
  · subst h; simp [hj]
  · rw [if_neg h, if_neg (fun q => h q.symm)]
theorem go_aast {a n b ci : Nat} {r : List (Option Nat)} {fs : List Value} {i : Int32} (hd : decode M.2.1 pc = .ok (.aastore, 1)) (he : w[a]? = some (zR n r)) (hb : w[b]? = some (zO ci fs)) (hc : ∃ T N, vwCl[ci]? = some (RX6, T, N)) (hin : vp_in i n) (hlen : r.length = n) (k : Go X M Q n0 cn sn (pc + 1) L st (w.set a (zR n (r.set i.toNatClampNeg (some b))))) : Go X M Q n0 cn sn pc L (.ref b :: .int i :: .ref a :: st) w := by
  intro p l e s m args below meth c D ad0 ad tC A H locs ls Z hC hK hX hR hl hZ
  obtain ⟨T, N, hc⟩ := hc
  have hj : i.toNatClampNeg < r.length := by rw [hlen]; exact Nat.not_le.mp fun q => hin (Or.inr q)
  refine va_astq hC.1 hC.2.1 hK.1 hR.1 hR.2.1 hR.2.2.1 a 2 b ci (gw_at he) rfl (gw_at hb) hc hin hd (fun H1 locs1 h1 h2 h3 => ?_)
  rw [← refs_set hj] at h1 h2
  exact k p l e s m args below meth c D ad0 ad tC A H1 locs1 ls Z hC hK hX (Rl_set (e := zR n (r.set i.toNatClampNeg (some b))) hR h1 h2 h3) hl hZ
theorem go_alen {a : Nat} {x : Nat × ((Nat → Int32) ⊕ (Nat → Int64) ⊕ List (Option Nat))} (v : Int32) (hd : decode M.2.1 pc = .ok (.arraylength, 1)) (he : w[a]? = some (.inl x)) (hv : Int32.ofNat x.1 = v) (k : Go X M Q n0 cn sn (pc + 1) L (.int v :: st) w) : Go X M Q n0 cn sn pc L (.ref a :: st) w := by
  intro p l e s m args below meth c D ad0 ad tC A H locs ls Z hC hK hX hR hl hZ
  have k := k p l e s m args below meth c D ad0 ad tC A H locs ls Z hC hK hX hR hl hZ
  match x, he, hv with
  | (n, .inl f), he, hv => exact va_alen hC.1 hC.2.1 hK.1 hR.1 a 0 (gw_at he) rfl hv hd k
  | (n, .inr (.inl f)), he, hv => exact va_alen hC.1 hC.2.1 hK.1 hR.1 a 1 (gw_at he) rfl hv hd k
  | (n, .inr (.inr f)), he, hv => exact va_alen hC.1 hC.2.1 hK.1 hR.1 a 2 (gw_at he) rfl hv hd k
/-! returns -/
theorem go_ret {v : Option Value} (hr : rti M pc v) (hc : cn ≤ M.2.2.2.2.cells) (hs : sn ≤ M.2.2.2.2.slots) (hQ : Q v w) : Go X M Q n0 cn sn pc L v.toList w := by
  intro p l e s m args below meth c D ad0 ad tC A H locs ls Z hC hK hX hR hl hZ
  have h := hZ v w ad H locs ls pc hQ hR hr
  refine W.widen hc hs ?_
  have e1 : (v.map (gv ad)).toList = v.toList.map (gv ad) := by cases v <;> rfl
  rw [← e1]
  exact h
theorem go_ireturn {x : Int32} {ty : FieldType} (hd : decode M.2.1 pc = .ok (.ireturn, 1)) (ht : M.2.2.2.1 = some ty) (hn : narrow ty (.int x) = .int x) (hc : cn ≤ M.2.2.2.2.cells) (hs : sn ≤ M.2.2.2.2.slots) (hQ : Q (some (.int x)) w) : Go X M Q n0 cn sn pc L [.int x] w :=
  go_ret (v := some (.int x)) ⟨hd, ty, ht, hn⟩ hc hs hQ
theorem go_lreturn {x : Int64} (hd : decode M.2.1 pc = .ok (.lreturn, 1)) (ht : M.2.2.2.1 = some .long) (hc : cn ≤ M.2.2.2.2.cells) (hs : sn ≤ M.2.2.2.2.slots) (hQ : Q (some (.long x)) w) : Go X M Q n0 cn sn pc L [.long x] w :=
  go_ret (v := some (.long x)) ⟨hd, ht⟩ hc hs hQ
theorem go_areturn {a : Nat} {n : String} (hd : decode M.2.1 pc = .ok (.areturn, 1)) (ht : M.2.2.2.1 = some (.object n)) (hc : cn ≤ M.2.2.2.2.cells) (hs : sn ≤ M.2.2.2.2.slots) (hQ : Q (some (.ref a)) w) : Go X M Q n0 cn sn pc L [.ref a] w :=
  go_ret (v := some (.ref a)) ⟨hd, n, ht⟩ hc hs hQ
theorem go_return (hd : decode M.2.1 pc = .ok (.return_, 1)) (ht : M.2.2.2.1 = none) (hc : cn ≤ M.2.2.2.2.cells) (hs : sn ≤ M.2.2.2.2.slots) (hQ : Q none w) : Go X M Q n0 cn sn pc L [] w :=
  go_ret (v := none) ⟨hd, ht⟩ hc hs hQ
/-! Math -/
theorem go_min {i : Nat} {x y : Int32} (hd : decode M.2.1 pc = .ok (.invokestatic i, 3)) (hl2 : Cond.methodLink M.1.cls i yJ9_min_7cf53 ∈ tb) (hf : 1 ≤ M.2.2.2.2.frames) (hlo : (st.map fun v => v.category).sum + 13 ≤ M.2.2.2.2.locals) (hc : cn ≤ M.2.2.2.2.cells) (hs : sn ≤ M.2.2.2.2.slots) (k : Go X M Q n0 cn sn (pc + 3) L (.int (if y < x then y else x) :: st) w) : Go X M Q n0 cn sn pc L (.int y :: .int x :: st) w := by
  intro p l e s m args below meth c D ad0 ad tC A H locs ls Z hC hK hX hR hl hZ
  have e1 : (st.map (gv ad)).map (fun v => v.category) = st.map fun v => v.category := by simp [gv_cat]
  exact va_mmin hC.1 hC.2.1 (hC.2.2.1.trans hl.1.symm) hC.2.2.2.2.1 (hC.2.2.2.2.2.1 _ hl2) (hC.2.2.2.2.2.1 _ sJ9_min_7cf53) (hC.2.2.2.2.2.1 _ in_J9) (hC.2.2.2.2.2.1 _ wJ9_min_7cf53) hf (by rw [e1]; exact hlo) hc hs hd (k p l e s m args below meth c D ad0 ad tC A H locs ls Z hC hK hX hR hl hZ)
theorem go_max {i : Nat} {x y : Int32} (hd : decode M.2.1 pc = .ok (.invokestatic i, 3)) (hl2 : Cond.methodLink M.1.cls i yJ9_max_7cf53 ∈ tb) (hf : 1 ≤ M.2.2.2.2.frames) (hlo : (st.map fun v => v.category).sum + 13 ≤ M.2.2.2.2.locals) (hc : cn ≤ M.2.2.2.2.cells) (hs : sn ≤ M.2.2.2.2.slots) (k : Go X M Q n0 cn sn (pc + 3) L (.int (if x < y then y else x) :: st) w) : Go X M Q n0 cn sn pc L (.int y :: .int x :: st) w := by
  intro p l e s m args below meth c D ad0 ad tC A H locs ls Z hC hK hX hR hl hZ
  have e1 : (st.map (gv ad)).map (fun v => v.category) = st.map fun v => v.category := by simp [gv_cat]
  exact va_mmax hC.1 hC.2.1 (hC.2.2.1.trans hl.1.symm) hC.2.2.2.2.1 (hC.2.2.2.2.2.1 _ hl2) (hC.2.2.2.2.2.1 _ sJ9_max_7cf53) (hC.2.2.2.2.2.1 _ in_J9) (hC.2.2.2.2.2.1 _ wJ9_max_7cf53) hf (by rw [e1]; exact hlo) hc hs hd (k p l e s m args below meth c D ad0 ad tC A H locs ls Z hC hK hX hR hl hZ)
theorem go_lmax {i : Nat} {x y : Int64} (hd : decode M.2.1 pc = .ok (.invokestatic i, 3)) (hl2 : Cond.methodLink M.1.cls i yJ9_max_f86c9 ∈ tb) (hf : 1 ≤ M.2.2.2.2.frames) (hlo : (st.map fun v => v.category).sum + 15 ≤ M.2.2.2.2.locals) (hc : cn ≤ M.2.2.2.2.cells) (hs : sn ≤ M.2.2.2.2.slots) (k : Go X M Q n0 cn sn (pc + 3) L (.long (if y < x then x else y) :: st) w) : Go X M Q n0 cn sn pc L (.long y :: .long x :: st) w := by
  intro p l e s m args below meth c D ad0 ad tC A H locs ls Z hC hK hX hR hl hZ
  have e1 : (st.map (gv ad)).map (fun v => v.category) = st.map fun v => v.category := by simp [gv_cat]
  exact va_mmax_long hC.1 hC.2.1 (hC.2.2.1.trans hl.1.symm) hC.2.2.2.2.1 (hC.2.2.2.2.2.1 _ hl2) (hC.2.2.2.2.2.1 _ sJ9_max_f86c9) (hC.2.2.2.2.2.1 _ in_J9) (hC.2.2.2.2.2.1 _ wJ9_max_f86c9) hf (by rw [e1]; exact hlo) hc hs hd (k p l e s m args below meth c D ad0 ad tC A H locs ls Z hC hK hX hR hl hZ)
end Heap
end
section
def rho (ps : List Nat) (n j : Nat) : Nat := match ps[j]? with
  | some i => i
  | none => n + (j - ps.length)
def mgp (r : Nat → Nat) : List Nat → List AE → List AE → List AE
  | i :: ps, e :: w1, w => mgp r ps w1 (w.set i (rn r e))
  | _, _, w => w
theorem mgp_len (r : Nat → Nat) : ∀ (ps : List Nat) (w1 w : List AE), (mgp r ps w1 w).length = w.length
  | [], _, w => rfl
  | i :: ps, [], w => rfl
  | i :: ps, e :: w1, w => by rw [mgp, mgp_len r ps w1, List.length_set]
theorem mgp_out (r : Nat → Nat) : ∀ (ps : List Nat) (w1 w : List AE) (k : Nat), k ∉ ps → (mgp r ps w1 w)[k]? = w[k]?
  | [], _, w, k, _ => rfl
  | i :: ps, [], w, k, _ => rfl
  | i :: ps, e :: w1, w, k, h => by
    rw [mgp, mgp_out r ps w1 _ k (fun q => h (List.mem_cons_of_mem _ q)), List.getElem?_set_ne (fun q => h (by rw [q]; exact List.mem_cons_self))]
theorem mgp_in (r : Nat → Nat) : ∀ (ps : List Nat) (w1 w : List AE) (j i : Nat) (e : AE), va_nd ps = true → ps[j]? = some i → w1[j]? = some e → i < w.length → (mgp r ps w1 w)[i]? = some (rn r e)
  | [], _, w, j, i, e, _, h, _, _ => by simp at h
  | a :: ps, [], w, j, i, e, _, _, h, _ => by simp at h
  | a :: ps, b :: w1, w, 0, i, e, hn, h1, h2, h3 => by
    simp at h1 h2
    subst h1; subst h2
    have hno : a ∉ ps := fun q => by
      obtain ⟨k, hk⟩ := List.getElem?_of_mem q
      have := va_nd_inj _ hn 0 (k + 1) a rfl (by simpa using hk)
      omega
    rw [mgp, mgp_out r ps w1 _ a hno, List.getElem?_set_self h3]
  | a :: ps, b :: w1, w, j + 1, i, e, hn, h1, h2, h3 => by
    have hn2 : va_nd ps = true := by
      simp only [va_nd, Bool.and_eq_true] at hn
      exact hn.2
    rw [mgp]
    exact mgp_in r ps w1 _ j i e hn2 (by simpa using h1) (by simpa using h2) (by rw [List.length_set]; exact h3)
theorem rho_in {ps : List Nat} {n j i : Nat} (h : ps[j]? = some i) : rho ps n j = i := by simp [rho, h]
theorem hw_at {w wc : List AE} {r : Nat → Nat} {ps : List Nat} (hw : ps.map (fun i => w[i]?) = wc.map (fun e => some (rn r e))) {j : Nat} {e : AE} (h : wc[j]? = some e) : ∃ i, ps[j]? = some i ∧ w[i]? = some (rn r e) := by
  have h1 : (ps.map (fun i => w[i]?))[j]? = some (some (rn r e)) := by rw [hw, List.getElem?_map, h]; rfl
  rw [List.getElem?_map] at h1
  cases hi : ps[j]? with
  | none => rw [hi] at h1; cases h1
  | some i => rw [hi] at h1; exact ⟨i, rfl, Option.some.inj h1⟩
theorem hw_len {w wc : List AE} {r : Nat → Nat} {ps : List Nat} (hw : ps.map (fun i => w[i]?) = wc.map (fun e => some (rn r e))) : wc.length = ps.length := by
  have := congrArg List.length hw
  simpa using this.symm
theorem gi {ws : List Cond} (h : ∀ w ∈ ws, w ∈ tb) : GoodIn tb ws := fun w hw => ⟨h w hw, good_of_word (tb_out (h w hw)).2⟩
section Calls9
variable {X : (Nat → Nat) → State → (Nat → Prop) → Prop} {M z : MD} {Q Qz : Option Value → List AE → Prop} {n0 cn sn pc : Nat} {L : List (Option Value)} {st : List Value} {w wc : List AE}
variable {p : Program} {l : Launch} {e : Env} {s : State} {m : MethodId} {args : Array Value} {below : List Frame} {meth : Method} {c : Code} {D : va_G} {ad0 ad tC : Nat → Nat} {A : Nat → Prop} {H : Heap} {locs : List Loc} {ls : Array Slot} {Z : State → Prop}
/-- the callee's world at the call -/
theorem cw_P (hR : Rl D tC A n0 ad0 ad w s H locs) {ps : List Nat} (hw : ps.map (fun i => w[i]?) = wc.map (fun e => some (rn (rho ps w.length) e))) : va_P D vwCl (gw (fun k => ad (rho ps w.length k)) tC wc) H := by
  rw [gw_P]
  intro j e he
  obtain ⟨i, h1, h2⟩ := hw_at hw he
  have h3 := gw_P.mp hR.1 i _ h2
  rw [ge_rn] at h3
  rw [rho_in h1]
  exact h3
theorem cw_D (hR : Rl D tC A n0 ad0 ad w s H locs) {ps : List Nat} (hw : ps.map (fun i => w[i]?) = wc.map (fun e => some (rn (rho ps w.length) e))) (hnd : va_nd ps = true) : DA A (fun k => ad (rho ps w.length k)) wc.length := by
  have hD := gw_D.mp hR.2.1
  have key : ∀ j, j < wc.length → ∃ i, ps[j]? = some i ∧ i < w.length := fun j hj => by
    obtain ⟨i, h1, h2⟩ := hw_at hw (List.getElem?_eq_getElem hj)
    exact ⟨i, h1, (List.getElem?_eq_some_iff.mp h2).1⟩
  refine ⟨fun i j hi hj h => ?_, fun k hk => ?_⟩
  · obtain ⟨a, a1, a2⟩ := key i hi
    obtain ⟨b, b1, b2⟩ := key j hj
    simp only [rho_in a1, rho_in b1] at h
    have := hD.1 a b a2 b2 h
    subst this
    exact va_nd_inj _ hnd i j a a1 b1
  · obtain ⟨a, a1, a2⟩ := key k hk
    simp only [rho_in a1]
    exact hD.2 a a2
theorem cw_A (hR : Rl D tC A n0 ad0 ad w s H locs) {ps : List Nat} (hw : ps.map (fun i => w[i]?) = wc.map (fun e => some (rn (rho ps w.length) e))) (hnd : va_nd ps = true) : ∀ q, va_A (gw (fun k => ad (rho ps w.length k)) tC wc) H.size q → A q := by
  rintro q (⟨k, e, h⟩ | h)
  · obtain ⟨e1, h1, h2⟩ := gw_inv h
    have h3 := (cw_D hR hw hnd).2 k (List.getElem?_eq_some_iff.mp h1).1
    have h4 := congrArg Prod.fst h2
    simp only at h4
    rw [h4]
    exact h3
  · exact hR.2.2.2.1 q (Nat.le_trans hR.2.2.1.1 h)
theorem Rl_lt (hR : Rl D tC A n0 ad0 ad w s H locs) {k : Nat} (hk : k < w.length) : ad k < H.size := (gw_P.mp hR.1 k _ (List.getElem?_eq_getElem hk)).lt
theorem cw_not (hR : Rl D tC A n0 ad0 ad w s H locs) {ps : List Nat} (hw : ps.map (fun i => w[i]?) = wc.map (fun e => some (rn (rho ps w.length) e))) {k : Nat} (hk : k < w.length) (hn : k ∉ ps) : ¬ va_A (gw (fun k => ad (rho ps w.length k)) tC wc) H.size (ad k) := by
  rintro (⟨j, e, h⟩ | h)
  · obtain ⟨e1, h1, h2⟩ := gw_inv h
    obtain ⟨i, h3, h4⟩ := hw_at hw h1
    have h5 := congrArg Prod.fst h2
    simp only [rho_in h3] at h5
    have := (gw_D.mp hR.2.1).1 k i hk (List.getElem?_eq_some_iff.mp h4).1 h5
    subst this
    exact hn (List.mem_of_getElem? h3)
  · exact absurd (Rl_lt hR hk) (by omega)
abbrev Qca (z : MD) (Qz : Option Value → List AE → Prop) (D : va_G) (tC adc : Nat → Nat) (wc : List AE) (sz : Nat) : State → Outcome → State → Prop := fun st oc t => (∃ (v : Option Value) (w1 : List AE) (ad1 : Nat → Nat), oc = .returned (v.map (gv ad1)) ∧ Qz v w1 ∧ adx wc.length w1.length adc ad1 ∧ va_P D vwCl (gw ad1 tC w1) t.heap ∧ va_D (va_A (gw adc tC wc) sz) (gw ad1 tC w1)) ∧ va_F (va_A (gw adc tC wc) sz) st t
theorem toList_map {f : Value → Value} (v : Option Value) : (v.map f).toList = v.toList.map f := by cases v <;> rfl
theorem call_core {mc ms : Nat} {ps : List Nat} {rest st0 : List Value} (hC : Cx M p s m args meth c) (hK : KK D tC s) (hX : X ad0 s A) (hR : Rl D tC A n0 ad0 ad w s H locs) (hl : lh ls M.2.2.1 ad L) (hZ : Rt M p l e s m args below meth c D tC A n0 ad0 Q Z)
    (hw : ps.map (fun i => w[i]?) = wc.map (fun e => some (rn (rho ps w.length) e))) (hnd : va_nd ps = true) (hQ : ∀ v w1, Qz v w1 → w1.length = ps.length)
    (k : ∀ v w1, Qz v w1 → Go X M Q n0 (cn + mc) (sn + ms) (pc + 3) L ((v.map (gv (rho ps w.length))).toList ++ rest) (mgp (rho ps w.length) ps w1 w))
    (hr : va_Run p l e M.2.2.2.2 s m args below meth c H locs cn sn mc ms (F0 m pc ls st0) (rest.map (gv ad)) (Qca z Qz D tC (fun k => ad (rho ps w.length k)) wc H.size) (va_A (gw (fun k => ad (rho ps w.length k)) tC wc) H.size)) :
    W p l e M.2.2.2.2 s m args below meth c H locs cn sn Z (F0 m pc ls st0) := by
  intro T hT XX
  obtain ⟨v, st₀, t, T', L', h0, X', hL, e1, e2, ⟨⟨v1, w1, ad1, hv, hq, hadx, hP1, hD1⟩, hz, hk⟩, stp⟩ := hr T hT XX
  have hAA := cw_A hR hw hnd
  have hlen := hQ v1 w1 hq
  have hwl := hw_len hw
  have had : ad1 = fun k => ad (rho ps w.length k) := hadx.2.2 (by omega)
  subst had
  cases hv
  rw [h0] at hz hk
  have hR' : Rl D tC A n0 ad0 ad (mgp (rho ps w.length) ps w1 w) s T'.heap (locs ++ L') := by
    have g := hR.2.2.1
    refine ⟨gw_P.mpr fun k e he => ?_, gw_D.mpr (by rw [mgp_len]; exact gw_D.mp hR.2.1), ⟨Nat.le_trans g.1 (by rw [e1]; exact hz), fun q h1 h2 => by rw [e1, hk q (Nat.lt_of_lt_of_le h1 g.1) (fun y => h2 (hAA q y))]; exact g.2.1 q h1 h2, fun q hq => ?_⟩, hR.2.2.2.1, by rw [mgp_len]; exact hR.2.2.2.2.1, hR.2.2.2.2.2.1, fun q => hR.2.2.2.2.2.2.1 (by rw [← q, mgp_len]), hR.2.2.2.2.2.2.2⟩
    · have hkl : k < w.length := by
        have := (List.getElem?_eq_some_iff.mp he).1
        rwa [mgp_len] at this
      by_cases hin : k ∈ ps
      · obtain ⟨j, hj⟩ := List.getElem?_of_mem hin
        have hjl : j < w1.length := by rw [hlen]; exact (List.getElem?_eq_some_iff.mp hj).1
        have h3 := mgp_in (rho ps w.length) ps w1 w j k _ hnd hj (List.getElem?_eq_getElem hjl) hkl
        rw [he] at h3
        cases h3
        have h4 := gw_P.mp hP1 j _ (List.getElem?_eq_getElem hjl)
        rw [rho_in hj] at h4
        rw [ge_rn, e1]
        exact h4
      · rw [mgp_out _ _ _ _ _ hin] at he
        refine (gw_P.mp hR.1 k e he).kept ?_
        rw [e1]
        exact hk _ (Rl_lt hR hkl) (cw_not hR hw hkl hin)
    · rcases List.mem_append.mp hq with h | h
      · exact g.2.2 q h
      · exact hAA _ (hL q h)
  obtain ⟨t2, a1, b1⟩ := k v1 w1 hq p l e s m args below meth c D ad0 ad tC A T'.heap (locs ++ L') ls Z hC hK hX hR' hl hZ T' rfl X'
  refine ⟨t2, stp t2 ?_, b1⟩
  rw [List.map_append, ← toList_map, Option.map_map] at a1
  have e3 : (gv ad ∘ gv (rho ps w.length)) = gv (fun k => ad (rho ps w.length k)) := funext fun v => gv_gv ad _ v
  rw [e3] at a1
  exact a1
theorem ev_blind {av : List Value} {sz : Nat} : FrameBlind (va_Pc (av.map (gv ad)) (fun U => U.heap.size = sz ∧ va_P D vwCl (gw ad tC w) U.heap ∧ KK D tC U ∧ va_D (fun _ => True) (gw ad tC w))) := by
  rintro a U g mk ⟨q0, q1, q2, q3, q4⟩
  exact ⟨q0, q1, q2, q3.blind, q4⟩
theorem av_map {ps : List Nat} {n : Nat} (av : List Value) : (av.map (gv (rho ps n))).map (gv ad) = av.map (gv (fun k => ad (rho ps n k))) := by
  rw [List.map_map]
  congr 1
  funext v
  exact gv_gv ad _ v
end Calls9
/-- the callee's room fits the caller's -/
def Fit (M z : MD) (cn sn : Nat) : Prop := (z.2.2.2.2.frames + 1 ≤ M.2.2.2.2.frames ∧ 8 + (z.2.2.1 + 11) + z.2.2.2.2.locals ≤ M.2.2.2.2.locals) ∧ cn + z.2.2.2.2.cells ≤ M.2.2.2.2.cells ∧ sn + z.2.2.2.2.slots ≤ M.2.2.2.2.slots
section Calls8
variable {X : (Nat → Nat) → State → (Nat → Prop) → Prop} {M z : MD} {Q Qz : Option Value → List AE → Prop} {n0 cn sn pc : Nat} {L : List (Option Value)} {st : List Value} {w wc : List AE}
set_option maxHeartbeats 1000000 in
theorem go_callS {i n : Nat} {av rest : List Value} (ps : List Nat) (hd : decode M.2.1 pc = .ok (.invokestatic i, 3)) (hlk : Cond.methodLink M.1.cls i z.1 ∈ tb) (hz : CS z n) (hE : Ev z av wc Qz) (hst : st = (av.map (gv (rho ps w.length))).reverse ++ rest) (hw : ps.map (fun i => w[i]?) = wc.map (fun e => some (rn (rho ps w.length) e))) (hnd : va_nd ps = true) (hn : av.length = n) (hF : Fit M z cn sn) (hrest : (rest.map fun v => v.category).sum ≤ 8) (hQ : ∀ v w1, Qz v w1 → w1.length = ps.length)
    (k : ∀ v w1, Qz v w1 → Go X M Q n0 (cn + z.2.2.2.2.cells) (sn + z.2.2.2.2.slots) (pc + 3) L ((v.map (gv (rho ps w.length))).toList ++ rest) (mgp (rho ps w.length) ps w1 w)) : Go X M Q n0 cn sn pc L st w := by
  intro p l e s m args below meth c D ad0 ad tC A H locs ls Z hC hK hX hR hl hZ
  have hts := hC.2.2.2.2.2.1
  refine call_core (z := z) (rest := rest) hC hK hX hR hl hZ hw hnd hQ k ?_
  refine va_runS (As := av.map (gv (fun k => ad (rho ps w.length k)))) ⟨hC.1, hC.2.1, hC.2.2.1, hC.2.2.2.2.1, hts⟩ (hE l D tC _ H.size) (va_cwS n hts (gi fun x hx => ?_) rfl rfl rfl hz.1.2.1 hF.1) ⟨ev_blind, fun U hU hW => ⟨rfl, by rw [hU], by rw [hU]; exact cw_P hR hw, hK.warm hW, gw_D.mpr ⟨(cw_D hR hw hnd).1, fun _ _ => trivial⟩⟩⟩ rfl (by rw [List.length_map]; exact hn) hl.1 ?_ (lv_room ?_) hd hF.2
  · simp only [va_wsS, List.mem_append, List.mem_cons, List.not_mem_nil, or_false] at hx
    rcases hx with (rfl | rfl | rfl) | rfl | hx
    · exact hlk
    · exact hz.2
    · exact hz.1.2.2.2
    · exact hz.1.2.2.1
    · exact hx
  · show st.map (gv ad) = _
    rw [hst, List.map_append, List.map_reverse, av_map]
  · have e1 : (rest.map (gv ad)).map (fun v => v.category) = rest.map fun v => v.category := by simp [gv_cat]
    rw [e1]; exact hrest
set_option maxHeartbeats 1000000 in
theorem go_callV {i n j ci : Nat} {fs av rest : List Value} (ps : List Nat) (hd : decode M.2.1 pc = .ok (.invokevirtual i, 3)) (hlk : Cond.methodLink M.1.cls i z.1 ∈ tb) (hz : CV z n) (hE : Ev z (.ref j :: av) wc Qz) (hst : st = (av.map (gv (rho ps w.length))).reverse ++ .ref (rho ps w.length j) :: rest) (hw : ps.map (fun i => w[i]?) = wc.map (fun e => some (rn (rho ps w.length) e))) (hnd : va_nd ps = true) (hn : av.length = n) (hrc : wc[j]? = some (zO ci fs)) (hcl : ∃ T N, vwCl[ci]? = some (z.1.cls, T, N)) (hF : Fit M z cn sn) (hrest : (rest.map fun v => v.category).sum ≤ 8) (hQ : ∀ v w1, Qz v w1 → w1.length = ps.length)
    (k : ∀ v w1, Qz v w1 → Go X M Q n0 (cn + z.2.2.2.2.cells) (sn + z.2.2.2.2.slots) (pc + 3) L ((v.map (gv (rho ps w.length))).toList ++ rest) (mgp (rho ps w.length) ps w1 w)) : Go X M Q n0 cn sn pc L st w := by
  intro p l e s m args below meth c D ad0 ad tC A H locs ls Z hC hK hX hR hl hZ
  have hts := hC.2.2.2.2.2.1
  obtain ⟨T, N, hcl⟩ := hcl
  refine call_core (z := z) (rest := rest) hC hK hX hR hl hZ hw hnd hQ k ?_
  refine va_runV (C := z.1.cls) (b := ad (rho ps w.length j)) (As := av.map (gv (fun k => ad (rho ps w.length k)))) ⟨hC.1, hC.2.1, hC.2.2.1, hC.2.2.2.2.1, hts⟩ (hE l D tC _ H.size) (cwV n hts (gi fun x hx => ?_) rfl rfl rfl ⟨rfl, hz.1.2.1⟩ hF.1) ⟨ev_blind, va_recv hK.1 (cw_P hR hw) hcl (gw_at hrc), fun U hU hW => ⟨rfl, by rw [hU], by rw [hU]; exact cw_P hR hw, hK.warm hW, gw_D.mpr ⟨(cw_D hR hw hnd).1, fun _ _ => trivial⟩⟩⟩ rfl (by rw [List.length_map]; exact hn) hl.1 ?_ (lv_room ?_) hd hF.2
  · simp only [wsV, List.mem_append, List.mem_cons, List.not_mem_nil, or_false] at hx
    rcases hx with (rfl | rfl | rfl | rfl) | rfl | hx
    · exact hlk
    · exact hz.2.1
    · exact hz.2.2
    · exact hz.1.2.2.2
    · exact hz.1.2.2.1
    · exact hx
  · show st.map (gv ad) = _
    rw [hst, List.map_append, List.map_reverse, av_map]
    rfl
  · have e1 : (rest.map (gv ad)).map (fun v => v.category) = rest.map fun v => v.category := by simp [gv_cat]
    rw [e1]; exact hrest
set_option maxHeartbeats 1000000 in
theorem go_callI {i n j : Nat} {av rest : List Value} (ps : List Nat) (hd : decode M.2.1 pc = .ok (.invokespecial i, 3)) (hlk : Cond.methodLink M.1.cls i z.1 ∈ tb) (hz : CI z n) (hrt : z.2.2.2.1 = none) (hE : Ev z (.ref j :: av) wc Qz) (hst : st = (av.map (gv (rho ps w.length))).reverse ++ .ref (rho ps w.length j) :: rest) (hw : ps.map (fun i => w[i]?) = wc.map (fun e => some (rn (rho ps w.length) e))) (hnd : va_nd ps = true) (hn : av.length = n) (hF : Fit M z cn sn) (hrest : (rest.map fun v => v.category).sum ≤ 8) (hQ : ∀ v w1, Qz v w1 → w1.length = ps.length)
    (k : ∀ v w1, Qz v w1 → Go X M Q n0 (cn + z.2.2.2.2.cells) (sn + z.2.2.2.2.slots) (pc + 3) L ((v.map (gv (rho ps w.length))).toList ++ rest) (mgp (rho ps w.length) ps w1 w)) : Go X M Q n0 cn sn pc L st w := by
  intro p l e s m args below meth c D ad0 ad tC A H locs ls Z hC hK hX hR hl hZ
  have hts := hC.2.2.2.2.2.1
  refine call_core (z := z) (rest := rest) hC hK hX hR hl hZ hw hnd hQ k ?_
  refine va_runI (bytes := z.2.1) (maxL := z.2.2.1) (ws := wCode z :: tb) (b := ad (rho ps w.length j)) (As := av.map (gv (fun k => ad (rho ps w.length k)))) ⟨hC.1, hC.2.1, hC.2.2.1, hC.2.2.2.2.1, hts⟩ (hE l D tC _ H.size) (cwI n hts (gi fun x hx => ?_) (by show wCode z :: tb = _; unfold wCode; rw [hrt]) rfl rfl (hts _ hz.1.2.2.2) (hts _ hlk) (hts _ hz.2.1) hz.2.2 hz.1.2.1 hF.1) ⟨ev_blind, fun U hU hW => ⟨rfl, by rw [hU], by rw [hU]; exact cw_P hR hw, hK.warm hW, gw_D.mpr ⟨(cw_D hR hw hnd).1, fun _ _ => trivial⟩⟩⟩ rfl (by rw [List.length_map]; exact hn) hl.1 ?_ (lv_room ?_) hd hF.2
  · rcases List.mem_cons.mp hx with rfl | hx
    · exact hz.1.2.2.1
    · exact hx
  · show st.map (gv ad) = _
    rw [hst, List.map_append, List.map_reverse, av_map]
    rfl
  · have e1 : (rest.map (gv ad)).map (fun v => v.category) = rest.map fun v => v.category := by simp [gv_cat]
    rw [e1]; exact hrest
end Calls8
end
section
def fitB (M z : MD) (cn sn : Nat) : Bool := Nat.ble (z.2.2.2.2.frames + 1) M.2.2.2.2.frames && Nat.ble (8 + (z.2.2.1 + 11) + z.2.2.2.2.locals) M.2.2.2.2.locals && Nat.ble (cn + z.2.2.2.2.cells) M.2.2.2.2.cells && Nat.ble (sn + z.2.2.2.2.slots) M.2.2.2.2.slots
theorem fit_of {M z : MD} {cn sn : Nat} (h : fitB M z cn sn = true) : Fit M z cn sn := by
  simp only [fitB, Bool.and_eq_true] at h
  exact ⟨⟨Nat.le_of_ble_eq_true h.1.1.1, Nat.le_of_ble_eq_true h.1.1.2⟩, Nat.le_of_ble_eq_true h.1.2, Nat.le_of_ble_eq_true h.2⟩
def resB (rest : List Value) : Bool := Nat.ble (rest.map fun v => v.category).sum 8
theorem res_of {rest : List Value} (h : resB rest = true) : (rest.map fun v => v.category).sum ≤ 8 := Nat.le_of_ble_eq_true h
/-- a world that comes back as it was -/
theorem mgp_same {w wc : List AE} (r : Nat → Nat) : ∀ (ps : List Nat) (wc w : List AE), ps.map (fun i => w[i]?) = wc.map (fun e => some (rn r e)) → mgp r ps wc w = w
  | [], wc, w, h => rfl
  | i :: ps, [], w, h => rfl
  | i :: ps, e :: wc, w, h => by
    simp only [List.map_cons, List.cons.injEq] at h
    have h1 : w.set i (rn r e) = w := by
      apply List.ext_getElem?
      intro j
      rw [List.getElem?_set]
      by_cases hj : i = j
      · subst hj
        have := (List.getElem?_eq_some_iff.mp h.1).1
        simp [this]
        exact (List.getElem?_eq_some_iff.mp h.1).2.symm
      · simp [hj]
    rw [mgp, h1]
    exact mgp_same (w := w) (wc := wc) r ps wc w h.2
section C8
variable {X : (Nat → Nat) → State → (Nat → Prop) → Prop} {M z : MD} {Q : Option Value → List AE → Prop} {n0 cn sn pc : Nat} {L : List (Option Value)} {st : List Value} {w wc : List AE}
/-- what a method answers that leaves the world as it was -/
abbrev Rd (wc : List AE) (P : Option Value → Prop) : Option Value → List AE → Prop := fun v w1 => P v ∧ w1 = wc
abbrev Ri (wc : List AE) (r : Int32) : Option Value → List AE → Prop := Rd wc (fun v => v = some (.int r))
abbrev Rj (wc : List AE) (r : Int64) : Option Value → List AE → Prop := Rd wc (fun v => v = some (.long r))
/-- what a method answers that comes to one answer and one world -/
abbrev Rw (v0 : Option Value) (w0 : List AE) : Option Value → List AE → Prop := fun v w1 => v = v0 ∧ w1 = w0
theorem rdz {P : Option Value → Prop} {ps : List Nat} {r : Nat → Nat} (hw : ps.map (fun i => w[i]?) = wc.map (fun e => some (rn r e))) : ∀ v w1, Rd wc P v w1 → w1.length = ps.length := by
  rintro v w1 ⟨-, rfl⟩
  exact hw_len hw
theorem go_callSi {i n : Nat} {av rest : List Value} {r : Int32} (ps : List Nat) (hd : decode M.2.1 pc = .ok (.invokestatic i, 3)) (hlk : Cond.methodLink M.1.cls i z.1 ∈ tb) (hz : CS z n) (hE : Ev z av wc (Ri wc r)) (hst : st = (av.map (gv (rho ps w.length))).reverse ++ rest) (hw : ps.map (fun i => w[i]?) = wc.map (fun e => some (rn (rho ps w.length) e))) (hnd : va_nd ps = true) (hn : av.length = n) (hF : fitB M z cn sn = true) (hrest : resB rest = true)
    (k : Go X M Q n0 (cn + z.2.2.2.2.cells) (sn + z.2.2.2.2.slots) (pc + 3) L (.int r :: rest) w) : Go X M Q n0 cn sn pc L st w :=
  go_callS ps hd hlk hz hE hst hw hnd hn (fit_of hF) (res_of hrest) (rdz hw) (by
    rintro v w1 ⟨rfl, rfl⟩
    rw [mgp_same (w := w) (wc := w1) _ _ _ _ hw]
    exact k)
theorem go_callSj {i n : Nat} {av rest : List Value} {r : Int64} (ps : List Nat) (hd : decode M.2.1 pc = .ok (.invokestatic i, 3)) (hlk : Cond.methodLink M.1.cls i z.1 ∈ tb) (hz : CS z n) (hE : Ev z av wc (Rj wc r)) (hst : st = (av.map (gv (rho ps w.length))).reverse ++ rest) (hw : ps.map (fun i => w[i]?) = wc.map (fun e => some (rn (rho ps w.length) e))) (hnd : va_nd ps = true) (hn : av.length = n) (hF : fitB M z cn sn = true) (hrest : resB rest = true)
    (k : Go X M Q n0 (cn + z.2.2.2.2.cells) (sn + z.2.2.2.2.slots) (pc + 3) L (.long r :: rest) w) : Go X M Q n0 cn sn pc L st w :=
  go_callS ps hd hlk hz hE hst hw hnd hn (fit_of hF) (res_of hrest) (rdz hw) (by
    rintro v w1 ⟨rfl, rfl⟩
    rw [mgp_same (w := w) (wc := w1) _ _ _ _ hw]
    exact k)
theorem go_callVi {i n j ci : Nat} {fs av rest : List Value} {r : Int32} (ps : List Nat) (hd : decode M.2.1 pc = .ok (.invokevirtual i, 3)) (hlk : Cond.methodLink M.1.cls i z.1 ∈ tb) (hz : CV z n) (hE : Ev z (.ref j :: av) wc (Ri wc r)) (hst : st = (av.map (gv (rho ps w.length))).reverse ++ .ref (rho ps w.length j) :: rest) (hw : ps.map (fun i => w[i]?) = wc.map (fun e => some (rn (rho ps w.length) e))) (hnd : va_nd ps = true) (hn : av.length = n) (hrc : wc[j]? = some (zO ci fs)) (hcl : ∃ T N, vwCl[ci]? = some (z.1.cls, T, N)) (hF : fitB M z cn sn = true) (hrest : resB rest = true)
    (k : Go X M Q n0 (cn + z.2.2.2.2.cells) (sn + z.2.2.2.2.slots) (pc + 3) L (.int r :: rest) w) : Go X M Q n0 cn sn pc L st w :=
  go_callV ps hd hlk hz hE hst hw hnd hn hrc hcl (fit_of hF) (res_of hrest) (rdz hw) (by
    rintro v w1 ⟨rfl, rfl⟩
    rw [mgp_same (w := w) (wc := w1) _ _ _ _ hw]
    exact k)
theorem go_callVj {i n j ci : Nat} {fs av rest : List Value} {r : Int64} (ps : List Nat) (hd : decode M.2.1 pc = .ok (.invokevirtual i, 3)) (hlk : Cond.methodLink M.1.cls i z.1 ∈ tb) (hz : CV z n) (hE : Ev z (.ref j :: av) wc (Rj wc r)) (hst : st = (av.map (gv (rho ps w.length))).reverse ++ .ref (rho ps w.length j) :: rest) (hw : ps.map (fun i => w[i]?) = wc.map (fun e => some (rn (rho ps w.length) e))) (hnd : va_nd ps = true) (hn : av.length = n) (hrc : wc[j]? = some (zO ci fs)) (hcl : ∃ T N, vwCl[ci]? = some (z.1.cls, T, N)) (hF : fitB M z cn sn = true) (hrest : resB rest = true)
    (k : Go X M Q n0 (cn + z.2.2.2.2.cells) (sn + z.2.2.2.2.slots) (pc + 3) L (.long r :: rest) w) : Go X M Q n0 cn sn pc L st w :=
  go_callV ps hd hlk hz hE hst hw hnd hn hrc hcl (fit_of hF) (res_of hrest) (rdz hw) (by
    rintro v w1 ⟨rfl, rfl⟩
    rw [mgp_same (w := w) (wc := w1) _ _ _ _ hw]
    exact k)
theorem go_callVw {i n j ci : Nat} {fs av rest : List Value} {v0 : Option Value} {w1 : List AE} (ps : List Nat) (w' : List AE) (hd : decode M.2.1 pc = .ok (.invokevirtual i, 3)) (hlk : Cond.methodLink M.1.cls i z.1 ∈ tb) (hz : CV z n) (hE : Ev z (.ref j :: av) wc (Rw v0 w1)) (hst : st = (av.map (gv (rho ps w.length))).reverse ++ .ref (rho ps w.length j) :: rest) (hw : ps.map (fun i => w[i]?) = wc.map (fun e => some (rn (rho ps w.length) e))) (hnd : va_nd ps = true) (hn : av.length = n) (hrc : wc[j]? = some (zO ci fs)) (hcl : ∃ T N, vwCl[ci]? = some (z.1.cls, T, N)) (hF : fitB M z cn sn = true) (hrest : resB rest = true) (hlen : w1.length = ps.length) (hw' : mgp (rho ps w.length) ps w1 w = w')
    (k : Go X M Q n0 (cn + z.2.2.2.2.cells) (sn + z.2.2.2.2.slots) (pc + 3) L ((v0.map (gv (rho ps w.length))).toList ++ rest) w') : Go X M Q n0 cn sn pc L st w :=
  go_callV ps hd hlk hz hE hst hw hnd hn hrc hcl (fit_of hF) (res_of hrest) (by rintro v w2 ⟨-, rfl⟩; exact hlen) (by
    rintro v w2 ⟨rfl, rfl⟩
    rw [hw']
    exact k)
end C8
theorem Ev.mono {M : MD} {av : List Value} {w : List AE} {Q Q' : Option Value → List AE → Prop} (h : Ev M av w Q) (hq : ∀ v w1, Q v w1 → Q' v w1) : Ev M av w Q' := by
  intro l D tC ad sz
  have h1 := h l D tC ad sz
  intro p e ha hc hk s m args below hf happ hP hk2
  obtain ⟨t, o, b1, b2, b3, ⟨⟨v, w1, ad1, c1, c2, c3⟩, c4⟩, b5⟩ := h1 p e ha hc hk s m args below hf happ hP hk2
  exact ⟨t, o, b1, b2, b3, ⟨⟨v, w1, ad1, c1, hq _ _ c2, c3⟩, c4⟩, b5⟩
end
section
/-! rows on bits, shifts and unsigned numbers, to paste: each family out of a closed proof of our own, whole with what it rests on; each by itself clean at Lean in its own claim (generation 39, form 5). Take a family whole -/
/-! ===== Int32 by its bits: bt x i ===== -/
def bt (x : Int32) (i : Nat) : Bool := x.toBitVec.getLsbD i
theorem b_ext {x y : Int32} (h : ∀ i, i < 32 → bt x i = bt y i) : x = y := Int32.toBitVec_inj.mp (BitVec.eq_of_getLsbD_eq (fun i hi => h i hi))
theorem b_or (x y : Int32) (i : Nat) : bt (x ||| y) i = (bt x i || bt y i) := by unfold bt; rw [Int32.toBitVec_or, BitVec.getLsbD_or]
theorem b_and (x y : Int32) (i : Nat) : bt (x &&& y) i = (bt x i && bt y i) := by unfold bt; rw [Int32.toBitVec_and, BitVec.getLsbD_and]
theorem b_xor (x y : Int32) (i : Nat) : bt (x ^^^ y) i = (bt x i ^^ bt y i) := by unfold bt; rw [Int32.toBitVec_xor, BitVec.getLsbD_xor]
theorem b_big {x : Int32} {i : Nat} (h : 32 ≤ i) : bt x i = false := BitVec.getLsbD_of_ge _ _ h
theorem b_255 (i : Nat) : bt 255 i = decide (i < 8) := by
  rcases Nat.lt_or_ge i 32 with h | h
  · exact (by decide +kernel : ∀ i, i < 32 → bt 255 i = decide (i < 8)) i h
  · rw [b_big h, decide_eq_false (by omega)]
theorem b_65535 (i : Nat) : bt 65535 i = decide (i < 16) := by
  rcases Nat.lt_or_ge i 32 with h | h
  · exact (by decide +kernel : ∀ i, i < 32 → bt 65535 i = decide (i < 16)) i h
  · rw [b_big h, decide_eq_false (by omega)]
theorem b_m1 : ∀ i, i < 32 → bt (-1) i = true := by decide +kernel
theorem b_0 (i : Nat) : bt 0 i = false := BitVec.getLsbD_zero
theorem s_l : ∀ n, n < 32 → ((nI n &&& 31).toBitVec.smod 32).toNat = n := by decide +kernel
theorem s_u : ∀ n, n < 32 → (((nI n).toUInt32 &&& Int32.toUInt32 31).toBitVec % 32).toNat = n := by decide +kernel
theorem b_shl (n : Nat) (hn : n < 32) (x : Int32) {i : Nat} (hi : i < 32) : bt (x <<< (nI n &&& 31)) i = (decide (n ≤ i) && bt x (i - n)) := by
  unfold bt
  rw [Int32.toBitVec_shiftLeft]
  show (x.toBitVec <<< ((nI n &&& 31).toBitVec.smod 32).toNat).getLsbD i = _
  rw [s_l n hn, BitVec.getLsbD_shiftLeft]
  rcases Nat.lt_or_ge i n with h | h
  · simp [h, Nat.not_le.mpr h]
  · simp [hi, h, Nat.not_lt.mpr h]
theorem b_ushr (n : Nat) (hn : n < 32) (x : Int32) (i : Nat) : bt ((x.toUInt32 >>> ((nI n).toUInt32 &&& Int32.toUInt32 31)).toInt32) i = bt x (n + i) := by
  show (x.toUInt32 >>> ((nI n).toUInt32 &&& Int32.toUInt32 31)).toBitVec.getLsbD i = x.toUInt32.toBitVec.getLsbD (n + i)
  rw [UInt32.toBitVec_shiftRight]
  show (x.toUInt32.toBitVec >>> (((nI n).toUInt32 &&& Int32.toUInt32 31).toBitVec % 32).toNat).getLsbD i = _
  rw [s_u n hn, BitVec.getLsbD_ushiftRight]
theorem b_sshr (n : Nat) (hn : n < 32) (x : Int32) {i : Nat} (hi : i < 32) : bt (x >>> (nI n &&& 31)) i = if n + i < 32 then bt x (n + i) else bt x 31 := by
  unfold bt
  rw [Int32.toBitVec_shiftRight]
  show (x.toBitVec.sshiftRight ((nI n &&& 31).toBitVec.smod 32).toNat).getLsbD i = _
  rw [s_l n hn, BitVec.getLsbD_sshiftRight, BitVec.msb_eq_getLsbD_last]
  simp [hi]
theorem b_shl8 (x : Int32) {i : Nat} (hi : i < 32) : bt (x <<< ((8 : Int32) &&& 31)) i = (decide (8 ≤ i) && bt x (i - 8)) := b_shl 8 (by omega) x hi
theorem b_shl16 (x : Int32) {i : Nat} (hi : i < 32) : bt (x <<< ((16 : Int32) &&& 31)) i = (decide (16 ≤ i) && bt x (i - 16)) := b_shl 16 (by omega) x hi
theorem b_shl24 (x : Int32) {i : Nat} (hi : i < 32) : bt (x <<< ((24 : Int32) &&& 31)) i = (decide (24 ≤ i) && bt x (i - 24)) := b_shl 24 (by omega) x hi
theorem b_sshr8 (x : Int32) {i : Nat} (hi : i < 32) : bt (x >>> ((8 : Int32) &&& 31)) i = if 8 + i < 32 then bt x (8 + i) else bt x 31 := b_sshr 8 (by omega) x hi
/-! ===== nI under and, xor, >>>, one bit, 65535 ===== -/
theorem nx_and (a b : Nat) : nI a &&& nI b = nI (a &&& b) := by
  apply Int32.toBitVec_inj.1
  show BitVec.ofNat 32 a &&& BitVec.ofNat 32 b = BitVec.ofNat 32 (a &&& b)
  apply BitVec.eq_of_getLsbD_eq
  intro i hi
  simp [hi]
theorem nx_xor (a b : Nat) : nI a ^^^ nI b = nI (a ^^^ b) := by
  apply Int32.toBitVec_inj.1
  show BitVec.ofNat 32 a ^^^ BitVec.ofNat 32 b = BitVec.ofNat 32 (a ^^^ b)
  apply BitVec.eq_of_getLsbD_eq
  intro i hi
  simp [hi]
theorem nx_cnt : ∀ j : Fin 32, (UInt32.ofNat j.val &&& Int32.toUInt32 31).toNat % 32 = j.val := by decide +kernel
theorem nx_ush {k j : Nat} (hk : k < 65536) (hj : j < 32) : ((nI k).toUInt32 >>> ((nI j).toUInt32 &&& Int32.toUInt32 31)).toInt32 = nI (k >>> j) := by
  have hs : k >>> j ≤ k := by
    rw [Nat.shiftRight_eq_div_pow]
    exact Nat.div_le_self _ _
  have e2 : UInt32.ofNat k >>> (UInt32.ofNat j &&& Int32.toUInt32 31) = UInt32.ofNat (k >>> j) := by
    apply UInt32.toNat_inj.1
    have h1 : (UInt32.ofNat k).toNat = k := Nat.mod_eq_of_lt (by omega)
    have h2 : (UInt32.ofNat (k >>> j)).toNat = k >>> j := Nat.mod_eq_of_lt (by omega)
    rw [UInt32.toNat_shiftRight, nx_cnt ⟨j, hj⟩, h1, h2]
  show (UInt32.ofNat k >>> (UInt32.ofNat j &&& Int32.toUInt32 31)).toInt32 = _
  rw [e2]
  rfl
theorem nx_bit {k j : Nat} (hk : k < 65536) (hj : j < 16) : (((nI k).toUInt32 >>> ((nI j).toUInt32 &&& Int32.toUInt32 31)).toInt32 &&& 1) = 0 ↔ k.testBit j = false := by
  rw [nx_ush hk (by omega)]
  show nI (k >>> j) &&& nI 1 = 0 ↔ _
  rw [nx_and, Nat.and_one_is_mod, ← nI_0, nI_eq (by omega) (by omega), Nat.testBit_eq_decide_div_mod_eq, Nat.shiftRight_eq_div_pow, decide_eq_false_iff_not]
  generalize k / 2 ^ j = z
  omega
theorem nx_mod (k : Nat) : nI k &&& 65535 = nI (k % 65536) := by
  show nI k &&& nI 65535 = _
  rw [nx_and, show (65535 : Nat) = 2 ^ 16 - 1 from rfl, Nat.and_two_pow_sub_one_eq_mod]
theorem nx_m16 {k : Nat} (h : k < 65536) : nI k &&& 65535 = nI k := by rw [nx_mod, Nat.mod_eq_of_lt h]
theorem nx_mask (x : Int32) : ∃ k, k < 65536 ∧ x &&& 65535 = nI k := by
  have e : x = nI x.toBitVec.toNat := by
    apply Int32.toBitVec_inj.1
    show x.toBitVec = BitVec.ofNat 32 x.toBitVec.toNat
    simp
  refine ⟨x.toBitVec.toNat % 65536, Nat.mod_lt _ (by omega), ?_⟩
  rw [← nx_mod, ← e]
/-! ===== Int32 as a set of bits: test, set ===== -/
def nf_M (m : Int32) : Nat := 4294967296 - m.toBitVec.toNat
theorem nf_sh : ∀ l, l < 32 → ((1 : Int32) <<< (nI l &&& 31)).toBitVec = BitVec.twoPow 32 l := by decide +kernel
theorem nf_sl : ∀ l, l < 32 → (((nI l).toUInt32 &&& Int32.toUInt32 31).toBitVec % 32).toNat = l := by decide +kernel
theorem nf_tp : ∀ l, l < 32 → BitVec.twoPow 32 l ≠ 0#32 := by decide +kernel
theorem nf_bit (m : Int32) (l : Nat) (hl : l < 32) : ((m.toUInt32 >>> ((nI l).toUInt32 &&& Int32.toUInt32 31)).toInt32 &&& 1) = 0 ↔ (m &&& ((1 : Int32) <<< (nI l &&& 31))) = 0 := by
  have e : ((m.toUInt32 >>> ((nI l).toUInt32 &&& Int32.toUInt32 31)).toInt32).toBitVec = m.toBitVec >>> l := by
    show m.toBitVec >>> (((nI l).toUInt32 &&& Int32.toUInt32 31).toBitVec % 32) = m.toBitVec >>> l
    rw [BitVec.ushiftRight_eq', nf_sl l hl]
  rw [← Int32.toBitVec_inj, ← Int32.toBitVec_inj, Int32.toBitVec_and, Int32.toBitVec_and, nf_sh l hl, e, BitVec.and_twoPow]
  show (m.toBitVec >>> l &&& 1#32) = 0#32 ↔ _ = 0#32
  rw [BitVec.and_one_eq_setWidth_ofBool_getLsbD, BitVec.getLsbD_ushiftRight, Nat.add_zero]
  cases hb : m.toBitVec.getLsbD l
  · exact ⟨fun _ => by simp, fun _ => by decide⟩
  · exact ⟨fun z => absurd z (by decide), fun z => absurd ((if_pos rfl).symm.trans z) (nf_tp l hl)⟩
theorem nf_gr (m k : Int32) (h : m &&& k = 0) (hk : k ≠ 0) : nf_M (m ||| k) < nf_M m := by
  have hm := m.toBitVec.isLt
  have hm' := (m ||| k).toBitVec.isLt
  have h1 : m.toBitVec.toNat ≤ (m ||| k).toBitVec.toNat := by
    rw [Int32.toBitVec_or, BitVec.toNat_or]
    exact Nat.left_le_or
  have h2 : m.toBitVec.toNat ≠ (m ||| k).toBitVec.toNat := by
    intro e
    have e2 : m = m ||| k := Int32.toBitVec_inj.mp (BitVec.eq_of_toNat_eq e)
    apply hk
    apply Int32.toBitVec_inj.mp
    show k.toBitVec = 0#32
    apply BitVec.eq_of_getLsbD_eq
    intro i hi
    have a : m.toBitVec.getLsbD i = (m.toBitVec.getLsbD i || k.toBitVec.getLsbD i) := by rw [← BitVec.getLsbD_or, ← Int32.toBitVec_or, ← e2]
    have b : (m.toBitVec.getLsbD i && k.toBitVec.getLsbD i) = false := by
      rw [← BitVec.getLsbD_and, ← Int32.toBitVec_and, h]
      exact BitVec.getLsbD_zero
    rw [BitVec.getLsbD_zero]
    revert a b
    cases m.toBitVec.getLsbD i <;> cases k.toBitVec.getLsbD i <;> simp
  unfold nf_M
  omega
/-! ===== a byte read unsigned ===== -/
theorem bp_b (x : Int32) : x.toInt8.toInt32 &&& 255 = x &&& 255 := by
  apply Int32.toBitVec_inj.mp
  rw [Int32.toBitVec_and, Int32.toBitVec_and, Int8.toBitVec_toInt32, Int32.toBitVec_toInt8]
  apply BitVec.eq_of_getLsbD_eq
  intro i hi
  rw [BitVec.getLsbD_and, BitVec.getLsbD_and]
  have hm : ∀ i < 32, 8 ≤ i → (255 : Int32).toBitVec.getLsbD i = false := by decide
  rcases Nat.lt_or_ge i 8 with z | z
  · rw [BitVec.getLsbD_signExtend, BitVec.getLsbD_signExtend, if_pos z, if_pos hi]
    simp only [z, hi, decide_true, Bool.true_and]
  · rw [hm i hi z]; simp
/-! ===== the char cast and 65535 ===== -/
/-! ===== Int64 as a set of bits: test, set, clear ===== -/
theorem ts_nf {x : Bool} (h : ¬ x = false) : x = true := by cases x <;> first | rfl | exact absurd rfl h
theorem ts_nt {x : Bool} (h : ¬ x = true) : x = false := by cases x <;> first | rfl | exact absurd rfl h
theorem ts_bit {w : Int64} {s : UInt64} {j : Nat} (hj : j < 64) (hs : s.toNat = j) : ((w.toUInt64 >>> s).toInt64 &&& 1) = 0 ↔ w.toBitVec.getLsbD j = false := by
  have e : (w.toUInt64 >>> s).toInt64.toBitVec = w.toBitVec >>> j := by
    apply BitVec.eq_of_toNat_eq
    show (w.toUInt64 >>> s).toNat = _
    rw [UInt64.toNat_shiftRight, hs, Nat.mod_eq_of_lt hj, BitVec.toNat_ushiftRight]
    rfl
  rw [← Int64.toBitVec_inj, Int64.toBitVec_and, e]
  show w.toBitVec >>> j &&& 1#64 = 0#64 ↔ _
  constructor
  · intro h
    have t := congrArg (fun x => x.getLsbD 0) h
    simpa using t
  · intro h
    apply BitVec.eq_of_getLsbD_eq
    intro i hi
    cases i with
    | zero => simp [h]
    | succ i => simp
theorem ts_or {w m : Int64} {j : Nat} (hj : j < 64) (hm : m.toBitVec = BitVec.twoPow 64 j) : (w ||| m) = w ↔ w.toBitVec.getLsbD j = true := by
  rw [← Int64.toBitVec_inj, Int64.toBitVec_or, hm]
  constructor
  · intro h
    have t := congrArg (fun x => x.getLsbD j) h
    simp only [BitVec.getLsbD_or, BitVec.getLsbD_twoPow] at t
    simpa [hj] using t.symm
  · intro h
    apply BitVec.eq_of_getLsbD_eq
    intro i hi
    rw [BitVec.getLsbD_or, BitVec.getLsbD_twoPow]
    by_cases e : j = i
    · subst e; rw [h, Bool.true_or]
    · simp [e]
theorem ts_and {w m : Int64} {j : Nat} (hj : j < 64) (hm : m.toBitVec = BitVec.twoPow 64 j) : (w &&& (m ^^^ (-1))) = w ↔ w.toBitVec.getLsbD j = false := by
  have ha : (-1 : Int64).toBitVec = BitVec.allOnes 64 := by decide
  rw [← Int64.toBitVec_inj, Int64.toBitVec_and, Int64.toBitVec_xor, hm, ha]
  constructor
  · intro h
    have t := congrArg (fun x => x.getLsbD j) h
    simp only [BitVec.getLsbD_and, BitVec.getLsbD_xor, BitVec.getLsbD_twoPow, BitVec.getLsbD_allOnes] at t
    simpa [hj] using t.symm
  · intro h
    apply BitVec.eq_of_getLsbD_eq
    intro i hi
    rw [BitVec.getLsbD_and, BitVec.getLsbD_xor, BitVec.getLsbD_twoPow, BitVec.getLsbD_allOnes]
    by_cases e : j = i
    · subst e; rw [h, Bool.false_and]
    · simp [e, hi]
/-! ===== lN n to 2^64: shifts, and, or, masks, one bit ===== -/
theorem wb_tb (n : Nat) : (lN n).toBitVec = BitVec.ofNat 64 n := rfl
theorem wb_inj {a b : Int64} (h : a.toBitVec = b.toBitVec) : a = b := Int64.toBitVec_inj.mp h
theorem wb_tn {n : Nat} (h : n < 2 ^ 64) : (lN n).toBitVec.toNat = n := by rw [wb_tb, BitVec.toNat_ofNat, Nat.mod_eq_of_lt h]
theorem wb_of (x : Int64) : ∃ n, n < 2 ^ 64 ∧ x = lN n := ⟨x.toBitVec.toNat, x.toBitVec.isLt, wb_inj (by rw [wb_tb]; simp)⟩
theorem wb_of32 (x : Int32) : ∃ n, n < 2 ^ 32 ∧ x = nI n := ⟨x.toBitVec.toNat, x.toBitVec.isLt, Int32.toBitVec_inj.mp (by show _ = BitVec.ofNat 32 _; simp)⟩
theorem wb_c : ∀ k, k < 64 → ((nI k).toInt64 &&& 63) = lN k := by decide +kernel
theorem wb_cu : ∀ k, k < 64 → ((nI k).toInt64.toUInt64 &&& Int64.toUInt64 63) = UInt64.ofNat k := by decide +kernel
theorem wb_sm : ∀ k, k < 64 → (BitVec.ofNat 64 k).smod 64 = BitVec.ofNat 64 k := by decide +kernel
theorem wb_pw {a b : Nat} (h : a ≤ b) : 2 ^ b = 2 ^ a * 2 ^ (b - a) := by rw [← Nat.pow_add]; congr 1; omega
theorem wb_lt2 {a b : Nat} (h : a < b) : 2 ^ a < 2 ^ b := Nat.pow_lt_pow_right (by decide) h
theorem wb_mod (n : Nat) : lN n = lN (n % 2 ^ 64) := wb_inj (by rw [wb_tb, wb_tb]; apply BitVec.eq_of_toNat_eq; rw [BitVec.toNat_ofNat, BitVec.toNat_ofNat, Nat.mod_mod])
theorem wb_shr {n k : Nat} (hn : n < 2 ^ 64) (hk : k < 64) : ((lN n).toUInt64 >>> ((nI k).toInt64.toUInt64 &&& Int64.toUInt64 63)).toInt64 = lN (n / 2 ^ k) := by
  rw [wb_cu k hk]
  apply wb_inj
  apply BitVec.eq_of_toNat_eq
  show ((lN n).toUInt64 >>> UInt64.ofNat k).toNat = (BitVec.ofNat 64 _).toNat
  have h1 : (UInt64.ofNat k).toNat = k := by
    show (BitVec.ofNat 64 k).toNat = k
    rw [BitVec.toNat_ofNat, Nat.mod_eq_of_lt (by omega)]
  have h2 : (lN n).toUInt64.toNat = n := wb_tn hn
  rw [UInt64.toNat_shiftRight, h1, h2, Nat.mod_eq_of_lt hk, Nat.shiftRight_eq_div_pow, BitVec.toNat_ofNat, Nat.mod_eq_of_lt (Nat.lt_of_le_of_lt (Nat.div_le_self _ _) hn)]
theorem wb_shl (n : Nat) {k : Nat} (hk : k < 64) : lN n <<< ((nI k).toInt64 &&& 63) = lN (n * 2 ^ k) := by
  rw [wb_c k hk]
  apply wb_inj
  rw [Int64.toBitVec_shiftLeft, wb_tb, wb_tb, wb_tb, wb_sm k hk]
  apply BitVec.eq_of_toNat_eq
  rw [BitVec.shiftLeft_eq', BitVec.toNat_shiftLeft, BitVec.toNat_ofNat, BitVec.toNat_ofNat, BitVec.toNat_ofNat, Nat.mod_eq_of_lt (show k < 2 ^ 64 by omega), Nat.shiftLeft_eq, Nat.mul_mod, Nat.mod_mod, ← Nat.mul_mod]
theorem wb_and {a b : Nat} (ha : a < 2 ^ 64) (hb : b < 2 ^ 64) : lN a &&& lN b = lN (a &&& b) := by
  apply wb_inj
  rw [Int64.toBitVec_and, wb_tb, wb_tb, wb_tb]
  apply BitVec.eq_of_toNat_eq
  rw [BitVec.toNat_and, BitVec.toNat_ofNat, BitVec.toNat_ofNat, BitVec.toNat_ofNat, Nat.mod_eq_of_lt ha, Nat.mod_eq_of_lt hb, Nat.mod_eq_of_lt (Nat.and_lt_two_pow _ hb)]
theorem wb_or {a b : Nat} (ha : a < 2 ^ 64) (hb : b < 2 ^ 64) : lN a ||| lN b = lN (a ||| b) := by
  apply wb_inj
  rw [Int64.toBitVec_or, wb_tb, wb_tb, wb_tb]
  apply BitVec.eq_of_toNat_eq
  rw [BitVec.toNat_or, BitVec.toNat_ofNat, BitVec.toNat_ofNat, BitVec.toNat_ofNat, Nat.mod_eq_of_lt ha, Nat.mod_eq_of_lt hb, Nat.mod_eq_of_lt (Nat.or_lt_two_pow ha hb)]
theorem wb_mask {n k : Nat} (hn : n < 2 ^ 64) (hk : k < 64) : lN n &&& lN (2 ^ k - 1) = lN (n % 2 ^ k) := by
  rw [wb_and hn (by have := wb_lt2 hk; omega), Nat.and_two_pow_sub_one_eq_mod]
theorem wb_a1 {n : Nat} (hn : n < 2 ^ 64) : lN n &&& 1 = lN (n % 2) := wb_mask (k := 1) hn (by decide)
theorem wb_bit {n k : Nat} (hn : n < 2 ^ 64) (hk : k < 64) : ((lN n).toUInt64 >>> ((nI k).toInt64.toUInt64 &&& Int64.toUInt64 63)).toInt64 &&& 1 = lN (n / 2 ^ k % 2) := by
  rw [wb_shr hn hk, wb_a1 (Nat.lt_of_le_of_lt (Nat.div_le_self _ _) hn)]
theorem wb_xor {q k : Nat} (hk : k < 63) (h : 2 ^ k ≤ q) (h2 : q < 2 ^ (k + 1)) : lN q ^^^ lN (2 ^ k) = lN (q - 2 ^ k) := by
  obtain ⟨r, rfl⟩ : ∃ r, q = 2 ^ k + r := ⟨q - 2 ^ k, by omega⟩
  have hr : r < 2 ^ k := by rw [Nat.pow_succ] at h2; omega
  have hx : (2 ^ k + r) ^^^ 2 ^ k = r := by
    apply Nat.eq_of_testBit_eq
    intro i
    rw [Nat.testBit_xor, Nat.testBit_two_pow]
    rcases Nat.lt_trichotomy i k with h | h | h
    · rw [Nat.testBit_two_pow_add_gt h]
      simp [show ¬ k = i by omega]
    · subst h
      rw [Nat.testBit_two_pow_add_eq]
      simp
    · have a1 : 2 ^ (k + 1) ≤ 2 ^ i := Nat.pow_le_pow_right (by decide) h
      rw [Nat.testBit_lt_two_pow (show 2 ^ k + r < 2 ^ i by omega), Nat.testBit_lt_two_pow (show r < 2 ^ i by omega)]
      simp [show ¬ k = i by omega]
  have b1 := wb_lt2 (show k + 1 < 64 by omega)
  have b2 := wb_lt2 (show k < 64 by omega)
  apply wb_inj
  rw [Int64.toBitVec_xor, wb_tb, wb_tb, wb_tb]
  apply BitVec.eq_of_toNat_eq
  rw [BitVec.toNat_xor, BitVec.toNat_ofNat, BitVec.toNat_ofNat, BitVec.toNat_ofNat, Nat.mod_eq_of_lt (by omega : 2 ^ k + r < 2 ^ 64), Nat.mod_eq_of_lt b2, hx, Nat.add_sub_cancel_left, Nat.mod_eq_of_lt (by omega)]
/-! ===== lN: masks, 'or' of parts that don't overlap is a sum ===== -/
theorem u_tn {n : Nat} (h : n < 2 ^ 64) : (UInt64.ofNat n).toNat = n := Nat.mod_eq_of_lt h
theorem g_and {a b c : Nat} (ha : a < 2 ^ 64) (hb : b < 2 ^ 64) (hc : a &&& b = c) : lN a &&& lN b = lN c := by
  subst hc
  have h : UInt64.ofNat a &&& UInt64.ofNat b = UInt64.ofNat (a &&& b) := UInt64.toNat_inj.mp (by rw [UInt64.toNat_and, u_tn ha, u_tn hb, u_tn (Nat.and_lt_two_pow a hb)])
  have h2 := congrArg UInt64.toInt64 h
  exact h2
theorem g_and1 {a : Nat} (ha : a < 2 ^ 64) : lN a &&& 1 = lN (a % 2) := g_and (b := 1) ha (by decide) (Nat.and_two_pow_sub_one_eq_mod a 1)
theorem g_mask {a s p : Nat} (hp : 2 ^ s = p) (hs : s < 64) (ha : a < 2 ^ 64) : lN a &&& lN (p - 1) = lN (a % p) := by
  subst hp
  have := Nat.pow_lt_pow_right (show 1 < 2 by decide) hs
  exact g_and ha (by omega) (Nat.and_two_pow_sub_one_eq_mod a s)
theorem g_or {k p a b : Nat} (hp : 2 ^ k = p) (ha : a < p) (h : b * p + a < 2 ^ 64) : lN (b * p) ||| lN a = lN (b * p + a) := by
  subst hp
  have h1 : b * 2 ^ k ||| a = b * 2 ^ k + a := by rw [← Nat.shiftLeft_eq, Nat.shiftLeft_add_eq_or_of_lt ha]
  have h3 : UInt64.ofNat (b * 2 ^ k) ||| UInt64.ofNat a = UInt64.ofNat (b * 2 ^ k + a) := UInt64.toNat_inj.mp (by rw [UInt64.toNat_or, u_tn (by omega), u_tn (by omega), u_tn h, h1])
  have h2 := congrArg UInt64.toInt64 h3
  exact h2
theorem g_or' {k p a b : Nat} (hp : 2 ^ k = p) (ha : a < p) (h : a + b * p < 2 ^ 64) : lN a ||| lN (b * p) = lN (a + b * p) := by
  rw [Int64.or_comm, g_or hp ha (by omega), Nat.add_comm]
theorem g_ushr {a k p : Nat} {y : UInt64} (hy : y = UInt64.ofNat k) (hk : k < 64) (hp : 2 ^ k = p) (ha : a < 2 ^ 64) : ((lN a).toUInt64 >>> y).toInt64 = lN (a / p) := by
  subst hy hp
  have h : UInt64.ofNat a >>> UInt64.ofNat k = UInt64.ofNat (a / 2 ^ k) := UInt64.toNat_inj.mp (by rw [UInt64.toNat_shiftRight, u_tn ha, u_tn (by omega), u_tn (Nat.lt_of_le_of_lt (Nat.div_le_self _ _) ha), Nat.mod_eq_of_lt hk, Nat.shiftRight_eq_div_pow])
  have h2 := congrArg UInt64.toInt64 h
  exact h2
theorem g_shl {a k p : Nat} {y : Int64} (hy : y.toBitVec.smod 64 = BitVec.ofNat 64 k) (hk : k < 64) (hp : 2 ^ k = p) (ha : a < 2 ^ 64) : lN a <<< y = lN (a * p) := by
  subst hp
  apply Int64.toBitVec_inj.mp
  rw [Int64.toBitVec_shiftLeft, hy]
  apply BitVec.eq_of_toNat_eq
  have hb : (lN a).toBitVec.toNat = a := Nat.mod_eq_of_lt ha
  have hk' : (BitVec.ofNat 64 k).toNat = k := Nat.mod_eq_of_lt (by omega)
  have h : ((lN a).toBitVec <<< BitVec.ofNat 64 k).toNat = (a * 2 ^ k) % 2 ^ 64 := by simp only [BitVec.shiftLeft_eq', BitVec.toNat_shiftLeft, hb, hk', Nat.shiftLeft_eq]
  exact h
/-! ===== lN to 2^62 under >> and >>> ===== -/
theorem pf_lI {a : Nat} (h : a < 2 ^ 63) : (lN a).toInt = (a : Int) := lg_ofNat_toInt h
theorem pf_shr {a d : Nat} {D : Int64} (hD : (D.toBitVec.smod 64).toNat = d) (h : a < 2 ^ 62) : lN a >>> D = lN (a / 2 ^ d) := by
  have hd : a / 2 ^ d ≤ a := Nat.div_le_self _ _
  apply Int64.toInt_inj.mp
  have e : (lN a >>> D).toInt = (lN a).toInt >>> d := by
    rw [← hD]
    exact BitVec.toInt_sshiftRight ..
  rw [e, Int.shiftRight_eq_div_pow, pf_lI (by omega), pf_lI (by omega)]
  rfl
theorem pf_ushr {a d : Nat} {D : UInt64} (hD : D.toNat % 64 = d) (h : a < 2 ^ 62) : ((lN a).toUInt64 >>> D).toInt64 = lN (a / 2 ^ d) := by
  have hd : a / 2 ^ d ≤ a := Nat.div_le_self _ _
  have e : (lN a).toUInt64 >>> D = UInt64.ofNat (a / 2 ^ d) := UInt64.toNat_inj.mp (by
    rw [UInt64.toNat_shiftRight, hD, Nat.shiftRight_eq_div_pow, UInt64.toNat_ofNat']
    show (UInt64.ofNat a).toNat / 2 ^ d = _
    rw [UInt64.toNat_ofNat', Nat.mod_eq_of_lt (by omega), Nat.mod_eq_of_lt (by omega)])
  rw [e]
  rfl
theorem pf_andw (x : Int64) : ∃ m, m < 2 ^ 32 ∧ x &&& 4294967295 = lN m := ⟨x.toBitVec.toNat % 2 ^ 32, Nat.mod_lt _ (by decide), Int64.toBitVec_inj.mp (BitVec.eq_of_toNat_eq (by
  show (x.toBitVec &&& 4294967295#64).toNat = (BitVec.ofNat 64 (x.toBitVec.toNat % 2 ^ 32)).toNat
  rw [BitVec.toNat_and, show (4294967295#64).toNat = 2 ^ 32 - 1 from by decide, Nat.and_two_pow_sub_one_eq_mod, BitVec.toNat_ofNat]
  omega))⟩
/-! ===== Int64 as an unsigned number: uN x ===== -/
def uN (x : Int64) : Nat := x.toUInt64.toNat
theorem uN_lt (x : Int64) : uN x < 18446744073709551616 := x.toUInt64.toNat_lt
theorem uN_inj {x y : Int64} (h : uN x = uN y) : x = y := congrArg UInt64.toInt64 (UInt64.toNat_inj.mp h)
theorem uN_add (x y : Int64) : uN (x + y) = (uN x + uN y) % 18446744073709551616 := by
  show (x.toUInt64 + y.toUInt64).toNat = _
  exact UInt64.toNat_add _ _
theorem uN_mul (x y : Int64) : uN (x * y) = (uN x * uN y) % 18446744073709551616 := by
  show (x.toUInt64 * y.toUInt64).toNat = _
  exact UInt64.toNat_mul _ _
theorem uN_shl (x : Int64) : uN (x <<< ((1 : Int32).toInt64 &&& 63)) = (2 * uN x) % 18446744073709551616 := by
  have h : (((1 : Int32).toInt64 &&& 63).toBitVec.smod 64).toNat = 1 := by decide
  show (x.toBitVec <<< (((1 : Int32).toInt64 &&& 63).toBitVec.smod 64).toNat).toNat = _
  rw [h, BitVec.toNat_shiftLeft, Nat.shiftLeft_eq, Nat.mul_comm]
  rfl
theorem uN_shr (x : Int64) (s : UInt64) : uN (x.toUInt64 >>> s).toInt64 = uN x / 2 ^ (s.toNat % 64) := by
  show (x.toUInt64 >>> s).toNat = _
  rw [UInt64.toNat_shiftRight, Nat.shiftRight_eq_div_pow]
  rfl
theorem uN_s32 (x : Int64) : uN (x.toUInt64 >>> ((32 : Int32).toInt64.toUInt64 &&& Int64.toUInt64 63)).toInt64 = uN x / 4294967296 := by
  have h : ((32 : Int32).toInt64.toUInt64 &&& Int64.toUInt64 63).toNat % 64 = 32 := by decide
  rw [uN_shr, h]
theorem uN_s63 (x : Int64) : uN (x.toUInt64 >>> ((63 : Int32).toInt64.toUInt64 &&& Int64.toUInt64 63)).toInt64 = uN x / 9223372036854775808 := by
  have h : ((63 : Int32).toInt64.toUInt64 &&& Int64.toUInt64 63).toNat % 64 = 63 := by decide
  rw [uN_shr, h]
theorem uN_lo (x : Int64) : uN (x &&& 4294967295) = uN x % 4294967296 := by
  show (x.toUInt64 &&& Int64.toUInt64 4294967295).toNat = _
  rw [UInt64.toNat_and]
  exact Nat.and_two_pow_sub_one_eq_mod _ 32
theorem uN_bit (x : Int64) : (x &&& 1) = 0 ↔ uN x % 2 = 0 := by
  have h : uN (x &&& 1) = uN x % 2 := by
    show (x.toUInt64 &&& Int64.toUInt64 1).toNat = _
    rw [UInt64.toNat_and]
    exact Nat.and_two_pow_sub_one_eq_mod _ 1
  rw [← h]
  exact ⟨fun z => by rw [z]; rfl, fun z => uN_inj (z.trans rfl)⟩
theorem uN_or {x y : Int64} (hy : uN y < 2) : uN ((x <<< ((1 : Int32).toInt64 &&& 63)) ||| y) = (2 * uN x) % 18446744073709551616 + uN y := by
  have h1 : uN ((x <<< ((1 : Int32).toInt64 &&& 63)) ||| y) = uN (x <<< ((1 : Int32).toInt64 &&& 63)) ||| uN y := UInt64.toNat_or _ _
  have h2 : (2 * uN x) % 18446744073709551616 = 2 ^ 1 * (uN x % 9223372036854775808) := by omega
  rw [h1, uN_shl, h2]
  exact (Nat.two_pow_add_eq_or_of_lt (i := 1) hy _).symm
theorem nat_xor {a : Nat} (h : a < 18446744073709551616) : a ^^^ 2 ^ 63 = (a + 9223372036854775808) % 18446744073709551616 := by
  have h1 : (a ^^^ 2 ^ 63) % 2 ^ 63 = a % 2 ^ 63 := by rw [Nat.xor_mod_two_pow, Nat.mod_self, Nat.xor_zero]
  have h2 : (a ^^^ 2 ^ 63) / 2 ^ 63 = (a / 2 ^ 63) ^^^ 1 := by rw [Nat.xor_div_two_pow, Nat.div_self (Nat.two_pow_pos 63)]
  have h3 : a / 2 ^ 63 = 0 ∨ a / 2 ^ 63 = 1 := by omega
  generalize a ^^^ 2 ^ 63 = t at h1 h2
  rcases h3 with h3 | h3
  · rw [h3] at h2
    have h2 : t / 2 ^ 63 = 1 := h2
    omega
  · rw [h3] at h2
    have h2 : t / 2 ^ 63 = 0 := h2
    omega
theorem uN_xor (x : Int64) : uN (x ^^^ (-9223372036854775808)) = (uN x + 9223372036854775808) % 18446744073709551616 := by
  rw [← nat_xor (uN_lt x)]
  exact UInt64.toNat_xor _ _
theorem uN_int (x : Int64) : x.toInt = if 2 * uN x < 18446744073709551616 then (uN x : Int) else (uN x : Int) - 18446744073709551616 := BitVec.toInt_eq_toNat_cond _
theorem uN_le (x y : Int64) : (x ^^^ (-9223372036854775808)) ≤ (y ^^^ (-9223372036854775808)) ↔ uN x ≤ uN y := by
  have hx := uN_lt x
  have hy := uN_lt y
  rw [Int64.le_iff_toInt_le, uN_int, uN_int, uN_xor, uN_xor]
  omega
theorem uN_sk (x : Int64) {k : Nat} (hk : k < 64) : uN (x.toUInt64 >>> ((nI k).toInt64.toUInt64 &&& Int64.toUInt64 63)).toInt64 = uN x / 2 ^ k := by
  have h : ((nI k).toInt64.toUInt64 &&& Int64.toUInt64 63).toNat % 64 = k := by
    rw [nI_l (by omega), UInt64.toNat_and]
    have e : (lN k).toUInt64.toNat = k % 2 ^ 64 := rfl
    have e2 : (Int64.toUInt64 63).toNat = 2 ^ 6 - 1 := by decide
    rw [e, e2, Nat.and_two_pow_sub_one_eq_mod]
    omega
  rw [uN_shr, h]
/-! ===== unsigned comparison by xor with the least ===== -/
theorem lN_bv (n : Nat) : (lN n).toBitVec = BitVec.ofNat 64 n := rfl
theorem lN_nat {n : Nat} (h : n < 2 ^ 64) : (lN n).toBitVec.toNat = n := by rw [lN_bv, BitVec.toNat_ofNat]; exact Nat.mod_eq_of_lt h
theorem lN_xor (a b : Nat) : lN a ^^^ lN b = lN (a ^^^ b) := by
  apply Int64.toBitVec_inj.mp; rw [Int64.toBitVec_xor, lN_bv, lN_bv, lN_bv]; apply BitVec.eq_of_getLsbD_eq; intro i hi; simp [BitVec.getLsbD_ofNat, Nat.testBit_xor, hi]
theorem lN_ti {m : Nat} (h : m < 2 ^ 64) : (lN m).toInt = if m < 2 ^ 63 then (m : Int) else (m : Int) - 2 ^ 64 := by
  have c := BitVec.toInt_eq_toNat_cond (lN m).toBitVec
  rw [lN_nat h] at c
  show (lN m).toBitVec.toInt = _
  rw [c]
  split <;> split <;> omega
theorem xor63 {x : Nat} (h : x < 2 ^ 63) : x ^^^ 2 ^ 63 = 2 ^ 63 + x := by
  apply Nat.eq_of_testBit_eq
  intro i
  rw [Nat.testBit_xor, Nat.testBit_two_pow]
  rcases Nat.lt_trichotomy i 63 with z | z | z
  · rw [Nat.testBit_two_pow_add_gt z, decide_eq_false (by omega)]; simp
  · subst z; rw [Nat.testBit_two_pow_add_eq]; simp
  · have hp : 2 ^ 64 ≤ 2 ^ i := Nat.pow_le_pow_right (by decide) z
    rw [Nat.testBit_lt_two_pow (show x < 2 ^ i by omega), Nat.testBit_lt_two_pow (show 2 ^ 63 + x < 2 ^ i by omega), decide_eq_false (by omega)]; rfl
theorem xorS {a : Nat} (h : a < 2 ^ 64) : (lN a ^^^ (-9223372036854775808)).toInt = (a : Int) - 2 ^ 63 := by
  rw [show (-9223372036854775808 : Int64) = lN (2 ^ 63) from by decide +kernel, lN_xor]
  rcases Nat.lt_or_ge a (2 ^ 63) with z | z
  · rw [xor63 z, lN_ti (by omega), if_neg (by omega)]; omega
  · obtain ⟨x, rfl⟩ : ∃ x, a = 2 ^ 63 + x := ⟨a - 2 ^ 63, by omega⟩
    rw [← xor63 (by omega), Nat.xor_assoc, Nat.xor_self, Nat.xor_zero, lN_ti (by omega), if_pos (by omega), xor63 (by omega)]; omega
theorem ultL {a b : Nat} (ha : a < 2 ^ 64) (hb : b < 2 ^ 64) : ((lN b ^^^ (-9223372036854775808)) ≤ (lN a ^^^ (-9223372036854775808))) ↔ b ≤ a := by
  rw [Int64.le_iff_toInt_le, xorS ha, xorS hb]; omega
/-! ===== Int64 masks of n low bits ===== -/
theorem cr_bits (W U M : BitVec 64) : ((W &&& U) &&& (U &&& (M ^^^ BitVec.allOnes 64))) = 0#64 ↔ (W &&& U) &&& M = W &&& U := by
  constructor
  · intro h
    apply BitVec.eq_of_getLsbD_eq
    intro i hi
    have e := congrArg (fun x => BitVec.getLsbD x i) h
    simp only [BitVec.getLsbD_and, BitVec.getLsbD_xor, BitVec.getLsbD_allOnes, BitVec.getLsbD_zero, hi, decide_true] at e ⊢
    revert e
    cases W.getLsbD i <;> cases U.getLsbD i <;> cases M.getLsbD i <;> decide
  · intro h
    apply BitVec.eq_of_getLsbD_eq
    intro i hi
    have e := congrArg (fun x => BitVec.getLsbD x i) h
    simp only [BitVec.getLsbD_and, BitVec.getLsbD_xor, BitVec.getLsbD_allOnes, BitVec.getLsbD_zero, hi, decide_true] at e ⊢
    revert e
    cases W.getLsbD i <;> cases U.getLsbD i <;> cases M.getLsbD i <;> decide
theorem cr_mask (w U m : Int64) (n : Nat) (hm : m.toBitVec.toNat = 2 ^ n - 1) : ((w &&& U) &&& (U &&& (m ^^^ (-1)))) = 0 ↔ (w &&& U).toBitVec.toNat < 2 ^ n := by
  have e0 : (-1 : Int64).toBitVec = BitVec.allOnes 64 := by decide
  have z0 : (0 : Int64).toBitVec = 0#64 := by decide
  rw [← Int64.toBitVec_inj, z0, Int64.toBitVec_and, Int64.toBitVec_and, Int64.toBitVec_and, Int64.toBitVec_xor, e0, cr_bits]
  generalize w.toBitVec &&& U.toBitVec = T
  rw [← BitVec.toNat_inj, BitVec.toNat_and, hm, Nat.and_two_pow_sub_one_eq_mod]
  constructor
  · intro h
    have t := Nat.mod_lt T.toNat (Nat.two_pow_pos n)
    rw [h] at t
    exact t
  · exact Nat.mod_eq_of_lt
theorem cr_shr (t : Int64) (x : UInt64) (n : Nat) (hx : x.toNat % 64 = n) : (t.toUInt64 >>> x).toInt64 = 0 ↔ t.toBitVec.toNat < 2 ^ n := by
  rw [← Int64.toBitVec_inj, ← BitVec.toNat_inj]
  show (t.toUInt64 >>> x).toNat = 0 ↔ t.toUInt64.toNat < 2 ^ n
  rw [UInt64.toNat_shiftRight, hx, Nat.shiftRight_eq_div_pow]
  constructor
  · intro h
    have d : t.toUInt64.toNat / 2 ^ n < 1 := by
      rw [h]
      decide
    have e := (Nat.div_lt_iff_lt_mul (Nat.two_pow_pos n)).mp d
    rw [Nat.one_mul] at e
    exact e
  · exact Nat.div_eq_of_lt
theorem cr_amt (s : Int64) : ∃ n, n < 64 ∧ s &&& 63 = lN n ∧ (s.toUInt64 &&& Int64.toUInt64 63).toNat % 64 = n := by
  have e : (s.toUInt64 &&& Int64.toUInt64 63).toNat = s.toUInt64.toNat % 2 ^ 6 := by
    rw [UInt64.toNat_and, show (Int64.toUInt64 63).toNat = 2 ^ 6 - 1 from by decide, Nat.and_two_pow_sub_one_eq_mod]
  refine ⟨s.toUInt64.toNat % 2 ^ 6, by omega, ?_, by omega⟩
  rw [← Int64.toBitVec_inj, ← BitVec.toNat_inj]
  show (s.toUInt64 &&& Int64.toUInt64 63).toNat = (BitVec.ofNat 64 (s.toUInt64.toNat % 2 ^ 6)).toNat
  rw [e, BitVec.toNat_ofNat]
  omega
end
section
/-! plain facts on numbers and arrays, to paste: each family by itself; over the kit's rows on nI and upd -/
/-! ===== order of ints, in all its forms, and through longs ===== -/
theorem fa_lt (a b : Int32) : a < b ↔ a.toInt < b.toInt := Int32.lt_iff_toInt_lt
theorem fa_le (a b : Int32) : a ≤ b ↔ a.toInt ≤ b.toInt := Int32.le_iff_toInt_le
theorem fa_eq (a b : Int32) : a = b ↔ a.toInt = b.toInt := Int32.toInt_inj.symm
theorem fa_lt64 (a b : Int64) : a < b ↔ a.toInt < b.toInt := Int64.lt_iff_toInt_lt
theorem fa_le64 (a b : Int64) : a ≤ b ↔ a.toInt ≤ b.toInt := Int64.le_iff_toInt_le
theorem fa_eq64 (a b : Int64) : a = b ↔ a.toInt = b.toInt := Int64.toInt_inj.symm
/-- a comparison of two ints taken as longs -/
theorem fa_wide_lt (a b : Int32) : a.toInt64 < b.toInt64 ↔ a < b := by rw [fa_lt64, fa_lt, Int32.toInt_toInt64, Int32.toInt_toInt64]
theorem fa_wide_le (a b : Int32) : a.toInt64 ≤ b.toInt64 ↔ a ≤ b := by rw [fa_le64, fa_le, Int32.toInt_toInt64, Int32.toInt_toInt64]
theorem fa_wide_eq (a b : Int32) : a.toInt64 = b.toInt64 ↔ a = b := by rw [fa_eq64, fa_eq, Int32.toInt_toInt64, Int32.toInt_toInt64]
/-- one strict comparison gives all the others -/
theorem fa_of_lt {a b : Int32} (h : a < b) : a ≤ b ∧ ¬ b ≤ a ∧ ¬ b < a ∧ a ≠ b ∧ b ≠ a := by
  rw [fa_lt] at h
  refine ⟨?_, ?_, ?_, ?_, ?_⟩
  · rw [fa_le]; omega
  · rw [fa_le]; omega
  · rw [fa_lt]; omega
  · intro e; rw [fa_eq] at e; omega
  · intro e; rw [fa_eq] at e; omega
theorem fa_of_nlt {a b : Int32} (h : ¬ a < b) : b ≤ a := by
  rw [fa_lt] at h
  rw [fa_le]
  omega
theorem fa_of_nle {a b : Int32} (h : ¬ a ≤ b) : b < a := by
  rw [fa_le] at h
  rw [fa_lt]
  omega
theorem fa_le_ne {a b : Int32} (h : a ≤ b) (h2 : a ≠ b) : a < b := by
  rw [fa_le] at h
  rw [fa_lt]
  have h3 : a.toInt ≠ b.toInt := fun e => h2 ((fa_eq a b).mpr e)
  omega
theorem fa_three (a b : Int32) : a < b ∨ a = b ∨ b < a := by
  rw [fa_lt, fa_lt, fa_eq]
  omega
theorem fa_trans {a b c : Int32} (h : a < b) (h2 : b ≤ c) : a < c := by
  rw [fa_lt] at *
  rw [fa_le] at h2
  omega
/-! ===== small literals as numbers ===== -/
theorem fa_lit (n : Nat) : (OfNat.ofNat n : Int32) = nI n := rfl
theorem fa_litL (n : Nat) : (OfNat.ofNat n : Int64) = lN n := rfl
/-! ===== bits of a number: 'or', masks, one bit ===== -/
theorem fa_and (a b : Nat) : nI a &&& nI b = nI (a &&& b) := by
  apply Int32.toBitVec_inj.1
  show BitVec.ofNat 32 a &&& BitVec.ofNat 32 b = BitVec.ofNat 32 (a &&& b)
  apply BitVec.eq_of_getLsbD_eq
  intro i hi
  simp [hi]
theorem fa_or (a b : Nat) : nI a ||| nI b = nI (a ||| b) := by
  apply Int32.toBitVec_inj.1
  show BitVec.ofNat 32 a ||| BitVec.ofNat 32 b = BitVec.ofNat 32 (a ||| b)
  apply BitVec.eq_of_getLsbD_eq
  intro i hi
  simp [hi]
/-- a remainder by a power of two, as a mask -/
theorem fa_mask (n k : Nat) : nI n &&& nI (2 ^ k - 1) = nI (n % 2 ^ k) := by rw [fa_and, Nat.and_two_pow_sub_one_eq_mod]
/-- 'or' of a high part and a low one that don't meet is their sum -/
theorem fa_or_sum {a k : Nat} (b : Nat) (h : a < 2 ^ k) : nI (2 ^ k * b) ||| nI a = nI (2 ^ k * b + a) := by rw [fa_or, Nat.two_pow_add_eq_or_of_lt h]
/-- one bit, by 'and' with a power of two -/
theorem fa_bit {n j : Nat} (hj : j < 31) : nI n &&& nI (2 ^ j) = 0 ↔ n.testBit j = false := by
  have h2 : (2 : Nat) ^ j < 2 ^ 31 := Nat.pow_lt_pow_right (by decide) hj
  have hle : n &&& 2 ^ j ≤ 2 ^ j := Nat.and_le_right
  have e : n &&& 2 ^ j = 0 ↔ n.testBit j = false := by
    constructor
    · intro h
      have h1 : (n &&& 2 ^ j).testBit j = false := by rw [h]; simp
      rw [Nat.testBit_and] at h1
      first | simpa using h1 | simpa [Nat.testBit_two_pow_self] using h1 | simpa [Nat.testBit_two_pow] using h1
    · intro h
      apply Nat.eq_of_testBit_eq
      intro i
      rw [Nat.testBit_and]
      by_cases hi : j = i
      · subst hi; simp [h]
      · first | (simp [Nat.testBit_two_pow, hi]; done) | (simp [Nat.testBit_two_pow_of_ne hi]; done)
  rw [fa_and]
  constructor
  · intro h
    apply e.mp
    rcases Nat.eq_zero_or_pos (n &&& 2 ^ j) with z | z
    · exact z
    · exact absurd h (nI_ne0 z (Nat.lt_of_le_of_lt hle h2))
  · intro h
    rw [e.mpr h]; exact nI_0
/-- a remainder by a power of two of a number that isn't negative, as Java divides -/
theorem fa_rem {a k : Nat} (ha : a < 2 ^ 31) (hk : k < 31) : nI a - nI a / nI (2 ^ k) * nI (2 ^ k) = nI (a % 2 ^ k) := pk_rem ha (Nat.two_pow_pos k) (Nat.pow_lt_pow_right (by decide) hk)
/-! ===== cuts to a byte, a short ===== -/
theorem fa_byte_xor (x y : Int32) : (x ^^^ y).toInt8 = x.toInt8 ^^^ y.toInt8 := by
  apply Int8.toBitVec_inj.1
  apply BitVec.eq_of_getLsbD_eq
  intro i hi
  first | (simp [hi]; done) | (simp [hi, BitVec.getLsbD_setWidth, BitVec.getLsbD_signExtend]; done)
theorem fa_short_xor (x y : Int32) : (x ^^^ y).toInt16 = x.toInt16 ^^^ y.toInt16 := by
  apply Int16.toBitVec_inj.1
  apply BitVec.eq_of_getLsbD_eq
  intro i hi
  first | (simp [hi]; done) | (simp [hi, BitVec.getLsbD_setWidth, BitVec.getLsbD_signExtend]; done)
/-- the cut to a byte sees the low byte alone -/
theorem fa_byte_low (x : Int32) : (x &&& 255).toInt8 = x.toInt8 := by
  apply Int8.toBitVec_inj.1
  apply BitVec.eq_of_getLsbD_eq
  intro i hi
  have h2 : (255 : Int32).toBitVec.getLsbD i = true := by
    have : ∀ j : Fin 8, (255 : Int32).toBitVec.getLsbD j.val = true := by decide +kernel
    exact this ⟨i, hi⟩
  have h4 : (x &&& 255).toBitVec.getLsbD i = x.toBitVec.getLsbD i := by
    show (x.toBitVec &&& (255 : Int32).toBitVec).getLsbD i = _
    rw [BitVec.getLsbD_and, h2, Bool.and_true]
  have h3 : i < 32 := by omega
  first
    | (show (((x &&& 255).toBitVec).signExtend 8).getLsbD i = (x.toBitVec.signExtend 8).getLsbD i; rw [BitVec.getLsbD_signExtend, BitVec.getLsbD_signExtend, if_pos h3, if_pos h3, h4])
    | (show (((x &&& 255).toBitVec).setWidth 8).getLsbD i = (x.toBitVec.setWidth 8).getLsbD i; rw [BitVec.getLsbD_setWidth, BitVec.getLsbD_setWidth, h4])
    | (simp [hi, h3, h4]; done)
theorem fa_short_low (x : Int32) : (x &&& 65535).toInt16 = x.toInt16 := by
  apply Int16.toBitVec_inj.1
  apply BitVec.eq_of_getLsbD_eq
  intro i hi
  have h2 : (65535 : Int32).toBitVec.getLsbD i = true := by
    have : ∀ j : Fin 16, (65535 : Int32).toBitVec.getLsbD j.val = true := by decide +kernel
    exact this ⟨i, hi⟩
  have h4 : (x &&& 65535).toBitVec.getLsbD i = x.toBitVec.getLsbD i := by
    show (x.toBitVec &&& (65535 : Int32).toBitVec).getLsbD i = _
    rw [BitVec.getLsbD_and, h2, Bool.and_true]
  have h3 : i < 32 := by omega
  first
    | (show (((x &&& 65535).toBitVec).signExtend 16).getLsbD i = (x.toBitVec.signExtend 16).getLsbD i; rw [BitVec.getLsbD_signExtend, BitVec.getLsbD_signExtend, if_pos h3, if_pos h3, h4])
    | (show (((x &&& 65535).toBitVec).setWidth 16).getLsbD i = (x.toBitVec.setWidth 16).getLsbD i; rw [BitVec.getLsbD_setWidth, BitVec.getLsbD_setWidth, h4])
    | (simp [hi, h3, h4]; done)
/-- a small number is its own byte, its own short -/
theorem fa_byte_small {n : Nat} (h : n < 128) : (nI n).toInt8.toInt32 = nI n := by
  have : ∀ j : Fin 128, (nI j.val).toInt8.toInt32 = nI j.val := by decide +kernel
  exact this ⟨n, h⟩
/-! ===== absolute difference ===== -/
theorem fa_absdiff {a b : Nat} (ha : a < 2 ^ 31) (hb : b < 2 ^ 31) : (if nI a < nI b then nI b - nI a else nI a - nI b) = nI (if a < b then b - a else a - b) := by
  by_cases h : a < b
  · rw [if_pos (nI_lt h hb), if_pos h]
    exact pk_sub (Nat.le_of_lt h)
  · rw [if_neg (nI_nlt (Nat.le_of_not_lt h) ha), if_neg h]
    exact pk_sub (Nat.le_of_not_lt h)
/-! ===== an array behind i stores, a conditional store, a row copied ===== -/
/-- f where k < i, what stood there else -/
def fa_fill {α : Type} (f g : Nat → α) (i : Nat) : Nat → α := fun k => if k < i then f k else g k
theorem fa_fill_0 {α : Type} (f g : Nat → α) : fa_fill f g 0 = g := funext fun k => if_neg (Nat.not_lt_zero k)
theorem fa_fill_in {α : Type} {f g : Nat → α} {i k : Nat} (h : k < i) : fa_fill f g i k = f k := if_pos h
theorem fa_fill_out {α : Type} {f g : Nat → α} {i k : Nat} (h : i ≤ k) : fa_fill f g i k = g k := if_neg (Nat.not_lt.mpr h)
theorem fa_fill_succ (f g : Nat → Int32) (i : Nat) : upd (fa_fill f g i) i (f i) = fa_fill f g (i + 1) := by
  funext k
  by_cases e : k = i
  · subst e
    rw [pk_us]
    exact (if_pos (Nat.lt_succ_self k)).symm
  · rw [pk_un e]
    by_cases h : k < i
    · rw [fa_fill_in h, fa_fill_in (Nat.lt_succ_of_lt h)]
    · rw [fa_fill_out (Nat.le_of_not_lt h), fa_fill_out (by omega)]
/-- a store that changes nothing -/
theorem fa_upd_same {f : Nat → Int32} {i : Nat} {x : Int32} (h : f i = x) : upd f i x = f := by
  funext k
  by_cases e : k = i
  · subst e
    rw [pk_us, h]
  · rw [pk_un e]
/-- a store under a condition, told as one -/
theorem fa_upd_if (c : Prop) [Decidable c] (f : Nat → Int32) (i : Nat) (x : Int32) : (if c then upd f i x else f) = upd f i (if c then x else f i) := by
  by_cases h : c
  · rw [if_pos h, if_pos h]
  · rw [if_neg h, if_neg h, fa_upd_same rfl]
/-- two stores at one place, at two -/
theorem fa_upd_twice (f : Nat → Int32) (i : Nat) (x y : Int32) : upd (upd f i x) i y = upd f i y := by
  funext k
  by_cases e : k = i
  · subst e
    rw [pk_us, pk_us]
  · rw [pk_un e, pk_un e, pk_un e]
theorem fa_upd_swap (f : Nat → Int32) {i j : Nat} (h : i ≠ j) (x y : Int32) : upd (upd f i x) j y = upd (upd f j y) i x := by
  funext k
  by_cases e : k = i
  · subst e
    rw [pk_un h, pk_us, pk_us]
  · by_cases e2 : k = j
    · subst e2
      rw [pk_us, pk_un e, pk_us]
    · rw [pk_un e2, pk_un e, pk_un e, pk_un e2]
/-! ===== the first index with a property; a count ===== -/
/-- the first k < n with p k, n if there is none -/
def fa_first (p : Nat → Bool) : Nat → Nat
  | 0 => 0
  | n + 1 => if fa_first p n < n then fa_first p n else if p n then n else n + 1
theorem fa_first_le (p : Nat → Bool) : ∀ n, fa_first p n ≤ n
  | 0 => Nat.le_refl 0
  | n + 1 => by
    have ih := fa_first_le p n
    unfold fa_first
    split
    · omega
    · split
      · omega
      · omega
theorem fa_first_no (p : Nat → Bool) : ∀ n k, k < fa_first p n → p k = false
  | 0, k, h => absurd h (Nat.not_lt_zero k)
  | n + 1, k, h => by
    have ih := fa_first_no p n
    have hl := fa_first_le p n
    unfold fa_first at h
    split at h
    · exact ih k h
    · rename_i h1
      split at h
      · exact ih k (by omega)
      · rename_i h2
        by_cases e : k = n
        · subst e
          exact Bool.eq_false_iff.mpr h2
        · exact ih k (by omega)
theorem fa_first_yes (p : Nat → Bool) : ∀ n, fa_first p n < n → p (fa_first p n) = true
  | 0, h => absurd h (Nat.not_lt_zero _)
  | n + 1, h => by
    have ih := fa_first_yes p n
    have hl := fa_first_le p n
    unfold fa_first at h ⊢
    split at h
    · rename_i h1
      rw [if_pos h1]
      exact ih h1
    · rename_i h1
      rw [if_neg h1]
      split at h
      · rename_i h2
        rw [if_pos h2]
        exact h2
      · omega
/-- how many k < n have p k -/
def fa_cnt (p : Nat → Bool) : Nat → Nat
  | 0 => 0
  | n + 1 => fa_cnt p n + if p n then 1 else 0
theorem fa_cnt_le (p : Nat → Bool) : ∀ n, fa_cnt p n ≤ n
  | 0 => Nat.le_refl 0
  | n + 1 => by
    have ih := fa_cnt_le p n
    unfold fa_cnt
    split
    · omega
    · omega
theorem fa_cnt_yes {p : Nat → Bool} {n : Nat} (h : p n = true) : fa_cnt p (n + 1) = fa_cnt p n + 1 := by rw [fa_cnt, if_pos h]
theorem fa_cnt_no {p : Nat → Bool} {n : Nat} (h : p n = false) : fa_cnt p (n + 1) = fa_cnt p n := by rw [fa_cnt, if_neg (by rw [h]; decide)]; rfl
theorem fa_cnt_cong {p q : Nat → Bool} : ∀ {n : Nat}, (∀ k, k < n → p k = q k) → fa_cnt p n = fa_cnt q n
  | 0, _ => rfl
  | n + 1, h => by rw [fa_cnt, fa_cnt, fa_cnt_cong (fun k hk => h k (Nat.lt_succ_of_lt hk)), h n (Nat.lt_succ_self n)]
/-! ===== an answer carried into a post; a branch on a boolean answer ===== -/
theorem fa_post {α : Type} {P : α → Prop} {x y : α} (h : x = y) (hp : P y) : P x := h ▸ hp
theorem fa_post2 {α β : Type} {P : α → β → Prop} {x y : α} {u v : β} (h : x = y) (h2 : u = v) (hp : P y v) : P x u := h ▸ h2 ▸ hp
theorem fa_bool {r : Int32} {b : Bool} (h : r = if b then 1 else 0) : (r = 0 ↔ b = false) ∧ (¬ r = 0 ↔ b = true) := by
  subst h
  cases b
  · exact ⟨⟨fun _ => rfl, fun _ => rfl⟩, ⟨fun h => absurd rfl h, fun h => absurd h (by decide)⟩⟩
  · exact ⟨⟨fun h => absurd h (by decide), fun h => absurd h (by decide)⟩, ⟨fun _ => rfl, fun _ => by decide⟩⟩
/-- a boolean's narrowing changes nothing -/
theorem fa_bool_and {r : Int32} (h : r = 0 ∨ r = 1) : r &&& 1 = r := by
  rcases h with rfl | rfl
  · decide
  · decide
theorem fa_bool_prop {c : Prop} [Decidable c] {r : Int32} (h : r = if c then 1 else 0) : (r = 0 ↔ ¬ c) ∧ (¬ r = 0 ↔ c) := by
  subst h
  by_cases hc : c
  · rw [if_pos hc]
    exact ⟨⟨fun h => absurd h (by decide), fun h => absurd hc h⟩, ⟨fun _ => hc, fun _ => by decide⟩⟩
  · rw [if_neg hc]
    exact ⟨⟨fun _ => hc, fun _ => rfl⟩, ⟨fun h => absurd rfl h, fun h => absurd h hc⟩⟩
end
section
theorem go_iincN {X : (Nat → Nat) → State → (Nat → Prop) → Prop} {M : MD} {Q : Option Value → List AE → Prop} {n0 cn sn pc : Nat} {L : List (Option Value)} {st : List Value} {w : List AE} {i : Nat} {n : Int} {x : Int32} (y : Int32) (hd : decode M.2.1 pc = .ok (.iinc i n, 3)) (hx : L[i]? = some (some (.int x))) (hv : Int32.ofInt n = y) (hn : i < M.2.2.1) (k : Go X M Q n0 cn sn (pc + 3) (s1 i (.int (x + y)) 0 L) st w) : Go X M Q n0 cn sn pc L st w := go_iinc (x + y) hd hx (by rw [hv]) hn k
section Cut
variable {X : (Nat → Nat) → State → (Nat → Prop) → Prop} {M : MD} {Q : Option Value → List AE → Prop} {n0 cn sn pc : Nat} {L : List (Option Value)} {st : List Value} {w : List AE}
/-- both arms of a choice meet at J with an int on the stack -/
theorem go_cut2 {J : Nat} {a b : Value} (P : Int32 → Prop) (k : ∀ x, P x → Go X M Q n0 cn sn J L (.int x :: st) w) (arm : (∀ x, P x → Go X M Q n0 cn sn J L (.int x :: st) w) → Go X M Q n0 cn sn pc L (a :: b :: st) w) : Go X M Q n0 cn sn pc L (a :: b :: st) w := arm k
theorem go_cut1 {J : Nat} {a : Value} (P : Int32 → Prop) (k : ∀ x, P x → Go X M Q n0 cn sn J L (.int x :: st) w) (arm : (∀ x, P x → Go X M Q n0 cn sn J L (.int x :: st) w) → Go X M Q n0 cn sn pc L (a :: st) w) : Go X M Q n0 cn sn pc L (a :: st) w := arm k
end Cut
theorem vin_of {i s : Int32} {n : Nat} (h0 : ¬ i < 0) (h1 : ¬ s ≤ i) (hs : s.toInt ≤ n) : vp_in i n := by
  rw [vp_in_iff]
  rw [Int32.lt_iff_toInt_lt] at h0
  rw [Int32.le_iff_toInt_le] at h1
  have : (0 : Int32).toInt = 0 := rfl
  omega
def sixI (c s f : Int32) : Int32 := if c = 3 then (if 0 < (if 8 + s - f < 16 then 8 + s - f else 16) then (if 8 + s - f < 16 then 8 + s - f else 16) else 0) else 16
def strI (c s a : Int32) : Int32 := if c = 3 then (if s ≤ 0 then 0 else s - 1) else if (c = 1 ∨ c = 2) ∧ s < a then s + 1 else s
def kinI (b : Int32) : Int32 := if b = 102 then 0 else if b = 99 then 1 else if b = 114 then 2 else if b = 100 then 3 else -1
def fitN (j : Nat) (b : Int32) : Bool := match j with
  | 0 => decide (¬ kinI b = -1)
  | 1 => decide (¬ b < 48 ∧ ¬ 57 < b)
  | 2 => decide (¬ b < 48 ∧ ¬ 57 < b)
  | 3 => decide (b = 103 ∨ b = 105)
  | 4 => decide ((¬ b < 48 ∧ b ≤ 55) ∨ b = 46)
  | _ => decide (b = 59)
def ansI (kind guilty goods bribe : Int32) : Int32 := if kind = 3 then 4 else if kind = 1 ∧ guilty = 1 then 1 else if kind = 2 ∧ ¬ goods < bribe then 2 else 3
def cutI (form v : Int32) : Int32 := if form = 0 then v.toInt8.toInt32 else if form = 1 then v.toInt16.toInt32 else v
def seedI (s : Int32) : Int32 := 1103515245 * s + 12345
def lotI (s : Int32) : Int32 := ((seedI s).toUInt32 >>> ((16 : Int32).toUInt32 &&& Int32.toUInt32 31)).toInt32 - ((seedI s).toUInt32 >>> ((16 : Int32).toUInt32 &&& Int32.toUInt32 31)).toInt32 / 16 * 16
set_option maxRecDepth 100000 in
theorem ev_X4_whoAt (sz fp i : Int32) (f : Nat → Int32) (hs : sz.toInt ≤ (12 : Nat)) : Ev MX4_whoAt [.ref 0, .int i] [zO 3 [.ref 1, .int sz, .int fp], zI 12 f] (Ri [zO 3 [.ref 1, .int sz, .int fp], zI 12 f] (if i < 0 ∨ sz ≤ i then -1 else f i.toNatClampNeg)) := by
  refine ev_of bX4_whoAt [some (.ref 0), some (.int i)] (Nat.le_of_ble_eq_true rfl) rfl ?_
  refine go_iload_n dX4_whoAt_0 rfl ?_
  refine go_if_lt 21 dX4_whoAt_1 (by decide) (fun c_1 => ?_) (fun c_1 => ?_)
  · refine go_iconst (-1) dX4_whoAt_21 (by decide) ?_
    refine go_ireturn dX4_whoAt_22 rfl rfl (Nat.le_of_ble_eq_true rfl) (Nat.le_of_ble_eq_true rfl) ?_
    exact ⟨by simp [*], rfl⟩
  · refine go_iload_n dX4_whoAt_4 rfl ?_
    refine go_aload_n dX4_whoAt_5 rfl ?_
    refine go_getf fX4_30 dX4_whoAt_6 rfl rfl ?_
    refine go_icmp_ge 21 dX4_whoAt_9 (by decide) (fun c_9 => ?_) (fun c_9 => ?_)
    · refine go_iconst (-1) dX4_whoAt_21 (by decide) ?_
      refine go_ireturn dX4_whoAt_22 rfl rfl (Nat.le_of_ble_eq_true rfl) (Nat.le_of_ble_eq_true rfl) ?_
      exact ⟨by simp [*], rfl⟩
    · refine go_aload_n dX4_whoAt_12 rfl ?_
      refine go_getf fX4_9 dX4_whoAt_13 rfl rfl ?_
      refine go_iload_n dX4_whoAt_16 rfl ?_
      refine go_iald dX4_whoAt_17 rfl (vin_of c_1 c_9 hs) ?_
      refine go_goto 22 dX4_whoAt_18 (by decide) ?_
      refine go_ireturn dX4_whoAt_22 rfl rfl (Nat.le_of_ble_eq_true rfl) (Nat.le_of_ble_eq_true rfl) ?_
      exact ⟨by simp [*], rfl⟩
set_option maxRecDepth 100000 in
theorem ev_X10_byteAt (n : Nat) (sz i : Int32) (f : Nat → Int32) (hs : sz.toInt ≤ n) : Ev MX10_byteAt [.ref 0, .int i] [zO 8 [.ref 1, .int sz], zI n f] (Ri [zO 8 [.ref 1, .int sz], zI n f] (if i < 0 ∨ sz ≤ i then -1 else f i.toNatClampNeg)) := by
  refine ev_of bX10_byteAt [some (.ref 0), some (.int i)] (Nat.le_of_ble_eq_true rfl) rfl ?_
  refine go_iload_n dX10_byteAt_0 rfl ?_
  refine go_if_lt 21 dX10_byteAt_1 (by decide) (fun c_1 => ?_) (fun c_1 => ?_)
  · refine go_iconst (-1) dX10_byteAt_21 (by decide) ?_
    refine go_ireturn dX10_byteAt_22 rfl rfl (Nat.le_of_ble_eq_true rfl) (Nat.le_of_ble_eq_true rfl) ?_
    exact ⟨by simp [*], rfl⟩
  · refine go_iload_n dX10_byteAt_4 rfl ?_
    refine go_aload_n dX10_byteAt_5 rfl ?_
    refine go_getf fX10_21 dX10_byteAt_6 rfl rfl ?_
    refine go_icmp_ge 21 dX10_byteAt_9 (by decide) (fun c_9 => ?_) (fun c_9 => ?_)
    · refine go_iconst (-1) dX10_byteAt_21 (by decide) ?_
      refine go_ireturn dX10_byteAt_22 rfl rfl (Nat.le_of_ble_eq_true rfl) (Nat.le_of_ble_eq_true rfl) ?_
      exact ⟨by simp [*], rfl⟩
    · refine go_aload_n dX10_byteAt_12 rfl ?_
      refine go_getf fX10_15 dX10_byteAt_13 rfl rfl ?_
      refine go_iload_n dX10_byteAt_16 rfl ?_
      refine go_iald dX10_byteAt_17 rfl (vin_of c_1 c_9 hs) ?_
      refine go_goto 22 dX10_byteAt_18 (by decide) ?_
      refine go_ireturn dX10_byteAt_22 rfl rfl (Nat.le_of_ble_eq_true rfl) (Nat.le_of_ble_eq_true rfl) ?_
      exact ⟨by simp [*], rfl⟩
set_option maxRecDepth 100000 in
theorem ev_X10_isFull (n : Nat) (sz : Int32) (f : Nat → Int32) : Ev MX10_isFull [.ref 0] [zO 8 [.ref 1, .int sz], zI n f] (Ri [zO 8 [.ref 1, .int sz], zI n f] (if sz < nI n then 0 else 1)) := by
  refine ev_of bX10_isFull [some (.ref 0)] (Nat.le_of_ble_eq_true rfl) rfl ?_
  refine go_aload_n dX10_isFull_0 rfl ?_
  refine go_getf fX10_21 dX10_isFull_1 rfl rfl ?_
  refine go_aload_n dX10_isFull_4 rfl ?_
  refine go_getf fX10_15 dX10_isFull_5 rfl rfl ?_
  refine go_alen (nI n) dX10_isFull_8 rfl rfl ?_
  refine go_icmp_lt 16 dX10_isFull_9 (by decide) (fun c_9 => ?_) (fun c_9 => ?_)
  · refine go_iconst (0) dX10_isFull_16 (by decide) ?_
    refine go_ireturn dX10_isFull_17 rfl rfl (Nat.le_of_ble_eq_true rfl) (Nat.le_of_ble_eq_true rfl) ?_
    exact ⟨by simp [*], rfl⟩
  · refine go_iconst (1) dX10_isFull_12 (by decide) ?_
    refine go_goto 17 dX10_isFull_13 (by decide) ?_
    refine go_ireturn dX10_isFull_17 rfl rfl (Nat.le_of_ble_eq_true rfl) (Nat.le_of_ble_eq_true rfl) ?_
    exact ⟨by simp [*], rfl⟩
set_option maxRecDepth 100000 in
theorem ev_X10_push (n k : Nat) (hk : k < n) (hn : n < 2 ^ 31) (b : Int32) (f : Nat → Int32) : Ev MX10_push [.ref 0, .int b] [zO 8 [.ref 1, .int (nI k)], zI n f] (Rw none [zO 8 [.ref 1, .int (nI (k + 1))], zI n (upd f k b)]) := by
  refine ev_of bX10_push [some (.ref 0), some (.int b)] (Nat.le_of_ble_eq_true rfl) rfl ?_
  refine go_aload_n dX10_push_0 rfl ?_
  refine go_getf fX10_21 dX10_push_1 rfl rfl ?_
  refine go_aload_n dX10_push_4 rfl ?_
  refine go_getf fX10_15 dX10_push_5 rfl rfl ?_
  refine go_alen (nI n) dX10_push_8 rfl rfl ?_
  refine go_icmp_ge 32 dX10_push_9 (by decide) (fun c_9 => absurd c_9 (nI_ge hk hn)) (fun _ => ?_)
  refine go_aload_n dX10_push_12 rfl ?_
  refine go_getf fX10_15 dX10_push_13 rfl rfl ?_
  refine go_aload_n dX10_push_16 rfl ?_
  refine go_getf fX10_21 dX10_push_17 rfl rfl ?_
  refine go_iload_n dX10_push_20 rfl ?_
  refine go_iast dX10_push_21 rfl (vp_in_nI hk hn) ?_
  refine go_aload_n dX10_push_22 rfl ?_
  refine go_dup dX10_push_23 rfl ?_
  refine go_getf fX10_21 dX10_push_24 rfl rfl ?_
  refine go_iconst (1) dX10_push_27 (by decide) ?_
  refine go_iadd dX10_push_28 ?_
  refine go_putf fX10_21 dX10_push_29 rfl (fun _ _ _ h => by cases h; rfl) (fun _ => rfl) (fun _ => rfl) (Nat.le_of_ble_eq_true rfl) ?_
  refine go_return dX10_push_32 rfl (Nat.le_of_ble_eq_true rfl) (Nat.le_of_ble_eq_true rfl) ?_
  refine ⟨rfl, ?_⟩
  simp only [nI_clamp (Nat.lt_trans hk hn), ← nI_1]
  rfl
set_option maxRecDepth 100000 in
theorem ev_X2_part (sz fp i k : Int32) (f : Nat → Int32) : Ev MX2_part [.ref 0, .int i, .int k] [zO 1 [.ref 1, .int sz, .int fp], zI 40 f] (Ri [zO 1 [.ref 1, .int sz, .int fp], zI 40 f] (if i * 5 + k < 0 ∨ 40 ≤ i * 5 + k then -1 else f (i * 5 + k).toNatClampNeg)) := by
  refine ev_of bX2_part [some (.ref 0), some (.int i), some (.int k), none] (Nat.le_of_ble_eq_true rfl) rfl ?_
  refine go_iload_n dX2_part_0 rfl ?_
  refine go_iconst (5) dX2_part_1 (by decide) ?_
  refine go_imul dX2_part_2 ?_
  refine go_iload_n dX2_part_3 rfl ?_
  refine go_iadd dX2_part_4 ?_
  refine go_istore_n dX2_part_5 (by decide) ?_
  refine go_iload_n dX2_part_6 rfl ?_
  refine go_if_lt 28 dX2_part_7 (by decide) (fun c_7 => ?_) (fun c_7 => ?_)
  · refine go_iconst (-1) dX2_part_28 (by decide) ?_
    refine go_ireturn dX2_part_29 rfl rfl (Nat.le_of_ble_eq_true rfl) (Nat.le_of_ble_eq_true rfl) ?_
    exact ⟨by simp [*], rfl⟩
  · refine go_iload_n dX2_part_10 rfl ?_
    refine go_aload_n dX2_part_11 rfl ?_
    refine go_getf fX2_9 dX2_part_12 rfl rfl ?_
    refine go_alen 40 dX2_part_15 rfl rfl ?_
    refine go_icmp_ge 28 dX2_part_16 (by decide) (fun c_16 => ?_) (fun c_16 => ?_)
    · refine go_iconst (-1) dX2_part_28 (by decide) ?_
      refine go_ireturn dX2_part_29 rfl rfl (Nat.le_of_ble_eq_true rfl) (Nat.le_of_ble_eq_true rfl) ?_
      exact ⟨by simp [*], rfl⟩
    · refine go_aload_n dX2_part_19 rfl ?_
      refine go_getf fX2_9 dX2_part_20 rfl rfl ?_
      refine go_iload_n dX2_part_23 rfl ?_
      refine go_iald dX2_part_24 rfl (vin_of c_7 c_16 (by decide)) ?_
      refine go_goto 29 dX2_part_25 (by decide) ?_
      refine go_ireturn dX2_part_29 rfl rfl (Nat.le_of_ble_eq_true rfl) (Nat.le_of_ble_eq_true rfl) ?_
      exact ⟨by simp [*], rfl⟩
set_option maxRecDepth 100000 in
theorem ev_X2_has (sz fp i : Int32) (f : Nat → Int32) : Ev MX2_has [.ref 0, .int i] [zO 1 [.ref 1, .int sz, .int fp], zI 40 f] (Ri [zO 1 [.ref 1, .int sz, .int fp], zI 40 f] (if i < 0 ∨ sz ≤ i then 0 else 1)) := by
  refine ev_of bX2_has [some (.ref 0), some (.int i)] (Nat.le_of_ble_eq_true rfl) rfl ?_
  refine go_iload_n dX2_has_0 rfl ?_
  refine go_if_lt 16 dX2_has_1 (by decide) (fun c_1 => ?_) (fun c_1 => ?_)
  · refine go_iconst (0) dX2_has_16 (by decide) ?_
    refine go_ireturn dX2_has_17 rfl rfl (Nat.le_of_ble_eq_true rfl) (Nat.le_of_ble_eq_true rfl) ?_
    exact ⟨by simp [*], rfl⟩
  · refine go_iload_n dX2_has_4 rfl ?_
    refine go_aload_n dX2_has_5 rfl ?_
    refine go_getf fX2_34 dX2_has_6 rfl rfl ?_
    refine go_icmp_ge 16 dX2_has_9 (by decide) (fun c_9 => ?_) (fun c_9 => ?_)
    · refine go_iconst (0) dX2_has_16 (by decide) ?_
      refine go_ireturn dX2_has_17 rfl rfl (Nat.le_of_ble_eq_true rfl) (Nat.le_of_ble_eq_true rfl) ?_
      exact ⟨by simp [*], rfl⟩
    · refine go_iconst (1) dX2_has_12 (by decide) ?_
      refine go_goto 17 dX2_has_13 (by decide) ?_
      refine go_ireturn dX2_has_17 rfl rfl (Nat.le_of_ble_eq_true rfl) (Nat.le_of_ble_eq_true rfl) ?_
      exact ⟨by simp [*], rfl⟩
set_option maxRecDepth 100000 in
theorem ev_X8_isWin (c : Int32) : Ev MX8_isWin [.int c] [] (Ri [] (if c = 1 ∨ c = 2 ∨ c = 3 then 1 else 0)) := by
  refine ev_of bX8_isWin [some (.int c)] (Nat.le_of_ble_eq_true rfl) rfl ?_
  refine go_iload_n dX8_isWin_0 rfl ?_
  refine go_iconst (1) dX8_isWin_1 (by decide) ?_
  refine go_icmp_eq 15 dX8_isWin_2 (by decide) (fun c_2 => ?_) (fun c_2 => ?_)
  · refine go_iconst (1) dX8_isWin_15 (by decide) ?_
    refine go_goto 20 dX8_isWin_16 (by decide) ?_
    refine go_ireturn dX8_isWin_20 rfl rfl (Nat.le_of_ble_eq_true rfl) (Nat.le_of_ble_eq_true rfl) ?_
    exact ⟨by simp [*], rfl⟩
  · refine go_iload_n dX8_isWin_5 rfl ?_
    refine go_iconst (2) dX8_isWin_6 (by decide) ?_
    refine go_icmp_eq 15 dX8_isWin_7 (by decide) (fun c_7 => ?_) (fun c_7 => ?_)
    · refine go_iconst (1) dX8_isWin_15 (by decide) ?_
      refine go_goto 20 dX8_isWin_16 (by decide) ?_
      refine go_ireturn dX8_isWin_20 rfl rfl (Nat.le_of_ble_eq_true rfl) (Nat.le_of_ble_eq_true rfl) ?_
      exact ⟨by simp [*], rfl⟩
    · refine go_iload_n dX8_isWin_10 rfl ?_
      refine go_iconst (3) dX8_isWin_11 (by decide) ?_
      refine go_icmp_ne 19 dX8_isWin_12 (by decide) (fun c_12 => ?_) (fun c_12 => ?_)
      · refine go_iconst (0) dX8_isWin_19 (by decide) ?_
        refine go_ireturn dX8_isWin_20 rfl rfl (Nat.le_of_ble_eq_true rfl) (Nat.le_of_ble_eq_true rfl) ?_
        exact ⟨by simp [*], rfl⟩
      · refine go_iconst (1) dX8_isWin_15 (by decide) ?_
        refine go_goto 20 dX8_isWin_16 (by decide) ?_
        refine go_ireturn dX8_isWin_20 rfl rfl (Nat.le_of_ble_eq_true rfl) (Nat.le_of_ble_eq_true rfl) ?_
        exact ⟨by simp [*], rfl⟩
set_option maxRecDepth 100000 in
theorem ev_X8_sixteenths (c s f : Int32) : Ev MX8_sixteenths [.int c, .int s, .int f] [] (Ri [] (sixI c s f)) := by
  refine ev_of bX8_sixteenths [some (.int c), some (.int s), some (.int f)] (Nat.le_of_ble_eq_true rfl) rfl ?_
  refine go_iload_n dX8_sixteenths_0 rfl ?_
  refine go_iconst (3) dX8_sixteenths_1 (by decide) ?_
  refine go_icmp_eq 8 dX8_sixteenths_2 (by decide) (fun c_2 => ?_) (fun c_2 => ?_)
  · refine go_iconst (0) dX8_sixteenths_8 (by decide) ?_
    refine go_bipush (16) dX8_sixteenths_9 (by decide) ?_
    refine go_bipush (8) dX8_sixteenths_11 (by decide) ?_
    refine go_iload_n dX8_sixteenths_13 rfl ?_
    refine go_iadd dX8_sixteenths_14 ?_
    refine go_iload_n dX8_sixteenths_15 rfl ?_
    refine go_isub dX8_sixteenths_16 ?_
    refine go_min dX8_sixteenths_17 lX8_11 (Nat.le_of_ble_eq_true rfl) (Nat.le_of_ble_eq_true rfl) (Nat.le_of_ble_eq_true rfl) (Nat.le_of_ble_eq_true rfl) ?_
    refine go_max dX8_sixteenths_20 lX8_17 (Nat.le_of_ble_eq_true rfl) (Nat.le_of_ble_eq_true rfl) (Nat.le_of_ble_eq_true rfl) (Nat.le_of_ble_eq_true rfl) ?_
    refine go_ireturn dX8_sixteenths_23 rfl rfl (Nat.le_of_ble_eq_true rfl) (Nat.le_of_ble_eq_true rfl) ?_
    exact ⟨by simp [sixI, *], rfl⟩
  · refine go_bipush (16) dX8_sixteenths_5 (by decide) ?_
    refine go_ireturn dX8_sixteenths_7 rfl rfl (Nat.le_of_ble_eq_true rfl) (Nat.le_of_ble_eq_true rfl) ?_
    exact ⟨by simp [sixI, *], rfl⟩
set_option maxRecDepth 100000 in
theorem ev_X8_strongBehind (c s a : Int32) : Ev MX8_strongBehind [.int c, .int s, .int a] [] (Ri [] (strI c s a)) := by
  refine ev_of bX8_strongBehind [some (.int c), some (.int s), some (.int a), none] (Nat.le_of_ble_eq_true rfl) rfl ?_
  refine go_iload_n dX8_strongBehind_0 rfl ?_
  refine go_iconst (3) dX8_strongBehind_1 (by decide) ?_
  refine go_icmp_ne 17 dX8_strongBehind_2 (by decide) (fun c_2 => ?_) (fun c_2 => ?_)
  · refine go_iload_n dX8_strongBehind_17 rfl ?_
    refine go_iconst (1) dX8_strongBehind_18 (by decide) ?_
    refine go_icmp_eq 27 dX8_strongBehind_19 (by decide) (fun c_19 => ?_) (fun c_19 => ?_)
    · refine go_iconst (1) dX8_strongBehind_27 (by decide) ?_
      refine go_goto 32 dX8_strongBehind_28 (by decide) ?_
      refine go_istore_n dX8_strongBehind_32 (by decide) ?_
      refine go_iload_n dX8_strongBehind_33 rfl ?_
      refine go_if_eq 48 dX8_strongBehind_34 (by decide) (fun c_34 => ?_) (fun c_34 => ?_)
      · refine go_iload_n dX8_strongBehind_48 rfl ?_
        refine go_ireturn dX8_strongBehind_49 rfl rfl (Nat.le_of_ble_eq_true rfl) (Nat.le_of_ble_eq_true rfl) ?_
        exact ⟨by first | (simp_all [strI]; done) | (simp [strI, *]; done) | (simp only [strI, if_pos c_2, if_neg c_6]), rfl⟩
      · refine go_iload_n dX8_strongBehind_37 rfl ?_
        refine go_iload_n dX8_strongBehind_38 rfl ?_
        refine go_icmp_ge 48 dX8_strongBehind_39 (by decide) (fun c_39 => ?_) (fun c_39 => ?_)
        · refine go_iload_n dX8_strongBehind_48 rfl ?_
          refine go_ireturn dX8_strongBehind_49 rfl rfl (Nat.le_of_ble_eq_true rfl) (Nat.le_of_ble_eq_true rfl) ?_
          exact ⟨by first | (simp_all [strI]; done) | (simp [strI, *]; done) | (simp only [strI, if_pos c_2, if_neg c_6]), rfl⟩
        · refine go_iload_n dX8_strongBehind_42 rfl ?_
          refine go_iconst (1) dX8_strongBehind_43 (by decide) ?_
          refine go_iadd dX8_strongBehind_44 ?_
          refine go_goto 49 dX8_strongBehind_45 (by decide) ?_
          refine go_ireturn dX8_strongBehind_49 rfl rfl (Nat.le_of_ble_eq_true rfl) (Nat.le_of_ble_eq_true rfl) ?_
          exact ⟨by first | (simp_all [strI]; done) | (simp [strI, *]; done) | (simp only [strI, if_pos c_2, if_neg c_6]), rfl⟩
    · refine go_iload_n dX8_strongBehind_22 rfl ?_
      refine go_iconst (2) dX8_strongBehind_23 (by decide) ?_
      refine go_icmp_ne 31 dX8_strongBehind_24 (by decide) (fun c_24 => ?_) (fun c_24 => ?_)
      · refine go_iconst (0) dX8_strongBehind_31 (by decide) ?_
        refine go_istore_n dX8_strongBehind_32 (by decide) ?_
        refine go_iload_n dX8_strongBehind_33 rfl ?_
        refine go_if_eq 48 dX8_strongBehind_34 (by decide) (fun c_34 => ?_) (fun c_34 => ?_)
        · refine go_iload_n dX8_strongBehind_48 rfl ?_
          refine go_ireturn dX8_strongBehind_49 rfl rfl (Nat.le_of_ble_eq_true rfl) (Nat.le_of_ble_eq_true rfl) ?_
          exact ⟨by first | (simp_all [strI]; done) | (simp [strI, *]; done) | (simp only [strI, if_pos c_2, if_neg c_6]), rfl⟩
        · refine go_iload_n dX8_strongBehind_37 rfl ?_
          refine go_iload_n dX8_strongBehind_38 rfl ?_
          refine go_icmp_ge 48 dX8_strongBehind_39 (by decide) (fun c_39 => ?_) (fun c_39 => ?_)
          · refine go_iload_n dX8_strongBehind_48 rfl ?_
            refine go_ireturn dX8_strongBehind_49 rfl rfl (Nat.le_of_ble_eq_true rfl) (Nat.le_of_ble_eq_true rfl) ?_
            exact ⟨by first | (simp_all [strI]; done) | (simp [strI, *]; done) | (simp only [strI, if_pos c_2, if_neg c_6]), rfl⟩
          · refine go_iload_n dX8_strongBehind_42 rfl ?_
            refine go_iconst (1) dX8_strongBehind_43 (by decide) ?_
            refine go_iadd dX8_strongBehind_44 ?_
            refine go_goto 49 dX8_strongBehind_45 (by decide) ?_
            refine go_ireturn dX8_strongBehind_49 rfl rfl (Nat.le_of_ble_eq_true rfl) (Nat.le_of_ble_eq_true rfl) ?_
            exact ⟨by first | (simp_all [strI]; done) | (simp [strI, *]; done) | (simp only [strI, if_pos c_2, if_neg c_6]), rfl⟩
      · refine go_iconst (1) dX8_strongBehind_27 (by decide) ?_
        refine go_goto 32 dX8_strongBehind_28 (by decide) ?_
        refine go_istore_n dX8_strongBehind_32 (by decide) ?_
        refine go_iload_n dX8_strongBehind_33 rfl ?_
        refine go_if_eq 48 dX8_strongBehind_34 (by decide) (fun c_34 => ?_) (fun c_34 => ?_)
        · refine go_iload_n dX8_strongBehind_48 rfl ?_
          refine go_ireturn dX8_strongBehind_49 rfl rfl (Nat.le_of_ble_eq_true rfl) (Nat.le_of_ble_eq_true rfl) ?_
          exact ⟨by first | (simp_all [strI]; done) | (simp [strI, *]; done) | (simp only [strI, if_pos c_2, if_neg c_6]), rfl⟩
        · refine go_iload_n dX8_strongBehind_37 rfl ?_
          refine go_iload_n dX8_strongBehind_38 rfl ?_
          refine go_icmp_ge 48 dX8_strongBehind_39 (by decide) (fun c_39 => ?_) (fun c_39 => ?_)
          · refine go_iload_n dX8_strongBehind_48 rfl ?_
            refine go_ireturn dX8_strongBehind_49 rfl rfl (Nat.le_of_ble_eq_true rfl) (Nat.le_of_ble_eq_true rfl) ?_
            exact ⟨by first | (simp_all [strI]; done) | (simp [strI, *]; done) | (simp only [strI, if_pos c_2, if_neg c_6]), rfl⟩
          · refine go_iload_n dX8_strongBehind_42 rfl ?_
            refine go_iconst (1) dX8_strongBehind_43 (by decide) ?_
            refine go_iadd dX8_strongBehind_44 ?_
            refine go_goto 49 dX8_strongBehind_45 (by decide) ?_
            refine go_ireturn dX8_strongBehind_49 rfl rfl (Nat.le_of_ble_eq_true rfl) (Nat.le_of_ble_eq_true rfl) ?_
            exact ⟨by first | (simp_all [strI]; done) | (simp [strI, *]; done) | (simp only [strI, if_pos c_2, if_neg c_6]), rfl⟩
  · refine go_iload_n dX8_strongBehind_5 rfl ?_
    refine go_if_le 15 dX8_strongBehind_6 (by decide) (fun c_6 => ?_) (fun c_6 => ?_)
    · refine go_iconst (0) dX8_strongBehind_15 (by decide) ?_
      refine go_ireturn dX8_strongBehind_16 rfl rfl (Nat.le_of_ble_eq_true rfl) (Nat.le_of_ble_eq_true rfl) ?_
      exact ⟨by first | (simp_all [strI]; done) | (simp [strI, *]; done) | (simp only [strI, if_pos c_2, if_neg c_6]), rfl⟩
    · refine go_iload_n dX8_strongBehind_9 rfl ?_
      refine go_iconst (1) dX8_strongBehind_10 (by decide) ?_
      refine go_isub dX8_strongBehind_11 ?_
      refine go_goto 16 dX8_strongBehind_12 (by decide) ?_
      refine go_ireturn dX8_strongBehind_16 rfl rfl (Nat.le_of_ble_eq_true rfl) (Nat.le_of_ble_eq_true rfl) ?_
      exact ⟨by first | (simp_all [strI]; done) | (simp [strI, *]; done) | (simp only [strI, if_pos c_2, if_neg c_6]), rfl⟩
set_option maxRecDepth 100000 in
theorem ev_X9_allows (k v : Int32) : Ev MX9_allows [.int k, .int v] [] (Ri [] (if k = 1 then (if v < 1 ∨ 8 < v then 0 else 1) else (if v < 0 ∨ 9 < v then 0 else 1))) := by
  refine ev_of bX9_allows [some (.int k), some (.int v)] (Nat.le_of_ble_eq_true rfl) rfl ?_
  refine go_iload_n dX9_allows_0 rfl ?_
  refine go_iconst (1) dX9_allows_1 (by decide) ?_
  refine go_icmp_ne 24 dX9_allows_2 (by decide) (fun c_2 => ?_) (fun c_2 => ?_)
  · refine go_iload_n dX9_allows_24 rfl ?_
    refine go_if_lt 38 dX9_allows_25 (by decide) (fun c_25 => ?_) (fun c_25 => ?_)
    · refine go_iconst (0) dX9_allows_38 (by decide) ?_
      refine go_ireturn dX9_allows_39 rfl rfl (Nat.le_of_ble_eq_true rfl) (Nat.le_of_ble_eq_true rfl) ?_
      exact ⟨by simp [*], rfl⟩
    · refine go_iload_n dX9_allows_28 rfl ?_
      refine go_bipush (9) dX9_allows_29 (by decide) ?_
      refine go_icmp_gt 38 dX9_allows_31 (by decide) (fun c_31 => ?_) (fun c_31 => ?_)
      · refine go_iconst (0) dX9_allows_38 (by decide) ?_
        refine go_ireturn dX9_allows_39 rfl rfl (Nat.le_of_ble_eq_true rfl) (Nat.le_of_ble_eq_true rfl) ?_
        exact ⟨by simp [*], rfl⟩
      · refine go_iconst (1) dX9_allows_34 (by decide) ?_
        refine go_goto 39 dX9_allows_35 (by decide) ?_
        refine go_ireturn dX9_allows_39 rfl rfl (Nat.le_of_ble_eq_true rfl) (Nat.le_of_ble_eq_true rfl) ?_
        exact ⟨by simp [*], rfl⟩
  · refine go_iload_n dX9_allows_5 rfl ?_
    refine go_iconst (1) dX9_allows_6 (by decide) ?_
    refine go_icmp_lt 20 dX9_allows_7 (by decide) (fun c_7 => ?_) (fun c_7 => ?_)
    · refine go_iconst (0) dX9_allows_20 (by decide) ?_
      refine go_goto 39 dX9_allows_21 (by decide) ?_
      refine go_ireturn dX9_allows_39 rfl rfl (Nat.le_of_ble_eq_true rfl) (Nat.le_of_ble_eq_true rfl) ?_
      exact ⟨by simp [*], rfl⟩
    · refine go_iload_n dX9_allows_10 rfl ?_
      refine go_bipush (8) dX9_allows_11 (by decide) ?_
      refine go_icmp_gt 20 dX9_allows_13 (by decide) (fun c_13 => ?_) (fun c_13 => ?_)
      · refine go_iconst (0) dX9_allows_20 (by decide) ?_
        refine go_goto 39 dX9_allows_21 (by decide) ?_
        refine go_ireturn dX9_allows_39 rfl rfl (Nat.le_of_ble_eq_true rfl) (Nat.le_of_ble_eq_true rfl) ?_
        exact ⟨by simp [*], rfl⟩
      · refine go_iconst (1) dX9_allows_16 (by decide) ?_
        refine go_goto 39 dX9_allows_17 (by decide) ?_
        refine go_ireturn dX9_allows_39 rfl rfl (Nat.le_of_ble_eq_true rfl) (Nat.le_of_ble_eq_true rfl) ?_
        exact ⟨by simp [*], rfl⟩
set_option maxRecDepth 100000 in
theorem ev_X9_change (s n b k v : Int32) : Ev MX9_change [.ref 0, .int k, .int v] [zO 7 [.int s, .int n, .int b]] (Rw (some (.int (if k = 0 then s else if k = 1 then n else b))) [zO 7 (if k = 0 then [.int v, .int n, .int b] else if k = 1 then [.int s, .int v, .int b] else [.int s, .int n, .int v])]) := by
  refine ev_of bX9_change [some (.ref 0), some (.int k), some (.int v), none] (Nat.le_of_ble_eq_true rfl) rfl ?_
  refine go_iload_n dX9_change_0 rfl ?_
  refine go_if_ne 17 dX9_change_1 (by decide) (fun c_1 => ?_) (fun c_1 => ?_)
  · refine go_iload_n dX9_change_17 rfl ?_
    refine go_iconst (1) dX9_change_18 (by decide) ?_
    refine go_icmp_ne 35 dX9_change_19 (by decide) (fun c_19 => ?_) (fun c_19 => ?_)
    · refine go_aload_n dX9_change_35 rfl ?_
      refine go_getf fX9_18 dX9_change_36 rfl rfl ?_
      refine go_istore_n dX9_change_39 (by decide) ?_
      refine go_aload_n dX9_change_40 rfl ?_
      refine go_iload_n dX9_change_41 rfl ?_
      refine go_putf fX9_18 dX9_change_42 rfl (fun _ _ _ h => by cases h; rfl) (fun _ => rfl) (fun _ => rfl) (Nat.le_of_ble_eq_true rfl) ?_
      refine go_iload_n dX9_change_45 rfl ?_
      refine go_ireturn dX9_change_46 rfl rfl (Nat.le_of_ble_eq_true rfl) (Nat.le_of_ble_eq_true rfl) ?_
      exact ⟨by simp [*], by simp [*]⟩
    · refine go_aload_n dX9_change_22 rfl ?_
      refine go_getf fX9_15 dX9_change_23 rfl rfl ?_
      refine go_istore_n dX9_change_26 (by decide) ?_
      refine go_aload_n dX9_change_27 rfl ?_
      refine go_iload_n dX9_change_28 rfl ?_
      refine go_putf fX9_15 dX9_change_29 rfl (fun _ _ _ h => by cases h; rfl) (fun _ => rfl) (fun _ => rfl) (Nat.le_of_ble_eq_true rfl) ?_
      refine go_goto 45 dX9_change_32 (by decide) ?_
      refine go_iload_n dX9_change_45 rfl ?_
      refine go_ireturn dX9_change_46 rfl rfl (Nat.le_of_ble_eq_true rfl) (Nat.le_of_ble_eq_true rfl) ?_
      exact ⟨by simp [*], by simp [*]⟩
  · refine go_aload_n dX9_change_4 rfl ?_
    refine go_getf fX9_9 dX9_change_5 rfl rfl ?_
    refine go_istore_n dX9_change_8 (by decide) ?_
    refine go_aload_n dX9_change_9 rfl ?_
    refine go_iload_n dX9_change_10 rfl ?_
    refine go_putf fX9_9 dX9_change_11 rfl (fun _ _ _ h => by cases h; rfl) (fun _ => rfl) (fun _ => rfl) (Nat.le_of_ble_eq_true rfl) ?_
    refine go_goto 45 dX9_change_14 (by decide) ?_
    refine go_iload_n dX9_change_45 rfl ?_
    refine go_ireturn dX9_change_46 rfl rfl (Nat.le_of_ble_eq_true rfl) (Nat.le_of_ble_eq_true rfl) ?_
    exact ⟨by simp [*], by simp [*]⟩
set_option maxRecDepth 100000 in
theorem ev_X3_draw (s : Int32) : Ev MX3_draw [.ref 0, .int 16] [zO 2 [.int s]] (Rw (some (.int (lotI s))) [zO 2 [.int (seedI s)]]) := by
  refine ev_of bX3_draw [some (.ref 0), some (.int 16)] (Nat.le_of_ble_eq_true rfl) rfl ?_
  refine go_aload_n dX3_draw_0 rfl ?_
  refine go_ldc dX3_draw_1 kX3_13 ?_
  refine go_aload_n dX3_draw_3 rfl ?_
  refine go_getf fX3_7 dX3_draw_4 rfl rfl ?_
  refine go_imul dX3_draw_7 ?_
  refine go_sipush (12345) dX3_draw_8 (by decide) ?_
  refine go_iadd dX3_draw_11 ?_
  refine go_putf fX3_7 dX3_draw_12 rfl (fun _ _ _ h => by cases h; rfl) (fun _ => rfl) (fun _ => rfl) (Nat.le_of_ble_eq_true rfl) ?_
  refine go_iload_n dX3_draw_15 rfl ?_
  refine go_if_le 31 dX3_draw_16 (by decide) (fun c_16 => absurd c_16 (by decide)) (fun _ => ?_)
  refine go_aload_n dX3_draw_19 rfl ?_
  refine go_getf fX3_7 dX3_draw_20 rfl rfl ?_
  refine go_bipush (16) dX3_draw_23 (by decide) ?_
  refine go_iushr dX3_draw_25 ?_
  refine go_iload_n dX3_draw_26 rfl ?_
  refine go_irem dX3_draw_27 (by decide) ?_
  refine go_goto 32 dX3_draw_28 (by decide) ?_
  refine go_ireturn dX3_draw_32 rfl rfl (Nat.le_of_ble_eq_true rfl) (Nat.le_of_ble_eq_true rfl) ?_
  exact ⟨rfl, rfl⟩
set_option maxRecDepth 100000 in
theorem ev_X2_kindOf (b : Int32) : Ev MX2_kindOf [.int b] [] (Ri [] (kinI b)) := by
  refine ev_of bX2_kindOf [some (.int b)] (Nat.le_of_ble_eq_true rfl) rfl ?_
  refine go_iload_n dX2_kindOf_0 rfl ?_
  by_cases h1 : b = 99
  · subst h1
    refine go_lookup (off := 45) 46 dX2_kindOf_1 (by decide) (by decide) (by decide) ?_
    refine go_iconst (1) dX2_kindOf_46 (by decide) ?_
    refine go_ireturn dX2_kindOf_47 rfl rfl (Nat.le_of_ble_eq_true rfl) (Nat.le_of_ble_eq_true rfl) ?_
    exact ⟨rfl, rfl⟩
  by_cases h2 : b = 100
  · subst h2
    refine go_lookup (off := 49) 50 dX2_kindOf_1 (by decide) (by decide) (by decide) ?_
    refine go_iconst (3) dX2_kindOf_50 (by decide) ?_
    refine go_ireturn dX2_kindOf_51 rfl rfl (Nat.le_of_ble_eq_true rfl) (Nat.le_of_ble_eq_true rfl) ?_
    exact ⟨rfl, rfl⟩
  by_cases h3 : b = 102
  · subst h3
    refine go_lookup (off := 43) 44 dX2_kindOf_1 (by decide) (by decide) (by decide) ?_
    refine go_iconst (0) dX2_kindOf_44 (by decide) ?_
    refine go_ireturn dX2_kindOf_45 rfl rfl (Nat.le_of_ble_eq_true rfl) (Nat.le_of_ble_eq_true rfl) ?_
    exact ⟨rfl, rfl⟩
  by_cases h4 : b = 114
  · subst h4
    refine go_lookup (off := 47) 48 dX2_kindOf_1 (by decide) (by decide) (by decide) ?_
    refine go_iconst (2) dX2_kindOf_48 (by decide) ?_
    refine go_ireturn dX2_kindOf_49 rfl rfl (Nat.le_of_ble_eq_true rfl) (Nat.le_of_ble_eq_true rfl) ?_
    exact ⟨rfl, rfl⟩
  refine go_lookup (off := 51) 52 dX2_kindOf_1 (by decide) ?_ (by decide) ?_
  · show Op.lookupswitch.offset [(99, 45), (100, 49), (102, 43), (114, 47)] 51 b.toInt = 51
    rw [lv_osw (a := 99) h1 (by decide), lv_osw (a := 100) h2 (by decide), lv_osw (a := 102) h3 (by decide), lv_osw (a := 114) h4 (by decide)]
    rfl
  refine go_iconst (-1) dX2_kindOf_52 (by decide) ?_
  refine go_ireturn dX2_kindOf_53 rfl rfl (Nat.le_of_ble_eq_true rfl) (Nat.le_of_ble_eq_true rfl) ?_
  exact ⟨by simp [kinI, *], rfl⟩
set_option maxRecDepth 100000 in
theorem ev_X2_fits (b : Int32) (j : Nat) (hj : j < 6) : Ev MX2_fits [.int b, .int (nI j)] [] (Ri [] (if fitN j b = true then 1 else 0)) := by
  refine ev_of bX2_fits [some (.int b), some (.int (nI j))] (Nat.le_of_ble_eq_true rfl) rfl ?_
  refine go_iload_n dX2_fits_0 rfl ?_
  match j, hj with
  | 0, _ =>
    refine go_tblIn 36 dX2_fits_1 (by decide) (by decide) rfl (by decide) ?_
    refine go_iload_n dX2_fits_36 rfl ?_
    refine go_callSi (z := MX2_kindOf) [] dX2_fits_37 lX2_39 sX2_kindOf (ev_X2_kindOf b) rfl rfl rfl rfl rfl rfl ?_
    refine go_iconst (-1) dX2_fits_40 (by decide) ?_
    refine go_icmp_eq 48 dX2_fits_41 (by decide) (fun c_41 => ?_) (fun c_41 => ?_)
    · refine go_iconst (0) dX2_fits_48 (by decide) ?_
      refine go_ireturn dX2_fits_49 rfl (by first | rfl | decide) (Nat.le_of_ble_eq_true rfl) (Nat.le_of_ble_eq_true rfl) ?_
      exact ⟨by simp_all [fitN], rfl⟩
    · refine go_iconst (1) dX2_fits_44 (by decide) ?_
      refine go_goto 49 dX2_fits_45 (by decide) ?_
      refine go_ireturn dX2_fits_49 rfl (by first | rfl | decide) (Nat.le_of_ble_eq_true rfl) (Nat.le_of_ble_eq_true rfl) ?_
      exact ⟨by simp_all [fitN], rfl⟩
  | 1, _ =>
    refine go_tblIn 50 dX2_fits_1 (by decide) (by decide) rfl (by decide) ?_
    refine go_iload_n dX2_fits_50 rfl ?_
    refine go_bipush (48) dX2_fits_51 (by decide) ?_
    refine go_icmp_lt 66 dX2_fits_53 (by decide) (fun c_53 => ?_) (fun c_53 => ?_)
    · refine go_iconst (0) dX2_fits_66 (by decide) ?_
      refine go_ireturn dX2_fits_67 rfl (by first | rfl | decide) (Nat.le_of_ble_eq_true rfl) (Nat.le_of_ble_eq_true rfl) ?_
      exact ⟨by simp_all [fitN], rfl⟩
    · refine go_iload_n dX2_fits_56 rfl ?_
      refine go_bipush (57) dX2_fits_57 (by decide) ?_
      refine go_icmp_gt 66 dX2_fits_59 (by decide) (fun c_59 => ?_) (fun c_59 => ?_)
      · refine go_iconst (0) dX2_fits_66 (by decide) ?_
        refine go_ireturn dX2_fits_67 rfl (by first | rfl | decide) (Nat.le_of_ble_eq_true rfl) (Nat.le_of_ble_eq_true rfl) ?_
        exact ⟨by simp_all [fitN], rfl⟩
      · refine go_iconst (1) dX2_fits_62 (by decide) ?_
        refine go_goto 67 dX2_fits_63 (by decide) ?_
        refine go_ireturn dX2_fits_67 rfl (by first | rfl | decide) (Nat.le_of_ble_eq_true rfl) (Nat.le_of_ble_eq_true rfl) ?_
        exact ⟨by simp_all [fitN], rfl⟩
  | 2, _ =>
    refine go_tblIn 50 dX2_fits_1 (by decide) (by decide) rfl (by decide) ?_
    refine go_iload_n dX2_fits_50 rfl ?_
    refine go_bipush (48) dX2_fits_51 (by decide) ?_
    refine go_icmp_lt 66 dX2_fits_53 (by decide) (fun c_53 => ?_) (fun c_53 => ?_)
    · refine go_iconst (0) dX2_fits_66 (by decide) ?_
      refine go_ireturn dX2_fits_67 rfl (by first | rfl | decide) (Nat.le_of_ble_eq_true rfl) (Nat.le_of_ble_eq_true rfl) ?_
      exact ⟨by simp_all [fitN], rfl⟩
    · refine go_iload_n dX2_fits_56 rfl ?_
      refine go_bipush (57) dX2_fits_57 (by decide) ?_
      refine go_icmp_gt 66 dX2_fits_59 (by decide) (fun c_59 => ?_) (fun c_59 => ?_)
      · refine go_iconst (0) dX2_fits_66 (by decide) ?_
        refine go_ireturn dX2_fits_67 rfl (by first | rfl | decide) (Nat.le_of_ble_eq_true rfl) (Nat.le_of_ble_eq_true rfl) ?_
        exact ⟨by simp_all [fitN], rfl⟩
      · refine go_iconst (1) dX2_fits_62 (by decide) ?_
        refine go_goto 67 dX2_fits_63 (by decide) ?_
        refine go_ireturn dX2_fits_67 rfl (by first | rfl | decide) (Nat.le_of_ble_eq_true rfl) (Nat.le_of_ble_eq_true rfl) ?_
        exact ⟨by simp_all [fitN], rfl⟩
  | 3, _ =>
    refine go_tblIn 68 dX2_fits_1 (by decide) (by decide) rfl (by decide) ?_
    refine go_iload_n dX2_fits_68 rfl ?_
    refine go_bipush (103) dX2_fits_69 (by decide) ?_
    refine go_icmp_eq 80 dX2_fits_71 (by decide) (fun c_71 => ?_) (fun c_71 => ?_)
    · refine go_iconst (1) dX2_fits_80 (by decide) ?_
      refine go_goto 85 dX2_fits_81 (by decide) ?_
      refine go_ireturn dX2_fits_85 rfl (by first | rfl | decide) (Nat.le_of_ble_eq_true rfl) (Nat.le_of_ble_eq_true rfl) ?_
      exact ⟨by simp_all [fitN], rfl⟩
    · refine go_iload_n dX2_fits_74 rfl ?_
      refine go_bipush (105) dX2_fits_75 (by decide) ?_
      refine go_icmp_ne 84 dX2_fits_77 (by decide) (fun c_77 => ?_) (fun c_77 => ?_)
      · refine go_iconst (0) dX2_fits_84 (by decide) ?_
        refine go_ireturn dX2_fits_85 rfl (by first | rfl | decide) (Nat.le_of_ble_eq_true rfl) (Nat.le_of_ble_eq_true rfl) ?_
        exact ⟨by simp_all [fitN], rfl⟩
      · refine go_iconst (1) dX2_fits_80 (by decide) ?_
        refine go_goto 85 dX2_fits_81 (by decide) ?_
        refine go_ireturn dX2_fits_85 rfl (by first | rfl | decide) (Nat.le_of_ble_eq_true rfl) (Nat.le_of_ble_eq_true rfl) ?_
        exact ⟨by simp_all [fitN], rfl⟩
  | 4, _ =>
    refine go_tblIn 86 dX2_fits_1 (by decide) (by decide) rfl (by decide) ?_
    refine go_iload_n dX2_fits_86 rfl ?_
    refine go_bipush (48) dX2_fits_87 (by decide) ?_
    refine go_icmp_lt 98 dX2_fits_89 (by decide) (fun c_89 => ?_) (fun c_89 => ?_)
    · refine go_iload_n dX2_fits_98 rfl ?_
      refine go_bipush (46) dX2_fits_99 (by decide) ?_
      refine go_icmp_ne 108 dX2_fits_101 (by decide) (fun c_101 => ?_) (fun c_101 => ?_)
      · refine go_iconst (0) dX2_fits_108 (by decide) ?_
        refine go_ireturn dX2_fits_109 rfl (by first | rfl | decide) (Nat.le_of_ble_eq_true rfl) (Nat.le_of_ble_eq_true rfl) ?_
        exact ⟨by simp_all [fitN], rfl⟩
      · refine go_iconst (1) dX2_fits_104 (by decide) ?_
        refine go_goto 109 dX2_fits_105 (by decide) ?_
        refine go_ireturn dX2_fits_109 rfl (by first | rfl | decide) (Nat.le_of_ble_eq_true rfl) (Nat.le_of_ble_eq_true rfl) ?_
        exact ⟨by simp_all [fitN], rfl⟩
    · refine go_iload_n dX2_fits_92 rfl ?_
      refine go_bipush (55) dX2_fits_93 (by decide) ?_
      refine go_icmp_le 104 dX2_fits_95 (by decide) (fun c_95 => ?_) (fun c_95 => ?_)
      · refine go_iconst (1) dX2_fits_104 (by decide) ?_
        refine go_goto 109 dX2_fits_105 (by decide) ?_
        refine go_ireturn dX2_fits_109 rfl (by first | rfl | decide) (Nat.le_of_ble_eq_true rfl) (Nat.le_of_ble_eq_true rfl) ?_
        exact ⟨by simp_all [fitN], rfl⟩
      · refine go_iload_n dX2_fits_98 rfl ?_
        refine go_bipush (46) dX2_fits_99 (by decide) ?_
        refine go_icmp_ne 108 dX2_fits_101 (by decide) (fun c_101 => ?_) (fun c_101 => ?_)
        · refine go_iconst (0) dX2_fits_108 (by decide) ?_
          refine go_ireturn dX2_fits_109 rfl (by first | rfl | decide) (Nat.le_of_ble_eq_true rfl) (Nat.le_of_ble_eq_true rfl) ?_
          exact ⟨by simp_all [fitN], rfl⟩
        · refine go_iconst (1) dX2_fits_104 (by decide) ?_
          refine go_goto 109 dX2_fits_105 (by decide) ?_
          refine go_ireturn dX2_fits_109 rfl (by first | rfl | decide) (Nat.le_of_ble_eq_true rfl) (Nat.le_of_ble_eq_true rfl) ?_
          exact ⟨by simp_all [fitN], rfl⟩
  | 5, _ =>
    refine go_tblOut 110 dX2_fits_1 (by decide) (by decide) ?_
    refine go_iload_n dX2_fits_110 rfl ?_
    refine go_bipush (59) dX2_fits_111 (by decide) ?_
    refine go_icmp_ne 120 dX2_fits_113 (by decide) (fun c_113 => ?_) (fun c_113 => ?_)
    · refine go_iconst (0) dX2_fits_120 (by decide) ?_
      refine go_ireturn dX2_fits_121 rfl (by first | rfl | decide) (Nat.le_of_ble_eq_true rfl) (Nat.le_of_ble_eq_true rfl) ?_
      exact ⟨by simp_all [fitN], rfl⟩
    · refine go_iconst (1) dX2_fits_116 (by decide) ?_
      refine go_goto 121 dX2_fits_117 (by decide) ?_
      refine go_ireturn dX2_fits_121 rfl (by first | rfl | decide) (Nat.le_of_ble_eq_true rfl) (Nat.le_of_ble_eq_true rfl) ?_
      exact ⟨by simp_all [fitN], rfl⟩
  | j + 6, h => exact absurd h (by omega)
set_option maxRecDepth 100000 in
theorem ev_X6_findingAt (lost form sz g i : Int32) (f : Nat → Int32) : Ev MX6_findingAt [.ref 0, .int g, .int i] [zO 5 [.ref 1, .int lost, .int form, .int sz], zI 60 f] (Ri [zO 5 [.ref 1, .int lost, .int form, .int sz], zI 60 f] (if ¬ lost = 0 then 1 else if ¬ form = g then 3 else if i < 0 ∨ ¬ i < sz then 2 else 0)) := by
  refine ev_of bX6_findingAt [some (.ref 0), some (.int g), some (.int i)] (Nat.le_of_ble_eq_true rfl) rfl ?_
  refine go_aload_n dX6_findingAt_0 rfl ?_
  refine go_getf fX6_15 dX6_findingAt_1 rfl rfl ?_
  refine go_if_eq 9 dX6_findingAt_4 (by decide) (fun c_4 => ?_) (fun c_4 => ?_)
  · refine go_aload_n dX6_findingAt_9 rfl ?_
    refine go_getf fX6_19 dX6_findingAt_10 rfl rfl ?_
    refine go_iload_n dX6_findingAt_13 rfl ?_
    refine go_icmp_eq 19 dX6_findingAt_14 (by decide) (fun c_14 => ?_) (fun c_14 => ?_)
    · refine go_iload_n dX6_findingAt_19 rfl ?_
      refine go_if_lt 31 dX6_findingAt_20 (by decide) (fun c_20 => ?_) (fun c_20 => ?_)
      · refine go_iconst (2) dX6_findingAt_31 (by decide) ?_
        refine go_goto 36 dX6_findingAt_32 (by decide) ?_
        refine go_ireturn dX6_findingAt_36 rfl rfl (Nat.le_of_ble_eq_true rfl) (Nat.le_of_ble_eq_true rfl) ?_
        exact ⟨by simp [*], rfl⟩
      · refine go_iload_n dX6_findingAt_23 rfl ?_
        refine go_aload_n dX6_findingAt_24 rfl ?_
        refine go_getf fX6_32 dX6_findingAt_25 rfl rfl ?_
        refine go_icmp_lt 35 dX6_findingAt_28 (by decide) (fun c_28 => ?_) (fun c_28 => ?_)
        · refine go_iconst (0) dX6_findingAt_35 (by decide) ?_
          refine go_ireturn dX6_findingAt_36 rfl rfl (Nat.le_of_ble_eq_true rfl) (Nat.le_of_ble_eq_true rfl) ?_
          exact ⟨by simp [*], rfl⟩
        · refine go_iconst (2) dX6_findingAt_31 (by decide) ?_
          refine go_goto 36 dX6_findingAt_32 (by decide) ?_
          refine go_ireturn dX6_findingAt_36 rfl rfl (Nat.le_of_ble_eq_true rfl) (Nat.le_of_ble_eq_true rfl) ?_
          exact ⟨by simp [*], rfl⟩
    · refine go_iconst (3) dX6_findingAt_17 (by decide) ?_
      refine go_ireturn dX6_findingAt_18 rfl rfl (Nat.le_of_ble_eq_true rfl) (Nat.le_of_ble_eq_true rfl) ?_
      exact ⟨by simp [*], rfl⟩
  · refine go_iconst (1) dX6_findingAt_7 (by decide) ?_
    refine go_ireturn dX6_findingAt_8 rfl rfl (Nat.le_of_ble_eq_true rfl) (Nat.le_of_ble_eq_true rfl) ?_
    exact ⟨by simp [*], rfl⟩
set_option maxRecDepth 100000 in
theorem ev_X6_hasStretch (lost form sz i n : Int32) (f : Nat → Int32) : Ev MX6_hasStretch [.ref 0, .int i, .int n] [zO 5 [.ref 1, .int lost, .int form, .int sz], zI 60 f] (Ri [zO 5 [.ref 1, .int lost, .int form, .int sz], zI 60 f] (if i < 0 ∨ n < 0 ∨ sz < i ∨ sz - i < n then 0 else 1)) := by
  refine ev_of bX6_hasStretch [some (.ref 0), some (.int i), some (.int n)] (Nat.le_of_ble_eq_true rfl) rfl ?_
  refine go_iload_n dX6_hasStretch_0 rfl ?_
  refine go_if_lt 30 dX6_hasStretch_1 (by decide) (fun c_1 => ?_) (fun c_1 => ?_)
  · refine go_iconst (0) dX6_hasStretch_30 (by decide) ?_
    refine go_ireturn dX6_hasStretch_31 rfl rfl (Nat.le_of_ble_eq_true rfl) (Nat.le_of_ble_eq_true rfl) ?_
    exact ⟨by simp [*], rfl⟩
  · refine go_iload_n dX6_hasStretch_4 rfl ?_
    refine go_if_lt 30 dX6_hasStretch_5 (by decide) (fun c_5 => ?_) (fun c_5 => ?_)
    · refine go_iconst (0) dX6_hasStretch_30 (by decide) ?_
      refine go_ireturn dX6_hasStretch_31 rfl rfl (Nat.le_of_ble_eq_true rfl) (Nat.le_of_ble_eq_true rfl) ?_
      exact ⟨by simp [*], rfl⟩
    · refine go_iload_n dX6_hasStretch_8 rfl ?_
      refine go_aload_n dX6_hasStretch_9 rfl ?_
      refine go_getf fX6_32 dX6_hasStretch_10 rfl rfl ?_
      refine go_icmp_gt 30 dX6_hasStretch_13 (by decide) (fun c_13 => ?_) (fun c_13 => ?_)
      · refine go_iconst (0) dX6_hasStretch_30 (by decide) ?_
        refine go_ireturn dX6_hasStretch_31 rfl rfl (Nat.le_of_ble_eq_true rfl) (Nat.le_of_ble_eq_true rfl) ?_
        exact ⟨by simp [*], rfl⟩
      · refine go_iload_n dX6_hasStretch_16 rfl ?_
        refine go_aload_n dX6_hasStretch_17 rfl ?_
        refine go_getf fX6_32 dX6_hasStretch_18 rfl rfl ?_
        refine go_iload_n dX6_hasStretch_21 rfl ?_
        refine go_isub dX6_hasStretch_22 ?_
        refine go_icmp_gt 30 dX6_hasStretch_23 (by decide) (fun c_23 => ?_) (fun c_23 => ?_)
        · refine go_iconst (0) dX6_hasStretch_30 (by decide) ?_
          refine go_ireturn dX6_hasStretch_31 rfl rfl (Nat.le_of_ble_eq_true rfl) (Nat.le_of_ble_eq_true rfl) ?_
          exact ⟨by simp [*], rfl⟩
        · refine go_iconst (1) dX6_hasStretch_26 (by decide) ?_
          refine go_goto 31 dX6_hasStretch_27 (by decide) ?_
          refine go_ireturn dX6_hasStretch_31 rfl rfl (Nat.le_of_ble_eq_true rfl) (Nat.le_of_ble_eq_true rfl) ?_
          exact ⟨by simp [*], rfl⟩
set_option maxRecDepth 100000 in
theorem ev_X6_put (lost form v : Int32) (j k : Nat) (hj : j < k) (hk : k ≤ 60) (f : Nat → Int32) : Ev MX6_put [.ref 0, .int (nI j), .int v] [zO 5 [.ref 1, .int lost, .int form, .int (nI k)], zI 60 f] (Rw none [zO 5 [.ref 1, .int lost, .int form, .int (nI k)], zI 60 (upd f j (cutI form v))]) := by
  refine ev_of bX6_put [some (.ref 0), some (.int (nI j)), some (.int v)] (Nat.le_of_ble_eq_true rfl) rfl ?_
  refine go_iload_n dX6_put_0 rfl ?_
  refine go_if_lt 44 dX6_put_1 (by decide) (fun c_1 => absurd c_1 (nI_pos (by omega))) (fun _ => ?_)
  refine go_iload_n dX6_put_4 rfl ?_
  refine go_aload_n dX6_put_5 rfl ?_
  refine go_getf fX6_32 dX6_put_6 rfl rfl ?_
  refine go_icmp_ge 44 dX6_put_9 (by decide) (fun c_9 => absurd c_9 (nI_ge hj (by omega))) (fun _ => ?_)
  refine go_aload_n dX6_put_12 rfl ?_
  refine go_getf fX6_9 dX6_put_13 rfl rfl ?_
  refine go_iload_n dX6_put_16 rfl ?_
  refine go_aload_n dX6_put_17 rfl ?_
  refine go_getf fX6_19 dX6_put_18 rfl rfl ?_
  refine go_if_ne 29 dX6_put_21 (by decide) (fun c_21 => ?_) (fun c_21 => ?_)
  · refine go_aload_n dX6_put_29 rfl ?_
    refine go_getf fX6_19 dX6_put_30 rfl rfl ?_
    refine go_iconst (1) dX6_put_33 (by decide) ?_
    refine go_icmp_ne 42 dX6_put_34 (by decide) (fun c_34 => ?_) (fun c_34 => ?_)
    · refine go_iload_n dX6_put_42 rfl ?_
      refine go_iast dX6_put_43 rfl (vp_in_nI (by omega) (by decide)) ?_
      refine go_return dX6_put_44 rfl (Nat.le_of_ble_eq_true rfl) (Nat.le_of_ble_eq_true rfl) ?_
      refine ⟨rfl, ?_⟩
      simp only [nI_clamp (show j < 2 ^ 31 by omega)]
      simp_all [cutI]
    · refine go_iload_n dX6_put_37 rfl ?_
      refine go_i2s dX6_put_38 ?_
      refine go_goto 43 dX6_put_39 (by decide) ?_
      refine go_iast dX6_put_43 rfl (vp_in_nI (by omega) (by decide)) ?_
      refine go_return dX6_put_44 rfl (Nat.le_of_ble_eq_true rfl) (Nat.le_of_ble_eq_true rfl) ?_
      refine ⟨rfl, ?_⟩
      simp only [nI_clamp (show j < 2 ^ 31 by omega)]
      simp_all [cutI]
  · refine go_iload_n dX6_put_24 rfl ?_
    refine go_i2b dX6_put_25 ?_
    refine go_goto 43 dX6_put_26 (by decide) ?_
    refine go_iast dX6_put_43 rfl (vp_in_nI (by omega) (by decide)) ?_
    refine go_return dX6_put_44 rfl (Nat.le_of_ble_eq_true rfl) (Nat.le_of_ble_eq_true rfl) ?_
    refine ⟨rfl, ?_⟩
    simp only [nI_clamp (show j < 2 ^ 31 by omega)]
    simp_all [cutI]
set_option maxRecDepth 100000 in
theorem ev_X7_allows (f t : Int32) : Ev MX7_allows [.int f, .int t] [] (Ri [] (if f < 0 ∨ 8 ≤ f ∨ t < 0 ∨ 5 ≤ t then 0 else 1)) := by
  refine ev_of bX7_allows [some (.int f), some (.int t)] (Nat.le_of_ble_eq_true rfl) rfl ?_
  refine go_iload_n dX7_allows_0 rfl ?_
  refine go_if_lt 23 dX7_allows_1 (by decide) (fun c_1 => ?_) (fun c_1 => ?_)
  · refine go_iconst (0) dX7_allows_23 (by decide) ?_
    refine go_ireturn dX7_allows_24 rfl rfl (Nat.le_of_ble_eq_true rfl) (Nat.le_of_ble_eq_true rfl) ?_
    exact ⟨by simp [*], rfl⟩
  · refine go_iload_n dX7_allows_4 rfl ?_
    refine go_bipush (8) dX7_allows_5 (by decide) ?_
    refine go_icmp_ge 23 dX7_allows_7 (by decide) (fun c_7 => ?_) (fun c_7 => ?_)
    · refine go_iconst (0) dX7_allows_23 (by decide) ?_
      refine go_ireturn dX7_allows_24 rfl rfl (Nat.le_of_ble_eq_true rfl) (Nat.le_of_ble_eq_true rfl) ?_
      exact ⟨by simp [*], rfl⟩
    · refine go_iload_n dX7_allows_10 rfl ?_
      refine go_if_lt 23 dX7_allows_11 (by decide) (fun c_11 => ?_) (fun c_11 => ?_)
      · refine go_iconst (0) dX7_allows_23 (by decide) ?_
        refine go_ireturn dX7_allows_24 rfl rfl (Nat.le_of_ble_eq_true rfl) (Nat.le_of_ble_eq_true rfl) ?_
        exact ⟨by simp [*], rfl⟩
      · refine go_iload_n dX7_allows_14 rfl ?_
        refine go_iconst (5) dX7_allows_15 (by decide) ?_
        refine go_icmp_ge 23 dX7_allows_16 (by decide) (fun c_16 => ?_) (fun c_16 => ?_)
        · refine go_iconst (0) dX7_allows_23 (by decide) ?_
          refine go_ireturn dX7_allows_24 rfl rfl (Nat.le_of_ble_eq_true rfl) (Nat.le_of_ble_eq_true rfl) ?_
          exact ⟨by simp [*], rfl⟩
        · refine go_iconst (1) dX7_allows_19 (by decide) ?_
          refine go_goto 24 dX7_allows_20 (by decide) ?_
          refine go_ireturn dX7_allows_24 rfl rfl (Nat.le_of_ble_eq_true rfl) (Nat.le_of_ble_eq_true rfl) ?_
          exact ⟨by simp [*], rfl⟩
set_option maxRecDepth 100000 in
theorem ev_X7_isFull (sz : Int32) (a b : Nat → Int32) : Ev MX7_isFull [.ref 0] [zO 6 [.ref 1, .ref 2, .int sz], zI 8 a, zI 8 b] (Ri [zO 6 [.ref 1, .ref 2, .int sz], zI 8 a, zI 8 b] (if sz < 8 then 0 else 1)) := by
  refine ev_of bX7_isFull [some (.ref 0)] (Nat.le_of_ble_eq_true rfl) rfl ?_
  refine go_aload_n dX7_isFull_0 rfl ?_
  refine go_getf fX7_18 dX7_isFull_1 rfl rfl ?_
  refine go_bipush (8) dX7_isFull_4 (by decide) ?_
  refine go_icmp_lt 13 dX7_isFull_6 (by decide) (fun c_6 => ?_) (fun c_6 => ?_)
  · refine go_iconst (0) dX7_isFull_13 (by decide) ?_
    refine go_ireturn dX7_isFull_14 rfl rfl (Nat.le_of_ble_eq_true rfl) (Nat.le_of_ble_eq_true rfl) ?_
    exact ⟨by simp [*], rfl⟩
  · refine go_iconst (1) dX7_isFull_9 (by decide) ?_
    refine go_goto 14 dX7_isFull_10 (by decide) ?_
    refine go_ireturn dX7_isFull_14 rfl rfl (Nat.le_of_ble_eq_true rfl) (Nat.le_of_ble_eq_true rfl) ?_
    exact ⟨by simp [*], rfl⟩
set_option maxRecDepth 100000 in
theorem ev_X7_add (k : Nat) (hk : k < 8) (x y : Int32) (a b : Nat → Int32) : Ev MX7_add [.ref 0, .int x, .int y] [zO 6 [.ref 1, .ref 2, .int (nI k)], zI 8 a, zI 8 b] (Rw none [zO 6 [.ref 1, .ref 2, .int (nI (k + 1))], zI 8 (upd a k x), zI 8 (upd b k y)]) := by
  refine ev_of bX7_add [some (.ref 0), some (.int x), some (.int y)] (Nat.le_of_ble_eq_true rfl) rfl ?_
  refine go_aload_n dX7_add_0 rfl ?_
  refine go_getf fX7_18 dX7_add_1 rfl rfl ?_
  refine go_bipush (8) dX7_add_4 (by decide) ?_
  refine go_icmp_ge 39 dX7_add_6 (by decide) (fun c_6 => absurd c_6 (nI_ge hk (by decide))) (fun _ => ?_)
  refine go_aload_n dX7_add_9 rfl ?_
  refine go_getf fX7_9 dX7_add_10 rfl rfl ?_
  refine go_aload_n dX7_add_13 rfl ?_
  refine go_getf fX7_18 dX7_add_14 rfl rfl ?_
  refine go_iload_n dX7_add_17 rfl ?_
  refine go_iast dX7_add_18 rfl (vp_in_nI hk (by decide)) ?_
  refine go_aload_n dX7_add_19 rfl ?_
  refine go_getf fX7_15 dX7_add_20 rfl rfl ?_
  refine go_aload_n dX7_add_23 rfl ?_
  refine go_getf fX7_18 dX7_add_24 rfl rfl ?_
  refine go_iload_n dX7_add_27 rfl ?_
  refine go_iast dX7_add_28 rfl (vp_in_nI hk (by decide)) ?_
  refine go_aload_n dX7_add_29 rfl ?_
  refine go_dup dX7_add_30 rfl ?_
  refine go_getf fX7_18 dX7_add_31 rfl rfl ?_
  refine go_iconst (1) dX7_add_34 (by decide) ?_
  refine go_iadd dX7_add_35 ?_
  refine go_putf fX7_18 dX7_add_36 rfl (fun _ _ _ h => by cases h; rfl) (fun _ => rfl) (fun _ => rfl) (Nat.le_of_ble_eq_true rfl) ?_
  refine go_return dX7_add_39 rfl (Nat.le_of_ble_eq_true rfl) (Nat.le_of_ble_eq_true rfl) ?_
  refine ⟨rfl, ?_⟩
  simp only [nI_clamp (show k < 2 ^ 31 by omega), ← nI_1]
  rfl
set_option maxRecDepth 100000 in
theorem ev_X0_fateOf (len goal : Int32) (harm : Int64) (cm sx sg wn inn ft : Nat → Int32) (ab : Nat → Int64) (i : Int32) : Ev MX0_fateOf [.ref 0, .int i] [zO 0 [.ref 1, .ref 2, .ref 3, .ref 4, .ref 5, .ref 6, .ref 7, .int len, .int goal, .long harm], zI 12 cm, zI 12 sx, zI 13 sg, zI 13 wn, zL 13 ab, zI 13 inn, zI 8 ft] (Ri [zO 0 [.ref 1, .ref 2, .ref 3, .ref 4, .ref 5, .ref 6, .ref 7, .int len, .int goal, .long harm], zI 12 cm, zI 12 sx, zI 13 sg, zI 13 wn, zL 13 ab, zI 13 inn, zI 8 ft] (if i < 0 ∨ 8 ≤ i then -1 else ft i.toNatClampNeg)) := by
  refine ev_of bX0_fateOf [some (.ref 0), some (.int i)] (Nat.le_of_ble_eq_true rfl) rfl ?_
  refine go_iload_n dX0_fateOf_0 rfl ?_
  refine go_if_lt 19 dX0_fateOf_1 (by decide) (fun c_1 => ?_) (fun c_1 => ?_)
  · refine go_iconst (-1) dX0_fateOf_19 (by decide) ?_
    refine go_ireturn dX0_fateOf_20 rfl rfl (Nat.le_of_ble_eq_true rfl) (Nat.le_of_ble_eq_true rfl) ?_
    exact ⟨by simp [*], rfl⟩
  · refine go_iload_n dX0_fateOf_4 rfl ?_
    refine go_bipush (8) dX0_fateOf_5 (by decide) ?_
    refine go_icmp_ge 19 dX0_fateOf_7 (by decide) (fun c_7 => ?_) (fun c_7 => ?_)
    · refine go_iconst (-1) dX0_fateOf_19 (by decide) ?_
      refine go_ireturn dX0_fateOf_20 rfl rfl (Nat.le_of_ble_eq_true rfl) (Nat.le_of_ble_eq_true rfl) ?_
      exact ⟨by simp [*], rfl⟩
    · refine go_aload_n dX0_fateOf_10 rfl ?_
      refine go_getf fX0_31 dX0_fateOf_11 rfl rfl ?_
      refine go_iload_n dX0_fateOf_14 rfl ?_
      refine go_iald dX0_fateOf_15 rfl (vin_of c_1 c_7 (by decide)) ?_
      refine go_goto 20 dX0_fateOf_16 (by decide) ?_
      refine go_ireturn dX0_fateOf_20 rfl rfl (Nat.le_of_ble_eq_true rfl) (Nat.le_of_ble_eq_true rfl) ?_
      exact ⟨by simp [*], rfl⟩
end
section
theorem li (n : Nat) : (OfNat.ofNat n : Int32) = nI n := rfl
theorem nI_e {a b : Nat} (h : a = b) : nI a = nI b := by rw [h]
theorem rem6 {i : Nat} (h : i < 2 ^ 31) : nI i - nI i / 6 * 6 = nI (i % 6) := pk_rem (d := 6) h (by decide) (by decide)
theorem nI_ne1 {i : Nat} (h : i < 2 ^ 31) : ¬ nI i = -1 := fun q => by
  have h1 := congrArg Int32.toInt q
  rw [nI_toInt h] at h1
  have h2 : (-1 : Int32).toInt = -1 := by decide
  omega
/-! the texts, as told: where a text of felons is at fault, how many felons, and what each part says -/
def bad (b : Nat → Int32) : Nat → Nat → Option Nat
  | 0, _ => none
  | d + 1, i => if fitN (i % 6) (b i) = true then bad b d (i + 1) else some i
def fltI (n : Nat) (b : Nat → Int32) : Int32 := match bad b n 0 with
  | some i => nI i
  | none => if n = 0 ∨ n % 6 = 5 then -1 else nI n
def gsz (n : Nat) (b : Nat → Int32) : Nat := if fltI n b = -1 then (n + 1) / 6 else 0
def prt (k : Nat) (b : Int32) : Int32 := match k with
  | 0 => kinI b
  | 1 => b - 48
  | 2 => b - 48
  | 3 => if b = 103 then 1 else 0
  | _ => if b = 46 then -1 else b - 48
def badN (b : Nat → Int32) : Nat → Nat → Option Nat
  | 0, _ => none
  | d + 1, i => if b i < 97 ∨ 104 < b i then some i else badN b d (i + 1)
def nfl (n : Nat) (b : Nat → Int32) : Int32 := match badN b n 0 with
  | some i => nI i
  | none => -1
def nsz (n : Nat) (b : Nat → Int32) : Nat := match badN b n 0 with
  | some _ => 0
  | none => n
def fateI (ft : Nat → Int32) (x : Int32) : Int32 := if x < 0 ∨ 8 ≤ x then -1 else ft x.toNatClampNeg
def okD (ft a b : Nat → Int32) : Nat → Nat → Bool
  | 0, _ => true
  | d + 1, i => if fateI ft (a i) = b i then okD ft a b d (i + 1) else false
/-- as many times as it can be halved -/
def tolN : Nat → Nat → Nat × Nat
  | a, 0 => (a, 0)
  | a, k + 1 => if a % 2 = 0 then tolN (a / 2) k else (a, k + 1)
theorem bad_lt {b : Nat → Int32} : ∀ {d i j : Nat}, bad b d i = some j → i ≤ j ∧ j < i + d
  | 0, i, j, h => by simp [bad] at h
  | d + 1, i, j, h => by
    rw [bad] at h
    split at h
    · have := bad_lt h; omega
    · simp at h; omega
theorem bad_ok {b : Nat → Int32} : ∀ {d i : Nat}, bad b d i = none → ∀ j, i ≤ j → j < i + d → fitN (j % 6) (b j) = true
  | 0, i, _, j, h1, h2 => by omega
  | d + 1, i, h, j, h1, h2 => by
    rw [bad] at h
    split at h
    · by_cases hj : j = i
      · subst hj; assumption
      · exact bad_ok h j (by omega) (by omega)
    · simp at h
theorem ev_byteE {n cap : Nat} {f : Nat → Int32} {x : Int32} {j : Nat} (hx : x = nI j) (hj : j < n) (hn : n ≤ cap) (hc : cap < 2 ^ 31) : Ev MX10_byteAt [.ref 0, .int x] [zO 8 [.ref 1, .int (nI n)], zI cap f] (Ri [zO 8 [.ref 1, .int (nI n)], zI cap f] (f j)) := by
  have h := ev_X10_byteAt cap (nI n) x f (by rw [nI_toInt (by omega)]; omega)
  subst hx
  have hv : (if nI j < 0 ∨ nI n ≤ nI j then (-1 : Int32) else f (nI j).toNatClampNeg) = f j := by
    rw [if_neg, nI_clamp (by omega)]
    rintro (q | q)
    · exact nI_pos (by omega) q
    · exact nI_ge hj (by omega) q
  rwa [hv] at h
theorem ev_partE {sz fp x y : Int32} {f : Nat → Int32} {j k : Nat} (hx : x = nI j) (hy : y = nI k) (hj : j < 8) (hk : k < 5) : Ev MX2_part [.ref 0, .int x, .int y] [zO 1 [.ref 1, .int sz, .int fp], zI 40 f] (Ri [zO 1 [.ref 1, .int sz, .int fp], zI 40 f] (f (5 * j + k))) := by
  have h := ev_X2_part sz fp x y f
  subst hx; subst hy
  have e : nI j * 5 + nI k = nI (5 * j + k) := by simp only [li, pk_mul, nI_add]; exact nI_e (by omega)
  rw [e] at h
  rw [if_neg, nI_clamp (by omega)] at h
  · exact h
  · rintro (q | q)
    · exact nI_pos (by omega) q
    · exact nI_ge (a := 5 * j + k) (b := 40) (by omega) (by decide) q
theorem min12 {n : Nat} (h : n ≤ 12) : (if nI n < (12 : Int32) then nI n else 12) = nI n := by
  by_cases h2 : n = 12
  · subst h2; rfl
  · exact if_pos (nI_lt (a := n) (b := 12) (by omega) (by decide))
theorem has_t {j g : Nat} (h : j < g) (hg : g < 2 ^ 31) : (if nI j < 0 ∨ nI g ≤ nI j then (0 : Int32) else 1) = 1 := by
  rw [if_neg]
  rintro (q | q)
  · exact nI_pos (by omega) q
  · exact nI_ge h hg q
theorem has_f {j g : Nat} (h : g ≤ j) (hj : j < 2 ^ 31) : (if nI j < 0 ∨ nI g ≤ nI j then (0 : Int32) else 1) = 0 := by
  rw [if_pos (Or.inr (nI_le h hj))]
set_option maxRecDepth 100000 in
theorem ev_X2_putKind (g j : Nat) (hj : j < g) (hg : g ≤ 8) (fp v : Int32) (f : Nat → Int32) : Ev MX2_putKind [.ref 0, .int (nI j), .int v] [zO 1 [.ref 1, .int (nI g), .int fp], zI 40 f] (Rw none [zO 1 [.ref 1, .int (nI g), .int fp], zI 40 (upd f (5 * j) v)]) := by
  refine ev_of bX2_putKind [some (.ref 0), some (.int (nI j)), some (.int v)] (Nat.le_of_ble_eq_true rfl) rfl ?_
  refine go_aload_n dX2_putKind_0 rfl ?_
  refine go_iload_n dX2_putKind_1 rfl ?_
  refine go_callVi (z := MX2_has) [0, 1] dX2_putKind_2 lX2_46 sX2_has (ev_X2_has _ _ _ _) rfl rfl rfl rfl rfl ⟨_, _, rfl⟩ rfl rfl ?_
  rw [has_t hj (by omega)]
  refine go_if_eq 19 dX2_putKind_5 (by decide) (fun c_5 => absurd c_5 (by decide)) (fun _ => ?_)
  refine go_aload_n dX2_putKind_8 rfl ?_
  refine go_getf fX2_9 dX2_putKind_9 rfl rfl ?_
  refine go_iload_n dX2_putKind_12 rfl ?_
  refine go_iconst (5) dX2_putKind_13 (by decide) ?_
  refine go_imul dX2_putKind_14 ?_
  refine go_iconst (0) dX2_putKind_15 (by decide) ?_
  refine go_iadd dX2_putKind_16 ?_
  rw [show nI j * 5 + 0 = nI (5 * j) by simp only [li, pk_mul, nI_add]; exact nI_e (by omega)]
  refine go_iload_n dX2_putKind_17 rfl ?_
  refine go_iast dX2_putKind_18 rfl (vp_in_nI (by omega) (by decide)) ?_
  refine go_return dX2_putKind_19 rfl (Nat.le_of_ble_eq_true rfl) (Nat.le_of_ble_eq_true rfl) ?_
  refine ⟨rfl, ?_⟩
  simp only [nI_clamp (show 5 * j < 2 ^ 31 by omega)]
  rfl
set_option maxRecDepth 100000 in
theorem ev_X2_answerOf (sz fp b : Int32) (j : Nat) (hj : j < 8) (f : Nat → Int32) : Ev MX2_answerOf [.ref 0, .int (nI j), .int b] [zO 1 [.ref 1, .int sz, .int fp], zI 40 f] (Ri [zO 1 [.ref 1, .int sz, .int fp], zI 40 f] (ansI (f (5 * j)) (f (5 * j + 3)) (f (5 * j + 2)) b)) := by
  refine ev_of bX2_answerOf [some (.ref 0), some (.int (nI j)), some (.int b), none] (Nat.le_of_ble_eq_true rfl) rfl ?_
  refine go_aload_n dX2_answerOf_0 rfl ?_
  refine go_iload_n dX2_answerOf_1 rfl ?_
  refine go_iconst (0) dX2_answerOf_2 (by decide) ?_
  refine go_callVi (z := MX2_part) [0, 1] dX2_answerOf_3 lX2_50 sX2_part (ev_partE (j := j) (k := 0) rfl rfl hj (by decide)) rfl rfl rfl rfl rfl ⟨_, _, rfl⟩ rfl rfl ?_
  refine go_istore_n dX2_answerOf_6 (by decide) ?_
  refine go_iload_n dX2_answerOf_7 rfl ?_
  refine go_iconst (3) dX2_answerOf_8 (by decide) ?_
  refine go_icmp_ne 14 dX2_answerOf_9 (by decide) (fun c_9 => ?_) (fun c_9 => ?_)
  · refine go_iload_n dX2_answerOf_14 rfl ?_
    refine go_iconst (1) dX2_answerOf_15 (by decide) ?_
    refine go_icmp_ne 31 dX2_answerOf_16 (by decide) (fun c_16 => ?_) (fun c_16 => ?_)
    · refine go_iload_n dX2_answerOf_31 rfl ?_
      refine go_iconst (2) dX2_answerOf_32 (by decide) ?_
      refine go_icmp_ne 50 dX2_answerOf_33 (by decide) (fun c_33 => ?_) (fun c_33 => ?_)
      · refine go_iconst (3) dX2_answerOf_50 (by decide) ?_
        refine go_ireturn dX2_answerOf_51 rfl rfl (Nat.le_of_ble_eq_true rfl) (Nat.le_of_ble_eq_true rfl) ?_
        exact ⟨by simp_all [ansI], rfl⟩
      · refine go_aload_n dX2_answerOf_36 rfl ?_
        refine go_iload_n dX2_answerOf_37 rfl ?_
        refine go_iconst (2) dX2_answerOf_38 (by decide) ?_
        refine go_callVi (z := MX2_part) [0, 1] dX2_answerOf_39 lX2_50 sX2_part (ev_partE (j := j) (k := 2) rfl rfl hj (by decide)) rfl rfl rfl rfl rfl ⟨_, _, rfl⟩ rfl rfl ?_
        refine go_iload_n dX2_answerOf_42 rfl ?_
        refine go_icmp_lt 50 dX2_answerOf_43 (by decide) (fun c_43 => ?_) (fun c_43 => ?_)
        · refine go_iconst (3) dX2_answerOf_50 (by decide) ?_
          refine go_ireturn dX2_answerOf_51 rfl rfl (Nat.le_of_ble_eq_true rfl) (Nat.le_of_ble_eq_true rfl) ?_
          exact ⟨by simp_all [ansI], rfl⟩
        · refine go_iconst (2) dX2_answerOf_46 (by decide) ?_
          refine go_goto 51 dX2_answerOf_47 (by decide) ?_
          refine go_ireturn dX2_answerOf_51 rfl rfl (Nat.le_of_ble_eq_true rfl) (Nat.le_of_ble_eq_true rfl) ?_
          exact ⟨by simp_all [ansI], rfl⟩
    · refine go_aload_n dX2_answerOf_19 rfl ?_
      refine go_iload_n dX2_answerOf_20 rfl ?_
      refine go_iconst (3) dX2_answerOf_21 (by decide) ?_
      refine go_callVi (z := MX2_part) [0, 1] dX2_answerOf_22 lX2_50 sX2_part (ev_partE (j := j) (k := 3) rfl rfl hj (by decide)) rfl rfl rfl rfl rfl ⟨_, _, rfl⟩ rfl rfl ?_
      refine go_iconst (1) dX2_answerOf_25 (by decide) ?_
      refine go_icmp_ne 31 dX2_answerOf_26 (by decide) (fun c_26 => ?_) (fun c_26 => ?_)
      · refine go_iload_n dX2_answerOf_31 rfl ?_
        refine go_iconst (2) dX2_answerOf_32 (by decide) ?_
        refine go_icmp_ne 50 dX2_answerOf_33 (by decide) (fun c_33 => ?_) (fun c_33 => ?_)
        · refine go_iconst (3) dX2_answerOf_50 (by decide) ?_
          refine go_ireturn dX2_answerOf_51 rfl rfl (Nat.le_of_ble_eq_true rfl) (Nat.le_of_ble_eq_true rfl) ?_
          exact ⟨by simp_all [ansI], rfl⟩
        · refine go_aload_n dX2_answerOf_36 rfl ?_
          refine go_iload_n dX2_answerOf_37 rfl ?_
          refine go_iconst (2) dX2_answerOf_38 (by decide) ?_
          refine go_callVi (z := MX2_part) [0, 1] dX2_answerOf_39 lX2_50 sX2_part (ev_partE (j := j) (k := 2) rfl rfl hj (by decide)) rfl rfl rfl rfl rfl ⟨_, _, rfl⟩ rfl rfl ?_
          refine go_iload_n dX2_answerOf_42 rfl ?_
          refine go_icmp_lt 50 dX2_answerOf_43 (by decide) (fun c_43 => ?_) (fun c_43 => ?_)
          · refine go_iconst (3) dX2_answerOf_50 (by decide) ?_
            refine go_ireturn dX2_answerOf_51 rfl rfl (Nat.le_of_ble_eq_true rfl) (Nat.le_of_ble_eq_true rfl) ?_
            exact ⟨by simp_all [ansI], rfl⟩
          · refine go_iconst (2) dX2_answerOf_46 (by decide) ?_
            refine go_goto 51 dX2_answerOf_47 (by decide) ?_
            refine go_ireturn dX2_answerOf_51 rfl rfl (Nat.le_of_ble_eq_true rfl) (Nat.le_of_ble_eq_true rfl) ?_
            exact ⟨by simp_all [ansI], rfl⟩
      · refine go_iconst (1) dX2_answerOf_29 (by decide) ?_
        refine go_ireturn dX2_answerOf_30 rfl rfl (Nat.le_of_ble_eq_true rfl) (Nat.le_of_ble_eq_true rfl) ?_
        exact ⟨by simp_all [ansI], rfl⟩
  · refine go_iconst (4) dX2_answerOf_12 (by decide) ?_
    refine go_ireturn dX2_answerOf_13 rfl rfl (Nat.le_of_ble_eq_true rfl) (Nat.le_of_ble_eq_true rfl) ?_
    exact ⟨by simp_all [ansI], rfl⟩
set_option maxRecDepth 100000 in
theorem ev_X1_told (a kk : Nat) (ha : a < 2 ^ 62) (hk : kk ≤ 62) (y : Int32) : Ev MX1_told [.long (lN a), .int (nI kk), .int y] [] (Rj [] (if y = 0 then lN (tolN a kk).1 else lN (2 ^ (tolN a kk).2))) := by
  refine ev_of bX1_told [some (.long (lN a)), none, some (.int (nI kk)), some (.int y), none, none, none] (Nat.le_of_ble_eq_true rfl) rfl ?_
  refine go_lload_n dX1_told_0 rfl ?_
  refine go_lstore dX1_told_1 (by decide) ?_
  refine go_iload_n dX1_told_3 rfl ?_
  refine go_istore dX1_told_4 (by decide) ?_
  suffices loop : ∀ (k a' : Nat), a' < 2 ^ 62 → k ≤ 62 → tolN a' k = tolN a kk → Go X0 MX1_told (Rj [] (if y = 0 then lN (tolN a kk).1 else lN (2 ^ (tolN a kk).2))) 0 0 0 6 [some (.long (lN a)), none, some (.int (nI kk)), some (.int y), some (.long (lN a')), none, some (.int (nI k))] [] [] from loop kk a ha hk rfl
  clear hk
  intro k
  induction k with
  | zero =>
    intro a' ha' _ ht
    rw [← ht]
    refine go_iload dX1_told_6 rfl ?_
    refine go_if_le 32 dX1_told_8 (by decide) (fun _ => ?_) (fun c_8 => absurd (by decide) c_8)
    refine go_iload_n dX1_told_32 rfl ?_
    refine go_if_ne 41 dX1_told_33 (by decide) (fun c_33 => ?_) (fun c_33 => ?_)
    · refine go_lconst 1 dX1_told_41 (by decide) ?_
      refine go_iload dX1_told_42 rfl ?_
      refine go_lshl dX1_told_44 ?_
      rw [show (1 : Int64) <<< ((nI 0).toInt64 &&& 63) = lN 1 by decide]
      refine go_lreturn dX1_told_45 rfl (Nat.le_of_ble_eq_true rfl) (Nat.le_of_ble_eq_true rfl) ?_
      exact ⟨by simp [tolN, *], rfl⟩
    · refine go_lload dX1_told_36 rfl ?_
      refine go_goto 45 dX1_told_38 (by decide) ?_
      refine go_lreturn dX1_told_45 rfl (Nat.le_of_ble_eq_true rfl) (Nat.le_of_ble_eq_true rfl) ?_
      exact ⟨by simp [tolN, *], rfl⟩
  | succ k ih =>
    intro a' ha' hk ht
    refine go_iload dX1_told_6 rfl ?_
    refine go_if_le 32 dX1_told_8 (by decide) (fun c_8 => absurd c_8 (nI_nle (by omega) (by omega))) (fun _ => ?_)
    refine go_lload dX1_told_11 rfl ?_
    refine go_lconst 1 dX1_told_13 (by decide) ?_
    skip
    refine go_land dX1_told_14 ?_
    rw [show lN a' &&& 1 = lN (a' % 2) from g_and1 (by omega)]
    refine go_lconst 0 dX1_told_15 (by decide) ?_
    refine go_lcmp dX1_told_16 ?_
    skip
    by_cases he : a' % 2 = 0
    · rw [he]
      refine go_if_ne 32 dX1_told_17 (by decide) (fun c_17 => absurd (by decide) c_17) (fun _ => ?_)
      refine go_lload dX1_told_20 rfl ?_
      refine go_iconst (1) dX1_told_22 (by decide) ?_
      refine go_lshr dX1_told_23 ?_
      refine go_lstore dX1_told_24 (by decide) ?_
      refine go_iincN (-1) dX1_told_26 rfl (by decide) (by decide) ?_
      refine go_goto 6 dX1_told_29 (by decide) ?_
      rw [show nI (k + 1) + -1 = nI k from pk_m1 k, show lN a' >>> ((1 : Int32).toInt64 &&& 63) = lN (a' / 2) from pf_shr (d := 1) (by decide) ha']
      exact ih (a' / 2) (by omega) (by omega) (by rw [← ht, tolN, if_pos he])
    · rw [show a' % 2 = 1 by omega]
      rw [← ht]
      refine go_if_ne 32 dX1_told_17 (by decide) (fun _ => ?_) (fun c_17 => absurd c_17 (by decide))
      refine go_iload_n dX1_told_32 rfl ?_
      refine go_if_ne 41 dX1_told_33 (by decide) (fun c_33 => ?_) (fun c_33 => ?_)
      · refine go_lconst 1 dX1_told_41 (by decide) ?_
        refine go_iload dX1_told_42 rfl ?_
        refine go_lshl dX1_told_44 ?_
        rw [show (1 : Int64) <<< ((nI (k + 1)).toInt64 &&& 63) = lN (2 ^ (k + 1)) by rw [show (1 : Int64) = lN 1 from rfl, wb_shl 1 (by omega), Nat.one_mul]]
        refine go_lreturn dX1_told_45 rfl (Nat.le_of_ble_eq_true rfl) (Nat.le_of_ble_eq_true rfl) ?_
        exact ⟨by simp [tolN, *], rfl⟩
      · refine go_lload dX1_told_36 rfl ?_
        refine go_goto 45 dX1_told_38 (by decide) ?_
        refine go_lreturn dX1_told_45 rfl (Nat.le_of_ble_eq_true rfl) (Nat.le_of_ble_eq_true rfl) ?_
        exact ⟨by simp [tolN, *], rfl⟩
set_option maxRecDepth 100000 in
theorem ev_X2_placeOfFault (n cap : Nat) (hn : n ≤ cap) (hc : cap < 2 ^ 31) (b : Nat → Int32) : Ev MX2_placeOfFault [.ref 0] [zO 8 [.ref 1, .int (nI n)], zI cap b] (Ri [zO 8 [.ref 1, .int (nI n)], zI cap b] (fltI n b)) := by
  refine ev_of bX2_placeOfFault [some (.ref 0), none] (Nat.le_of_ble_eq_true rfl) rfl ?_
  refine go_iconst (0) dX2_placeOfFault_0 (by decide) ?_
  refine go_istore_n dX2_placeOfFault_1 (by decide) ?_
  suffices loop : ∀ (d i : Nat), i + d = n → bad b n 0 = bad b d i → Go X0 MX2_placeOfFault (Ri [zO 8 [.ref 1, .int (nI n)], zI cap b] (fltI n b)) 2 0 0 2 [some (.ref 0), some (.int (nI i))] [] [zO 8 [.ref 1, .int (nI n)], zI cap b] from loop n 0 (by omega) rfl
  intro d
  induction d with
  | zero =>
    intro i hi hb
    have hb : bad b n 0 = none := hb
    refine go_iload_n dX2_placeOfFault_2 rfl ?_
    refine go_aload_n dX2_placeOfFault_3 rfl ?_
    refine go_getf fX2_23 dX2_placeOfFault_4 rfl rfl ?_
    refine go_icmp_ge 33 dX2_placeOfFault_7 (by decide) (fun _ => ?_) (fun c_7 => absurd (nI_le (by omega) (by omega)) c_7)
    refine go_aload_n dX2_placeOfFault_33 rfl ?_
    refine go_getf fX2_23 dX2_placeOfFault_34 rfl rfl ?_
    by_cases h0 : n = 0
    · have hv : fltI n b = -1 := by simp only [fltI, hb]; exact if_pos (Or.inl h0)
      refine go_if_eq 51 dX2_placeOfFault_37 (by decide) (fun _ => ?_) (fun c_37 => absurd (by rw [h0]; rfl) c_37)
      refine go_iconst (1) dX2_placeOfFault_51 (by decide) ?_
      refine go_goto 56 dX2_placeOfFault_52 (by decide) ?_
      refine go_istore_n dX2_placeOfFault_56 (by decide) ?_
      refine go_iload_n dX2_placeOfFault_57 rfl ?_
      refine go_if_eq 65 dX2_placeOfFault_58 (by decide) (fun c_58 => absurd c_58 (by decide)) (fun _ => ?_)
      refine go_iconst (-1) dX2_placeOfFault_61 (by decide) ?_
      refine go_goto 69 dX2_placeOfFault_62 (by decide) ?_
      refine go_ireturn dX2_placeOfFault_69 rfl rfl (Nat.le_of_ble_eq_true rfl) (Nat.le_of_ble_eq_true rfl) ?_
      exact ⟨by rw [hv], rfl⟩
    · by_cases h5 : n % 6 = 5
      · have hv : fltI n b = -1 := by simp [fltI, hb, h5]
        refine go_if_eq 51 dX2_placeOfFault_37 (by decide) (fun c_37 => absurd c_37 (nI_ne0 (by omega) (by omega))) (fun _ => ?_)
        refine go_aload_n dX2_placeOfFault_40 rfl ?_
        refine go_getf fX2_23 dX2_placeOfFault_41 rfl rfl ?_
        refine go_bipush (6) dX2_placeOfFault_44 (by decide) ?_
        refine go_irem dX2_placeOfFault_46 (by decide) ?_
        rw [rem6 (show n < 2 ^ 31 by omega)]
        refine go_iconst (5) dX2_placeOfFault_47 (by decide) ?_
        refine go_icmp_ne 55 dX2_placeOfFault_48 (by decide) (fun c_48 => absurd (by rw [h5]; rfl) c_48) (fun _ => ?_)
        refine go_iconst (1) dX2_placeOfFault_51 (by decide) ?_
        refine go_goto 56 dX2_placeOfFault_52 (by decide) ?_
        refine go_istore_n dX2_placeOfFault_56 (by decide) ?_
        refine go_iload_n dX2_placeOfFault_57 rfl ?_
        refine go_if_eq 65 dX2_placeOfFault_58 (by decide) (fun c_58 => absurd c_58 (by decide)) (fun _ => ?_)
        refine go_iconst (-1) dX2_placeOfFault_61 (by decide) ?_
        refine go_goto 69 dX2_placeOfFault_62 (by decide) ?_
        refine go_ireturn dX2_placeOfFault_69 rfl rfl (Nat.le_of_ble_eq_true rfl) (Nat.le_of_ble_eq_true rfl) ?_
        exact ⟨by rw [hv], rfl⟩
      · have hv : fltI n b = nI n := by simp [fltI, hb, h0, h5]
        refine go_if_eq 51 dX2_placeOfFault_37 (by decide) (fun c_37 => absurd c_37 (nI_ne0 (by omega) (by omega))) (fun _ => ?_)
        refine go_aload_n dX2_placeOfFault_40 rfl ?_
        refine go_getf fX2_23 dX2_placeOfFault_41 rfl rfl ?_
        refine go_bipush (6) dX2_placeOfFault_44 (by decide) ?_
        refine go_irem dX2_placeOfFault_46 (by decide) ?_
        rw [rem6 (show n < 2 ^ 31 by omega)]
        refine go_iconst (5) dX2_placeOfFault_47 (by decide) ?_
        refine go_icmp_ne 55 dX2_placeOfFault_48 (by decide) (fun _ => ?_) (fun c_48 => absurd c_48 (fun q => h5 ((nI_eq (by omega) (by decide)).mp q)))
        refine go_iconst (0) dX2_placeOfFault_55 (by decide) ?_
        refine go_istore_n dX2_placeOfFault_56 (by decide) ?_
        refine go_iload_n dX2_placeOfFault_57 rfl ?_
        refine go_if_eq 65 dX2_placeOfFault_58 (by decide) (fun _ => ?_) (fun c_58 => absurd (by decide) c_58)
        refine go_aload_n dX2_placeOfFault_65 rfl ?_
        refine go_getf fX2_23 dX2_placeOfFault_66 rfl rfl ?_
        refine go_ireturn dX2_placeOfFault_69 rfl rfl (Nat.le_of_ble_eq_true rfl) (Nat.le_of_ble_eq_true rfl) ?_
        exact ⟨by rw [hv], rfl⟩
  | succ d ih =>
    intro i hi hb
    refine go_iload_n dX2_placeOfFault_2 rfl ?_
    refine go_aload_n dX2_placeOfFault_3 rfl ?_
    refine go_getf fX2_23 dX2_placeOfFault_4 rfl rfl ?_
    refine go_icmp_ge 33 dX2_placeOfFault_7 (by decide) (fun c_7 => absurd c_7 (nI_ge (by omega) (by omega))) (fun _ => ?_)
    refine go_aload_n dX2_placeOfFault_10 rfl ?_
    refine go_iload_n dX2_placeOfFault_11 rfl ?_
    refine go_callVi (z := MX10_byteAt) [0, 1] dX2_placeOfFault_12 lX2_35 sX10_byteAt (ev_byteE (j := i) rfl (by omega) hn hc) rfl rfl rfl rfl rfl ⟨_, _, rfl⟩ rfl rfl ?_
    refine go_iload_n dX2_placeOfFault_15 rfl ?_
    refine go_bipush (6) dX2_placeOfFault_16 (by decide) ?_
    refine go_irem dX2_placeOfFault_18 (by decide) ?_
    rw [rem6 (show i < 2 ^ 31 by omega)]
    refine go_callSi (z := MX2_fits) [] dX2_placeOfFault_19 lX2_42 sX2_fits (ev_X2_fits (b i) (i % 6) (by omega)) rfl rfl rfl rfl rfl rfl ?_
    skip
    by_cases hf : fitN (i % 6) (b i) = true
    · rw [if_pos hf]
      refine go_if_ne 27 dX2_placeOfFault_22 (by decide) (fun _ => ?_) (fun c_22 => absurd c_22 (by decide))
      refine go_iincN (1) dX2_placeOfFault_27 rfl (by decide) (by decide) ?_
      refine go_goto 2 dX2_placeOfFault_30 (by decide) ?_
      rw [nI_1]
      exact ih (i + 1) (by omega) (by rw [hb, bad, if_pos hf])
    · rw [if_neg hf]
      refine go_if_ne 27 dX2_placeOfFault_22 (by decide) (fun c_22 => absurd (by decide) c_22) (fun _ => ?_)
      refine go_iload_n dX2_placeOfFault_25 rfl ?_
      refine go_ireturn dX2_placeOfFault_26 rfl rfl (Nat.le_of_ble_eq_true rfl) (Nat.le_of_ble_eq_true rfl) ?_
      exact ⟨by simp [fltI, hb, bad, hf], rfl⟩
set_option maxRecDepth 100000 in
theorem ev_X4_parse (n cap : Nat) (hn : n ≤ cap) (h12 : n ≤ 12) (hc : cap < 2 ^ 31) (sz fp : Int32) (r b : Nat → Int32) : Ev MX4_parse [.ref 0, .ref 2] [zO 3 [.ref 1, .int sz, .int fp], zI 12 r, zO 8 [.ref 3, .int (nI n)], zI cap b] (fun v w => v = none ∧ ∃ r2 : Nat → Int32, w = [zO 3 [.ref 1, .int (nI (nsz n b)), .int (nfl n b)], zI 12 r2, zO 8 [.ref 3, .int (nI n)], zI cap b] ∧ ∀ i, i < nsz n b → r2 i = b i - 97) := by
  refine ev_of bX4_parse [some (.ref 0), some (.ref 2), none, none] (Nat.le_of_ble_eq_true rfl) rfl ?_
  refine go_aload_n dX4_parse_0 rfl ?_
  refine go_iconst (-1) dX4_parse_1 (by decide) ?_
  refine go_putf fX4_15 dX4_parse_2 rfl (fun _ _ _ h => by cases h; rfl) (fun _ => rfl) (fun _ => rfl) (Nat.le_of_ble_eq_true rfl) ?_
  refine go_aload_n dX4_parse_5 rfl ?_
  refine go_bipush (12) dX4_parse_6 (by decide) ?_
  refine go_aload_n dX4_parse_8 rfl ?_
  refine go_getf fX4_19 dX4_parse_9 rfl rfl ?_
  refine go_min dX4_parse_12 lX4_24 (Nat.le_of_ble_eq_true rfl) (Nat.le_of_ble_eq_true rfl) (Nat.le_of_ble_eq_true rfl) (Nat.le_of_ble_eq_true rfl) ?_
  rw [show (if nI n < (12 : Int32) then nI n else 12) = nI n from min12 h12]
  refine go_putf fX4_30 dX4_parse_15 rfl (fun _ _ _ h => by cases h; rfl) (fun _ => rfl) (fun _ => rfl) (Nat.le_of_ble_eq_true rfl) ?_
  refine go_iconst (0) dX4_parse_18 (by decide) ?_
  refine go_istore_n dX4_parse_19 (by decide) ?_
  suffices loop : ∀ (d i : Nat) (r : Nat → Int32) (x3 : Option Value), i + d = n → badN b n 0 = badN b d i → (∀ j, j < i → r j = b j - 97) → Go X0 MX4_parse (fun v w => v = none ∧ ∃ r2 : Nat → Int32, w = [zO 3 [.ref 1, .int (nI (nsz n b)), .int (nfl n b)], zI 12 r2, zO 8 [.ref 3, .int (nI n)], zI cap b] ∧ ∀ i, i < nsz n b → r2 i = b i - 97) 4 0 0 20 [some (.ref 0), some (.ref 2), some (.int (nI i)), x3] [] [zO 3 [.ref 1, .int (nI n), .int (-1)], zI 12 r, zO 8 [.ref 3, .int (nI n)], zI cap b] from loop n 0 r _ (by omega) rfl (fun j h => absurd h (by omega))
  intro d
  induction d with
  | zero =>
    intro i r x3 hi hb hr
    have hb : badN b n 0 = none := hb
    refine go_iload_n dX4_parse_20 rfl ?_
    refine go_aload_n dX4_parse_21 rfl ?_
    refine go_getf fX4_30 dX4_parse_22 rfl rfl ?_
    refine go_icmp_ge 73 dX4_parse_25 (by decide) (fun _ => ?_) (fun c_25 => absurd (nI_le (by omega) (by omega)) c_25)
    refine go_return dX4_parse_73 rfl (Nat.le_of_ble_eq_true rfl) (Nat.le_of_ble_eq_true rfl) ?_
    refine ⟨rfl, r, ?_, fun j h => hr j ?_⟩
    · first | (simp only [nsz, nfl, hb]; done) | (simp only [nsz, nfl, hb]; rfl)
    · simp only [nsz, hb] at h
      omega
  | succ d ih =>
    intro i r x3 hi hb hr
    refine go_iload_n dX4_parse_20 rfl ?_
    refine go_aload_n dX4_parse_21 rfl ?_
    refine go_getf fX4_30 dX4_parse_22 rfl rfl ?_
    refine go_icmp_ge 73 dX4_parse_25 (by decide) (fun c_25 => absurd c_25 (nI_ge (by omega) (by omega))) (fun _ => ?_)
    refine go_aload_n dX4_parse_28 rfl ?_
    refine go_iload_n dX4_parse_29 rfl ?_
    refine go_callVi (z := MX10_byteAt) [2, 3] dX4_parse_30 lX4_31 sX10_byteAt (ev_byteE (j := i) rfl (by omega) hn hc) rfl rfl rfl rfl rfl ⟨_, _, rfl⟩ rfl rfl ?_
    refine go_istore_n dX4_parse_33 (by decide) ?_
    skip
    by_cases h1 : b i < 97
    · have hb : badN b n 0 = some i := by rw [hb, badN, if_pos (Or.inl h1)]
      refine go_iload_n dX4_parse_34 rfl ?_
      refine go_bipush (97) dX4_parse_35 (by decide) ?_
      refine go_icmp_lt 46 dX4_parse_37 (by decide) (fun _ => ?_) (fun c_37 => absurd  h1 c_37)
      refine go_aload_n dX4_parse_46 rfl ?_
      refine go_iload_n dX4_parse_47 rfl ?_
      refine go_putf fX4_15 dX4_parse_48 rfl (fun _ _ _ h => by cases h; rfl) (fun _ => rfl) (fun _ => rfl) (Nat.le_of_ble_eq_true rfl) ?_
      refine go_aload_n dX4_parse_51 rfl ?_
      refine go_iconst (0) dX4_parse_52 (by decide) ?_
      refine go_putf fX4_30 dX4_parse_53 rfl (fun _ _ _ h => by cases h; rfl) (fun _ => rfl) (fun _ => rfl) (Nat.le_of_ble_eq_true rfl) ?_
      refine go_return dX4_parse_56 rfl (Nat.le_of_ble_eq_true rfl) (Nat.le_of_ble_eq_true rfl) ?_
      refine ⟨rfl, r, ?_, fun j h => ?_⟩
      · first | (simp only [nsz, nfl, hb]; done) | (simp only [nsz, nfl, hb]; rfl)
      · simp only [nsz, hb] at h
        omega
    · by_cases h2 : b i ≤ 104
      · have hb : badN b n 0 = badN b d (i + 1) := by
          rw [hb, badN, if_neg]
          rintro (q | q)
          · exact h1 q
          · exact absurd h2 (by simpa using q)
        refine go_iload_n dX4_parse_34 rfl ?_
        refine go_bipush (97) dX4_parse_35 (by decide) ?_
        refine go_icmp_lt 46 dX4_parse_37 (by decide) (fun c_37 => absurd c_37  h1) (fun _ => ?_)
        refine go_iload_n dX4_parse_40 rfl ?_
        refine go_bipush (104) dX4_parse_41 (by decide) ?_
        refine go_icmp_le 57 dX4_parse_43 (by decide) (fun _ => ?_) (fun c_43 => absurd  h2 c_43)
        refine go_aload_n dX4_parse_57 rfl ?_
        refine go_getf fX4_9 dX4_parse_58 rfl rfl ?_
        refine go_iload_n dX4_parse_61 rfl ?_
        refine go_iload_n dX4_parse_62 rfl ?_
        refine go_bipush (97) dX4_parse_63 (by decide) ?_
        refine go_isub dX4_parse_65 ?_
        refine go_iast dX4_parse_66 rfl (vp_in_nI (by omega) (by decide)) ?_
        refine go_iincN (1) dX4_parse_67 rfl (by decide) (by decide) ?_
        refine go_goto 20 dX4_parse_70 (by decide) ?_
        rw [nI_1]
        simp only [nI_clamp (show i < 2 ^ 31 by omega)]
        exact ih (i + 1) (upd r i (b i - 97)) _ (by omega) hb (fun j h => by
          by_cases hj : j = i
          · subst hj; exact pk_us
          · rw [pk_un hj]; exact hr j (by omega))
      · have hb : badN b n 0 = some i := by rw [hb, badN, if_pos (Or.inr (by simpa using h2))]
        refine go_iload_n dX4_parse_34 rfl ?_
        refine go_bipush (97) dX4_parse_35 (by decide) ?_
        refine go_icmp_lt 46 dX4_parse_37 (by decide) (fun c_37 => absurd c_37  h1) (fun _ => ?_)
        refine go_iload_n dX4_parse_40 rfl ?_
        refine go_bipush (104) dX4_parse_41 (by decide) ?_
        refine go_icmp_le 57 dX4_parse_43 (by decide) (fun c_43 => absurd c_43  h2) (fun _ => ?_)
        refine go_aload_n dX4_parse_46 rfl ?_
        refine go_iload_n dX4_parse_47 rfl ?_
        refine go_putf fX4_15 dX4_parse_48 rfl (fun _ _ _ h => by cases h; rfl) (fun _ => rfl) (fun _ => rfl) (Nat.le_of_ble_eq_true rfl) ?_
        refine go_aload_n dX4_parse_51 rfl ?_
        refine go_iconst (0) dX4_parse_52 (by decide) ?_
        refine go_putf fX4_30 dX4_parse_53 rfl (fun _ _ _ h => by cases h; rfl) (fun _ => rfl) (fun _ => rfl) (Nat.le_of_ble_eq_true rfl) ?_
        refine go_return dX4_parse_56 rfl (Nat.le_of_ble_eq_true rfl) (Nat.le_of_ble_eq_true rfl) ?_
        refine ⟨rfl, r, ?_, fun j h => ?_⟩
        · first | (simp only [nsz, nfl, hb]; done) | (simp only [nsz, nfl, hb]; rfl)
        · simp only [nsz, hb] at h
          omega
end
section
theorem gsz_le {n : Nat} {b : Nat → Int32} (h : n ≤ 47) : gsz n b ≤ 8 := by
  unfold gsz
  split <;> omega
theorem gsz_in {n i : Nat} {b : Nat → Int32} (h : i < gsz n b) : 6 * i + 5 ≤ n := by
  unfold gsz at h
  split at h <;> omega
theorem min8 {n : Nat} (h : n ≤ 47) : (if (nI n + 1) / 6 < (8 : Int32) then (nI n + 1) / 6 else 8) = nI ((n + 1) / 6) := by
  have e : (nI n + 1) / 6 = nI ((n + 1) / 6) := by rw [nI_1]; exact pk_div (d := 6) (by omega) (by decide) (by decide)
  rw [e]
  by_cases h2 : (n + 1) / 6 = 8
  · rw [h2]; rfl
  · exact if_pos (nI_lt (a := (n + 1) / 6) (b := 8) (by omega) (by decide))
theorem cap60 {k : Nat} (h : k ≤ 60) : (if (0 : Int32) < (if nI k < (60 : Int32) then nI k else 60) then (if nI k < (60 : Int32) then nI k else 60) else 0) = nI k := by
  have e : (if nI k < (60 : Int32) then nI k else 60) = nI k := by
    by_cases h2 : k = 60
    · subst h2; rfl
    · exact if_pos (nI_lt (a := k) (b := 60) (by omega) (by decide))
  rw [e]
  by_cases h2 : k = 0
  · subst h2; rfl
  · exact if_pos (nI_lt (a := 0) (b := k) (by omega) (by omega))
set_option maxRecDepth 100000 in
theorem ev_X2_parse (n cap : Nat) (hn : n ≤ cap) (h47 : n ≤ 47) (hc : cap < 2 ^ 31) (sz fp : Int32) (pf b : Nat → Int32) : Ev MX2_parse [.ref 0, .ref 2] [zO 1 [.ref 1, .int sz, .int fp], zI 40 pf, zO 8 [.ref 3, .int (nI n)], zI cap b] (fun v w => v = none ∧ ∃ pf2 : Nat → Int32, w = [zO 1 [.ref 1, .int (nI (gsz n b)), .int (fltI n b)], zI 40 pf2, zO 8 [.ref 3, .int (nI n)], zI cap b] ∧ ∀ f k, f < gsz n b → k < 5 → pf2 (5 * f + k) = prt k (b (6 * f + k))) := by
  refine ev_of bX2_parse [some (.ref 0), some (.ref 2), none, none, none] (Nat.le_of_ble_eq_true rfl) rfl ?_
  refine go_aload_n dX2_parse_0 rfl ?_
  refine go_aload_n dX2_parse_1 rfl ?_
  refine go_callSi (z := MX2_placeOfFault) [2, 3] dX2_parse_2 lX2_19 sX2_placeOfFault (ev_X2_placeOfFault n cap hn hc b) rfl rfl rfl rfl rfl rfl ?_
  refine go_putf fX2_15 dX2_parse_5 rfl (fun _ _ _ h => by cases h; rfl) (fun _ => rfl) (fun _ => rfl) (Nat.le_of_ble_eq_true rfl) ?_
  refine go_aload_n dX2_parse_8 rfl ?_
  refine go_aload_n dX2_parse_9 rfl ?_
  refine go_getf fX2_15 dX2_parse_10 rfl rfl ?_
  refine go_iconst (-1) dX2_parse_13 (by decide) ?_
  refine go_cut2 (J := 35) (fun v => v = nI (gsz n b)) (fun v_35 hv_35 => ?_) (fun kk_35 => ?_)
  case refine_2 =>
    refine go_icmp_ne 34 dX2_parse_14 (by decide) (fun c_14 => ?_) (fun c_14 => ?_)
    · refine go_iconst (0) dX2_parse_34 (by decide) ?_
      exact kk_35 _ (by simp [gsz, c_14] <;> rfl)
    · refine go_bipush (8) dX2_parse_17 (by decide) ?_
      refine go_aload_n dX2_parse_19 rfl ?_
      refine go_getf fX2_23 dX2_parse_20 rfl rfl ?_
      refine go_iconst (1) dX2_parse_23 (by decide) ?_
      refine go_iadd dX2_parse_24 ?_
      refine go_bipush (6) dX2_parse_25 (by decide) ?_
      refine go_idiv dX2_parse_27 (by decide) ?_
      refine go_min dX2_parse_28 lX2_28 (Nat.le_of_ble_eq_true rfl) (Nat.le_of_ble_eq_true rfl) (Nat.le_of_ble_eq_true rfl) (Nat.le_of_ble_eq_true rfl) ?_
      rw [min8 h47]
      refine go_goto 35 dX2_parse_31 (by decide) ?_
      exact kk_35 _ (by simp [gsz, c_14] <;> rfl)
  subst hv_35
  refine go_putf fX2_34 dX2_parse_35 rfl (fun _ _ _ h => by cases h; rfl) (fun _ => rfl) (fun _ => rfl) (Nat.le_of_ble_eq_true rfl) ?_
  refine go_iconst (0) dX2_parse_38 (by decide) ?_
  refine go_istore_n dX2_parse_39 (by decide) ?_
  have hg8 := gsz_le (b := b) h47
  suffices loop : ∀ (d i : Nat) (pf : Nat → Int32) (x3 x4 : Option Value), i + d = gsz n b → (∀ f k, f < i → k < 5 → pf (5 * f + k) = prt k (b (6 * f + k))) → Go X0 MX2_parse (fun v w => v = none ∧ ∃ pf2 : Nat → Int32, w = [zO 1 [.ref 1, .int (nI (gsz n b)), .int (fltI n b)], zI 40 pf2, zO 8 [.ref 3, .int (nI n)], zI cap b] ∧ ∀ f k, f < gsz n b → k < 5 → pf2 (5 * f + k) = prt k (b (6 * f + k))) 4 0 0 40 [some (.ref 0), some (.ref 2), some (.int (nI i)), x3, x4] [] [zO 1 [.ref 1, .int (nI (gsz n b)), .int (fltI n b)], zI 40 pf, zO 8 [.ref 3, .int (nI n)], zI cap b] from loop (gsz n b) 0 pf _ _ (by omega) (fun f k h => absurd h (by omega))
  intro d
  induction d with
  | zero =>
    intro i pf x3 x4 hi hr
    refine go_iload_n dX2_parse_40 rfl ?_
    refine go_aload_n dX2_parse_41 rfl ?_
    refine go_getf fX2_34 dX2_parse_42 rfl rfl ?_
    refine go_icmp_ge 180 dX2_parse_45 (by decide) (fun _ => ?_) (fun c_45 => absurd (nI_le (by omega) (by omega)) c_45)
    refine go_return dX2_parse_180 rfl (Nat.le_of_ble_eq_true rfl) (Nat.le_of_ble_eq_true rfl) ?_
    exact ⟨rfl, pf, rfl, fun f k hf hk => hr f k (by omega) hk⟩
  | succ d ih =>
    intro i pf x3 x4 hi hr
    have hin := gsz_in (show i < gsz n b by omega)
    refine go_iload_n dX2_parse_40 rfl ?_
    refine go_aload_n dX2_parse_41 rfl ?_
    refine go_getf fX2_34 dX2_parse_42 rfl rfl ?_
    refine go_icmp_ge 180 dX2_parse_45 (by decide) (fun c_45 => absurd c_45 (nI_ge (by omega) (by omega))) (fun _ => ?_)
    refine go_iload_n dX2_parse_48 rfl ?_
    refine go_bipush (6) dX2_parse_49 (by decide) ?_
    refine go_imul dX2_parse_51 ?_
    rw [show nI i * 6 = nI (6 * i) by rw [Nat.mul_comm]; exact pk_mul i 6]
    refine go_istore_n dX2_parse_52 (by decide) ?_
    refine go_iload_n dX2_parse_53 rfl ?_
    refine go_iconst (5) dX2_parse_54 (by decide) ?_
    refine go_imul dX2_parse_55 ?_
    rw [show nI i * 5 = nI (5 * i) by rw [Nat.mul_comm]; exact pk_mul i 5]
    refine go_istore dX2_parse_56 (by decide) ?_
    refine go_aload_n dX2_parse_58 rfl ?_
    refine go_getf fX2_9 dX2_parse_59 rfl rfl ?_
    refine go_iload dX2_parse_62 rfl ?_
    refine go_iconst (0) dX2_parse_64 (by decide) ?_
    refine go_iadd dX2_parse_65 ?_
    rw [show nI (5 * i) + 0 = nI (5 * i + 0) from nI_add (5 * i) 0]
    refine go_aload_n dX2_parse_66 rfl ?_
    refine go_iload_n dX2_parse_67 rfl ?_
    refine go_callVi (z := MX10_byteAt) [2, 3] dX2_parse_68 lX2_35 sX10_byteAt (ev_byteE (j := 6 * i + 0) rfl (by omega) hn hc) rfl rfl rfl rfl rfl ⟨_, _, rfl⟩ rfl rfl ?_
    refine go_callSi (z := MX2_kindOf) [] dX2_parse_71 lX2_39 sX2_kindOf (ev_X2_kindOf _) rfl rfl rfl rfl rfl rfl ?_
    refine go_iast dX2_parse_74 rfl (vp_in_nI (by omega) (by decide)) ?_
    refine go_aload_n dX2_parse_75 rfl ?_
    refine go_getf fX2_9 dX2_parse_76 rfl rfl ?_
    refine go_iload dX2_parse_79 rfl ?_
    refine go_iconst (1) dX2_parse_81 (by decide) ?_
    refine go_iadd dX2_parse_82 ?_
    rw [show nI (5 * i) + 1 = nI (5 * i + 1) from nI_add (5 * i) 1]
    refine go_aload_n dX2_parse_83 rfl ?_
    refine go_iload_n dX2_parse_84 rfl ?_
    refine go_iconst (1) dX2_parse_85 (by decide) ?_
    refine go_iadd dX2_parse_86 ?_
    rw [show nI (6 * i) + 1 = nI (6 * i + 1) from nI_add (6 * i) 1]
    refine go_callVi (z := MX10_byteAt) [2, 3] dX2_parse_87 lX2_35 sX10_byteAt (ev_byteE (j := 6 * i + 1) rfl (by omega) hn hc) rfl rfl rfl rfl rfl ⟨_, _, rfl⟩ rfl rfl ?_
    refine go_bipush (48) dX2_parse_90 (by decide) ?_
    refine go_isub dX2_parse_92 ?_
    refine go_iast dX2_parse_93 rfl (vp_in_nI (by omega) (by decide)) ?_
    refine go_aload_n dX2_parse_94 rfl ?_
    refine go_getf fX2_9 dX2_parse_95 rfl rfl ?_
    refine go_iload dX2_parse_98 rfl ?_
    refine go_iconst (2) dX2_parse_100 (by decide) ?_
    refine go_iadd dX2_parse_101 ?_
    rw [show nI (5 * i) + 2 = nI (5 * i + 2) from nI_add (5 * i) 2]
    refine go_aload_n dX2_parse_102 rfl ?_
    refine go_iload_n dX2_parse_103 rfl ?_
    refine go_iconst (2) dX2_parse_104 (by decide) ?_
    refine go_iadd dX2_parse_105 ?_
    rw [show nI (6 * i) + 2 = nI (6 * i + 2) from nI_add (6 * i) 2]
    refine go_callVi (z := MX10_byteAt) [2, 3] dX2_parse_106 lX2_35 sX10_byteAt (ev_byteE (j := 6 * i + 2) rfl (by omega) hn hc) rfl rfl rfl rfl rfl ⟨_, _, rfl⟩ rfl rfl ?_
    refine go_bipush (48) dX2_parse_109 (by decide) ?_
    refine go_isub dX2_parse_111 ?_
    refine go_iast dX2_parse_112 rfl (vp_in_nI (by omega) (by decide)) ?_
    refine go_aload_n dX2_parse_113 rfl ?_
    refine go_getf fX2_9 dX2_parse_114 rfl rfl ?_
    refine go_iload dX2_parse_117 rfl ?_
    refine go_iconst (3) dX2_parse_119 (by decide) ?_
    refine go_iadd dX2_parse_120 ?_
    rw [show nI (5 * i) + 3 = nI (5 * i + 3) from nI_add (5 * i) 3]
    refine go_aload_n dX2_parse_121 rfl ?_
    refine go_iload_n dX2_parse_122 rfl ?_
    refine go_iconst (3) dX2_parse_123 (by decide) ?_
    refine go_iadd dX2_parse_124 ?_
    rw [show nI (6 * i) + 3 = nI (6 * i + 3) from nI_add (6 * i) 3]
    refine go_callVi (z := MX10_byteAt) [2, 3] dX2_parse_125 lX2_35 sX10_byteAt (ev_byteE (j := 6 * i + 3) rfl (by omega) hn hc) rfl rfl rfl rfl rfl ⟨_, _, rfl⟩ rfl rfl ?_
    refine go_bipush (103) dX2_parse_128 (by decide) ?_
    refine go_cut2 (J := 138) (fun v => v = prt 3 (b (6 * i + 3))) (fun v_138 hv_138 => ?_) (fun kk_138 => ?_)
    case refine_2 =>
      refine go_icmp_ne 137 dX2_parse_130 (by decide) (fun c_130 => ?_) (fun c_130 => ?_)
      · refine go_iconst (0) dX2_parse_137 (by decide) ?_
        exact kk_138 _ (by simp [prt, c_130])
      · refine go_iconst (1) dX2_parse_133 (by decide) ?_
        refine go_goto 138 dX2_parse_134 (by decide) ?_
        exact kk_138 _ (by simp [prt, c_130])
    subst hv_138
    refine go_iast dX2_parse_138 rfl (vp_in_nI (by omega) (by decide)) ?_
    refine go_aload_n dX2_parse_139 rfl ?_
    refine go_getf fX2_9 dX2_parse_140 rfl rfl ?_
    refine go_iload dX2_parse_143 rfl ?_
    refine go_iconst (4) dX2_parse_145 (by decide) ?_
    refine go_iadd dX2_parse_146 ?_
    rw [show nI (5 * i) + 4 = nI (5 * i + 4) from nI_add (5 * i) 4]
    refine go_aload_n dX2_parse_147 rfl ?_
    refine go_iload_n dX2_parse_148 rfl ?_
    refine go_iconst (4) dX2_parse_149 (by decide) ?_
    refine go_iadd dX2_parse_150 ?_
    rw [show nI (6 * i) + 4 = nI (6 * i + 4) from nI_add (6 * i) 4]
    refine go_callVi (z := MX10_byteAt) [2, 3] dX2_parse_151 lX2_35 sX10_byteAt (ev_byteE (j := 6 * i + 4) rfl (by omega) hn hc) rfl rfl rfl rfl rfl ⟨_, _, rfl⟩ rfl rfl ?_
    refine go_bipush (46) dX2_parse_154 (by decide) ?_
    refine go_cut2 (J := 173) (fun v => v = prt 4 (b (6 * i + 4))) (fun v_173 hv_173 => ?_) (fun kk_173 => ?_)
    case refine_2 =>
      refine go_icmp_ne 163 dX2_parse_156 (by decide) (fun c_156 => ?_) (fun c_156 => ?_)
      · refine go_aload_n dX2_parse_163 rfl ?_
        refine go_iload_n dX2_parse_164 rfl ?_
        refine go_iconst (4) dX2_parse_165 (by decide) ?_
        refine go_iadd dX2_parse_166 ?_
        rw [show nI (6 * i) + 4 = nI (6 * i + 4) from nI_add (6 * i) 4]
        refine go_callVi (z := MX10_byteAt) [2, 3] dX2_parse_167 lX2_35 sX10_byteAt (ev_byteE (j := 6 * i + 4) rfl (by omega) hn hc) rfl rfl rfl rfl rfl ⟨_, _, rfl⟩ rfl rfl ?_
        refine go_bipush (48) dX2_parse_170 (by decide) ?_
        refine go_isub dX2_parse_172 ?_
        exact kk_173 _ (by simp [prt, c_156])
      · refine go_iconst (-1) dX2_parse_159 (by decide) ?_
        refine go_goto 173 dX2_parse_160 (by decide) ?_
        exact kk_173 _ (by simp [prt, c_156])
    subst hv_173
    refine go_iast dX2_parse_173 rfl (vp_in_nI (by omega) (by decide)) ?_
    refine go_iincN (1) dX2_parse_174 rfl (by decide) (by decide) ?_
    refine go_goto 40 dX2_parse_177 (by decide) ?_
    rw [nI_1]
    simp only [nI_clamp (show 5 * i + 0 < 2 ^ 31 by omega), nI_clamp (show 5 * i + 1 < 2 ^ 31 by omega), nI_clamp (show 5 * i + 2 < 2 ^ 31 by omega), nI_clamp (show 5 * i + 3 < 2 ^ 31 by omega), nI_clamp (show 5 * i + 4 < 2 ^ 31 by omega)]
    refine ih (i + 1) _ _ _ (by omega) (fun f k hf hk => ?_)
    by_cases hfi : f = i
    · subst hfi
      match k, hk with
      | 0, _ => simp [upd, prt]
      | 1, _ => simp [upd, prt]
      | 2, _ => simp [upd, prt]
      | 3, _ => simp [upd, prt]
      | 4, _ => simp [upd, prt]
      | k + 5, h => exact absurd h (by omega)
    · have hne : ∀ c, c < 5 → ¬ 5 * f + k = 5 * i + c := fun c hc => by omega
      simp only [upd, if_neg (hne 0 (by decide)), if_neg (hne 1 (by decide)), if_neg (hne 2 (by decide)), if_neg (hne 3 (by decide)), if_neg (hne 4 (by decide))]
      exact hr f k (by omega) hk
set_option maxRecDepth 100000 in
theorem ev_X6_renew (lost form0 sz0 form : Int32) (k : Nat) (hk : k ≤ 60) (f : Nat → Int32) : Ev MX6_renew [.ref 0, .int form, .int (nI k)] [zO 5 [.ref 1, .int lost, .int form0, .int sz0], zI 60 f] (fun v w => v = none ∧ ∃ f2 : Nat → Int32, w = [zO 5 [.ref 1, .int 0, .int form, .int (nI k)], zI 60 f2] ∧ ∀ i, i < 60 → f2 i = 0) := by
  refine ev_of bX6_renew [some (.ref 0), some (.int form), some (.int (nI k)), none] (Nat.le_of_ble_eq_true rfl) rfl ?_
  refine go_aload_n dX6_renew_0 rfl ?_
  refine go_iconst (0) dX6_renew_1 (by decide) ?_
  refine go_putf fX6_15 dX6_renew_2 rfl (fun _ _ _ h => by cases h; rfl) (fun _ => rfl) (fun _ => rfl) (Nat.le_of_ble_eq_true rfl) ?_
  refine go_aload_n dX6_renew_5 rfl ?_
  refine go_iload_n dX6_renew_6 rfl ?_
  refine go_putf fX6_19 dX6_renew_7 rfl (fun _ _ _ h => by cases h; rfl) (fun _ => rfl) (fun _ => rfl) (Nat.le_of_ble_eq_true rfl) ?_
  refine go_aload_n dX6_renew_10 rfl ?_
  refine go_iconst (0) dX6_renew_11 (by decide) ?_
  refine go_bipush (60) dX6_renew_12 (by decide) ?_
  refine go_iload_n dX6_renew_14 rfl ?_
  refine go_min dX6_renew_15 lX6_23 (Nat.le_of_ble_eq_true rfl) (Nat.le_of_ble_eq_true rfl) (Nat.le_of_ble_eq_true rfl) (Nat.le_of_ble_eq_true rfl) ?_
  refine go_max dX6_renew_18 lX6_29 (Nat.le_of_ble_eq_true rfl) (Nat.le_of_ble_eq_true rfl) (Nat.le_of_ble_eq_true rfl) (Nat.le_of_ble_eq_true rfl) ?_
  rw [cap60 hk]
  refine go_putf fX6_32 dX6_renew_21 rfl (fun _ _ _ h => by cases h; rfl) (fun _ => rfl) (fun _ => rfl) (Nat.le_of_ble_eq_true rfl) ?_
  refine go_iconst (0) dX6_renew_24 (by decide) ?_
  refine go_istore_n dX6_renew_25 (by decide) ?_
  suffices loop : ∀ (d i : Nat) (f : Nat → Int32), i + d = 60 → (∀ j, j < i → f j = 0) → Go X0 MX6_renew (fun v w => v = none ∧ ∃ f2 : Nat → Int32, w = [zO 5 [.ref 1, .int 0, .int form, .int (nI k)], zI 60 f2] ∧ ∀ i, i < 60 → f2 i = 0) 2 0 0 26 [some (.ref 0), some (.int form), some (.int (nI k)), some (.int (nI i))] [] [zO 5 [.ref 1, .int 0, .int form, .int (nI k)], zI 60 f] from loop 60 0 f (by omega) (fun j h => absurd h (by omega))
  intro d
  induction d with
  | zero =>
    intro i f hi hr
    refine go_iload_n dX6_renew_26 rfl ?_
    refine go_bipush (60) dX6_renew_27 (by decide) ?_
    refine go_icmp_ge 45 dX6_renew_29 (by decide) (fun _ => ?_) (fun c_29 => absurd (nI_le (a := 60) (by omega) (by omega)) c_29)
    refine go_return dX6_renew_45 rfl (Nat.le_of_ble_eq_true rfl) (Nat.le_of_ble_eq_true rfl) ?_
    exact ⟨rfl, f, rfl, fun j h => hr j (by omega)⟩
  | succ d ih =>
    intro i f hi hr
    refine go_iload_n dX6_renew_26 rfl ?_
    refine go_bipush (60) dX6_renew_27 (by decide) ?_
    refine go_icmp_ge 45 dX6_renew_29 (by decide) (fun c_29 => absurd c_29 (nI_ge (b := 60) (by omega) (by omega))) (fun _ => ?_)
    refine go_aload_n dX6_renew_32 rfl ?_
    refine go_getf fX6_9 dX6_renew_33 rfl rfl ?_
    refine go_iload_n dX6_renew_36 rfl ?_
    refine go_iconst (0) dX6_renew_37 (by decide) ?_
    refine go_iast dX6_renew_38 rfl (vp_in_nI (by omega) (by decide)) ?_
    refine go_iincN (1) dX6_renew_39 rfl (by decide) (by decide) ?_
    refine go_goto 26 dX6_renew_42 (by decide) ?_
    rw [nI_1]
    simp only [nI_clamp (show i < 2 ^ 31 by omega)]
    exact ih (i + 1) (upd f i 0) (by omega) (fun j h => by
      by_cases hj : j = i
      · subst hj; exact pk_us
      · rw [pk_un hj]; exact hr j (by omega))
set_option maxRecDepth 100000 in
theorem ev_X7_comeOutBy (len goal : Int32) (harm : Int64) (cm sx sg wn inn ft : Nat → Int32) (ab : Nat → Int64) (k : Nat) (hk : k ≤ 8) (a b : Nat → Int32) : Ev MX7_comeOutBy [.ref 0, .ref 3] [zO 6 [.ref 1, .ref 2, .int (nI k)], zI 8 a, zI 8 b, zO 0 [.ref 4, .ref 5, .ref 6, .ref 7, .ref 8, .ref 9, .ref 10, .int len, .int goal, .long harm], zI 12 cm, zI 12 sx, zI 13 sg, zI 13 wn, zL 13 ab, zI 13 inn, zI 8 ft] (Ri [zO 6 [.ref 1, .ref 2, .int (nI k)], zI 8 a, zI 8 b, zO 0 [.ref 4, .ref 5, .ref 6, .ref 7, .ref 8, .ref 9, .ref 10, .int len, .int goal, .long harm], zI 12 cm, zI 12 sx, zI 13 sg, zI 13 wn, zL 13 ab, zI 13 inn, zI 8 ft] (if okD ft a b k 0 = true then 1 else 0)) := by
  refine ev_of bX7_comeOutBy [some (.ref 0), some (.ref 3), none] (Nat.le_of_ble_eq_true rfl) rfl ?_
  refine go_iconst (0) dX7_comeOutBy_0 (by decide) ?_
  refine go_istore_n dX7_comeOutBy_1 (by decide) ?_
  suffices loop : ∀ (d i : Nat), i + d = k → okD ft a b k 0 = okD ft a b d i → Go X0 MX7_comeOutBy (Ri [zO 6 [.ref 1, .ref 2, .int (nI k)], zI 8 a, zI 8 b, zO 0 [.ref 4, .ref 5, .ref 6, .ref 7, .ref 8, .ref 9, .ref 10, .int len, .int goal, .long harm], zI 12 cm, zI 12 sx, zI 13 sg, zI 13 wn, zL 13 ab, zI 13 inn, zI 8 ft] (if okD ft a b k 0 = true then 1 else 0)) 11 0 0 2 [some (.ref 0), some (.ref 3), some (.int (nI i))] [] [zO 6 [.ref 1, .ref 2, .int (nI k)], zI 8 a, zI 8 b, zO 0 [.ref 4, .ref 5, .ref 6, .ref 7, .ref 8, .ref 9, .ref 10, .int len, .int goal, .long harm], zI 12 cm, zI 12 sx, zI 13 sg, zI 13 wn, zL 13 ab, zI 13 inn, zI 8 ft] from loop k 0 (by omega) rfl
  intro d
  induction d with
  | zero =>
    intro i hi hr
    refine go_iload_n dX7_comeOutBy_2 rfl ?_
    refine go_aload_n dX7_comeOutBy_3 rfl ?_
    refine go_getf fX7_18 dX7_comeOutBy_4 rfl rfl ?_
    refine go_icmp_ge 37 dX7_comeOutBy_7 (by decide) (fun _ => ?_) (fun c_7 => absurd (nI_le (by omega) (by omega)) c_7)
    refine go_iconst (1) dX7_comeOutBy_37 (by decide) ?_
    refine go_ireturn dX7_comeOutBy_38 rfl (by decide) (Nat.le_of_ble_eq_true rfl) (Nat.le_of_ble_eq_true rfl) ?_
    exact ⟨by rw [hr]; rfl, rfl⟩
  | succ d ih =>
    intro i hi hr
    rw [okD] at hr
    refine go_iload_n dX7_comeOutBy_2 rfl ?_
    refine go_aload_n dX7_comeOutBy_3 rfl ?_
    refine go_getf fX7_18 dX7_comeOutBy_4 rfl rfl ?_
    refine go_icmp_ge 37 dX7_comeOutBy_7 (by decide) (fun c_7 => absurd c_7 (nI_ge (by omega) (by omega))) (fun _ => ?_)
    refine go_aload_n dX7_comeOutBy_10 rfl ?_
    refine go_aload_n dX7_comeOutBy_11 rfl ?_
    refine go_getf fX7_9 dX7_comeOutBy_12 rfl rfl ?_
    refine go_iload_n dX7_comeOutBy_15 rfl ?_
    refine go_iald dX7_comeOutBy_16 rfl (vp_in_nI (by omega) (by decide)) ?_
    rw [nI_clamp (show i < 2 ^ 31 by omega)]
    refine go_callVi (z := MX0_fateOf) [3, 4, 5, 6, 7, 8, 9, 10] dX7_comeOutBy_17 lX7_22 sX0_fateOf (ev_X0_fateOf _ _ _ _ _ _ _ _ _ _ _) rfl rfl rfl rfl rfl ⟨_, _, rfl⟩ rfl rfl ?_
    skip
    rw [show (if (a i) < 0 ∨ 8 ≤ (a i) then (-1 : Int32) else ft (a i).toNatClampNeg) = fateI ft (a i) from rfl]
    refine go_aload_n dX7_comeOutBy_20 rfl ?_
    refine go_getf fX7_15 dX7_comeOutBy_21 rfl rfl ?_
    refine go_iload_n dX7_comeOutBy_24 rfl ?_
    refine go_iald dX7_comeOutBy_25 rfl (vp_in_nI (by omega) (by decide)) ?_
    rw [nI_clamp (show i < 2 ^ 31 by omega)]
    refine go_icmp_eq 31 dX7_comeOutBy_26 (by decide) (fun c_26 => ?_) (fun c_26 => ?_)
    · refine go_iincN (1) dX7_comeOutBy_31 rfl (by decide) (by decide) ?_
      refine go_goto 2 dX7_comeOutBy_34 (by decide) ?_
      rw [nI_1]
      exact ih (i + 1) (by omega) (by rw [hr, if_pos c_26])
    · refine go_iconst (0) dX7_comeOutBy_29 (by decide) ?_
      refine go_ireturn dX7_comeOutBy_30 rfl (by decide) (Nat.le_of_ble_eq_true rfl) (Nat.le_of_ble_eq_true rfl) ?_
      exact ⟨by simp [hr, c_26], rfl⟩
end
section
/-! what comes of THE NAMES, as told: by a gang (g felons, their parts pf) and names nm; s0, goal, br: how strong, wins, bribe -/
def winI (c : Int32) : Int32 := if c = 1 ∨ c = 2 ∨ c = 3 then 1 else 0
def nmd (nm : Nat → Nat) : Nat → Nat → Bool
  | 0, _ => false
  | i + 1, f => nmd nm i f || nm i == f
def cmv (g : Nat) (pf : Nat → Int32) (nm : Nat → Nat) (goal br k : Int32) (i : Nat) : Int32 := if goal ≤ k ∨ g ≤ nm i ∨ nmd nm i (nm i) = true then 0 else ansI (pf (5 * nm i)) (pf (5 * nm i + 3)) (pf (5 * nm i + 2)) br
def wst (g : Nat) (pf : Nat → Int32) (nm : Nat → Nat) (s0 goal br : Int32) : Nat → Int32 × Int32
  | 0 => (s0, 0)
  | i + 1 => (strI (cmv g pf nm goal br (wst g pf nm s0 goal br i).2 i) (wst g pf nm s0 goal br i).1 s0, (wst g pf nm s0 goal br i).2 + winI (cmv g pf nm goal br (wst g pf nm s0 goal br i).2 i))
def wC (g : Nat) (pf : Nat → Int32) (nm : Nat → Nat) (s0 goal br : Int32) (i : Nat) : Int32 := cmv g pf nm goal br (wst g pf nm s0 goal br i).2 i
def wX (g : Nat) (pf : Nat → Int32) (nm : Nat → Nat) (s0 goal br : Int32) (i : Nat) : Int32 := sixI (wC g pf nm s0 goal br i) (wst g pf nm s0 goal br i).1 (pf (5 * nm i + 1))
def wA (g : Nat) (pf : Nat → Int32) (nm : Nat → Nat) (s0 goal br : Int32) : Nat → Int64
  | 0 => 1
  | i + 1 => if winI (wC g pf nm s0 goal br i) = 0 then wA g pf nm s0 goal br i else wA g pf nm s0 goal br i * (wX g pf nm s0 goal br i).toInt64
def wN (g : Nat) (pf : Nat → Int32) (nm : Nat → Nat) (s0 goal br : Int32) : Nat → Int32
  | 0 => 0
  | i + 1 => if wC g pf nm s0 goal br i = 3 ∧ pf (5 * nm i + 3) = 0 then wN g pf nm s0 goal br i + 1 else wN g pf nm s0 goal br i
def wH (g : Nat) (pf : Nat → Int32) (nm : Nat → Nat) (s0 goal br : Int32) : Nat → Int64
  | 0 => 0
  | i + 1 => if wC g pf nm s0 goal br i = 3 ∧ pf (5 * nm i + 3) = 0 then wH g pf nm s0 goal br i + wA g pf nm s0 goal br (i + 1) <<< ((4 * (8 - (wst g pf nm s0 goal br (i + 1)).2)).toInt64 &&& 63) else wH g pf nm s0 goal br i
def wF (g : Nat) (pf : Nat → Int32) (nm : Nat → Nat) (s0 goal br : Int32) : Nat → Nat → Int32
  | 0, _ => -1
  | i + 1, f => if nmd nm i f = false ∧ nm i = f then wC g pf nm s0 goal br i else wF g pf nm s0 goal br i f
theorem win1 {c : Int32} (h : ¬ winI c = 0) : winI c = 1 := by
  unfold winI at h ⊢
  split <;> simp_all
theorem ans_ne (k u g b : Int32) : ¬ ansI k u g b = -1 := by
  unfold ansI
  repeat' split
  all_goals decide
theorem wC_ne (g : Nat) (pf : Nat → Int32) (nm : Nat → Nat) (s0 goal br : Int32) (i : Nat) : ¬ wC g pf nm s0 goal br i = -1 := by
  unfold wC cmv
  split
  · decide
  · exact ans_ne _ _ _ _
theorem wF_ne (g : Nat) (pf : Nat → Int32) (nm : Nat → Nat) (s0 goal br : Int32) (i f : Nat) : wF g pf nm s0 goal br i f = -1 ↔ nmd nm i f = false := by
  induction i with
  | zero => simp [wF, nmd]
  | succ i ih =>
    rw [wF, nmd]
    by_cases h : nmd nm i f = false
    · by_cases h2 : nm i = f
      · rw [if_pos ⟨h, h2⟩]
        simp [wC_ne, h2]
      · rw [if_neg (fun q => h2 q.2), ih]
        simp [h, h2]
    · rw [if_neg (fun q => h q.1), ih]
      simp at h
      simp [h]
def fwI (sx : Nat → Int32) : Nat → Int32 × Int32
  | 0 => (-1, 17)
  | i + 1 => if (fwI sx i).2 ≤ sx i then fwI sx i else (nI i, sx i)
def fgI (cm : Nat → Int32) : Nat → Int32
  | 0 => 0
  | i + 1 => if cm i = 3 then fgI cm i + 1 else fgI cm i
def nvI (ft : Nat → Int32) : Nat → Int32
  | 0 => 0
  | i + 1 => if ft i ≤ 0 then nvI ft i else nvI ft i + 1
def plI (cm sx : Nat → Int32) : Nat → Nat → Int32 → Nat × Int32
  | 0, i, s => (i, s)
  | d + 1, i, s => if cm i = 3 then (if lotI s < sx i then plI cm sx d (i + 1) (seedI s) else (i, seedI s)) else plI cm sx d (i + 1) s
set_option maxRecDepth 100000 in
theorem ev_X0_setOut (len goal : Int32) (harm : Int64) (cm sx sg wn inn ft : Nat → Int32) (ab : Nat → Int64) (s g2 : Int32) : Ev MX0_setOut [.ref 0, .int s, .int g2] [zO 0 [.ref 1, .ref 2, .ref 3, .ref 4, .ref 5, .ref 6, .ref 7, .int len, .int goal, .long harm], zI 12 cm, zI 12 sx, zI 13 sg, zI 13 wn, zL 13 ab, zI 13 inn, zI 8 ft] (fun v w => v = none ∧ ∃ ft2 : Nat → Int32, w = [zO 0 [.ref 1, .ref 2, .ref 3, .ref 4, .ref 5, .ref 6, .ref 7, .int 0, .int g2, .long 0], zI 12 cm, zI 12 sx, zI 13 (upd sg 0 s), zI 13 (upd wn 0 0), zL 13 (vp_updL ab 0 1), zI 13 (upd inn 0 0), zI 8 ft2] ∧ ∀ i, i < 8 → ft2 i = -1) := by
  refine ev_of bX0_setOut [some (.ref 0), some (.int s), some (.int g2), none] (Nat.le_of_ble_eq_true rfl) rfl ?_
  refine go_aload_n dX0_setOut_0 rfl ?_
  refine go_iconst (0) dX0_setOut_1 (by decide) ?_
  refine go_putf fX0_34 dX0_setOut_2 rfl (fun _ _ _ h => by cases h; rfl) (fun _ => rfl) (fun _ => rfl) (Nat.le_of_ble_eq_true rfl) ?_
  refine go_aload_n dX0_setOut_5 rfl ?_
  refine go_iload_n dX0_setOut_6 rfl ?_
  refine go_putf fX0_38 dX0_setOut_7 rfl (fun _ _ _ h => by cases h; rfl) (fun _ => rfl) (fun _ => rfl) (Nat.le_of_ble_eq_true rfl) ?_
  refine go_aload_n dX0_setOut_10 rfl ?_
  refine go_lconst 0 dX0_setOut_11 (by decide) ?_
  refine go_putf fX0_41 dX0_setOut_12 rfl (fun _ _ _ h => by cases h; rfl) (fun _ => rfl) (fun _ => rfl) (Nat.le_of_ble_eq_true rfl) ?_
  refine go_aload_n dX0_setOut_15 rfl ?_
  refine go_getf fX0_18 dX0_setOut_16 rfl rfl ?_
  refine go_iconst (0) dX0_setOut_19 (by decide) ?_
  refine go_iload_n dX0_setOut_20 rfl ?_
  refine go_iast dX0_setOut_21 rfl (vp_in_nI (n := 0) (by decide) (by decide)) ?_
  refine go_aload_n dX0_setOut_22 rfl ?_
  refine go_getf fX0_21 dX0_setOut_23 rfl rfl ?_
  refine go_iconst (0) dX0_setOut_26 (by decide) ?_
  refine go_iconst (0) dX0_setOut_27 (by decide) ?_
  refine go_iast dX0_setOut_28 rfl (vp_in_nI (n := 0) (by decide) (by decide)) ?_
  refine go_aload_n dX0_setOut_29 rfl ?_
  refine go_getf fX0_24 dX0_setOut_30 rfl rfl ?_
  refine go_iconst (0) dX0_setOut_33 (by decide) ?_
  refine go_lconst 1 dX0_setOut_34 (by decide) ?_
  refine go_last dX0_setOut_35 rfl (vp_in_nI (n := 0) (by decide) (by decide)) ?_
  refine go_aload_n dX0_setOut_36 rfl ?_
  refine go_getf fX0_28 dX0_setOut_37 rfl rfl ?_
  refine go_iconst (0) dX0_setOut_40 (by decide) ?_
  refine go_iconst (0) dX0_setOut_41 (by decide) ?_
  refine go_iast dX0_setOut_42 rfl (vp_in_nI (n := 0) (by decide) (by decide)) ?_
  refine go_iconst (0) dX0_setOut_43 (by decide) ?_
  refine go_istore_n dX0_setOut_44 (by decide) ?_
  suffices loop : ∀ (d i : Nat) (ft : Nat → Int32), i + d = 8 → (∀ j, j < i → ft j = -1) → Go X0 MX0_setOut (fun v w => v = none ∧ ∃ ft2 : Nat → Int32, w = [zO 0 [.ref 1, .ref 2, .ref 3, .ref 4, .ref 5, .ref 6, .ref 7, .int 0, .int g2, .long 0], zI 12 cm, zI 12 sx, zI 13 (upd sg 0 s), zI 13 (upd wn 0 0), zL 13 (vp_updL ab 0 1), zI 13 (upd inn 0 0), zI 8 ft2] ∧ ∀ i, i < 8 → ft2 i = -1) 8 0 0 45 [some (.ref 0), some (.int s), some (.int g2), some (.int (nI i))] [] [zO 0 [.ref 1, .ref 2, .ref 3, .ref 4, .ref 5, .ref 6, .ref 7, .int 0, .int g2, .long 0], zI 12 cm, zI 12 sx, zI 13 (upd sg 0 s), zI 13 (upd wn 0 0), zL 13 (vp_updL ab 0 1), zI 13 (upd inn 0 0), zI 8 ft] from loop 8 0 ft (by omega) (fun j h => absurd h (by omega))
  intro d
  induction d with
  | zero =>
    intro i f hi hr
    refine go_iload_n dX0_setOut_45 rfl ?_
    refine go_bipush (8) dX0_setOut_46 (by decide) ?_
    refine go_icmp_ge 64 dX0_setOut_48 (by decide) (fun _ => ?_) (fun c_48 => absurd (nI_le (a := 8) (by omega) (by omega)) c_48)
    refine go_return dX0_setOut_64 rfl (Nat.le_of_ble_eq_true rfl) (Nat.le_of_ble_eq_true rfl) ?_
    exact ⟨rfl, f, rfl, fun j h => hr j (by omega)⟩
  | succ d ih =>
    intro i f hi hr
    refine go_iload_n dX0_setOut_45 rfl ?_
    refine go_bipush (8) dX0_setOut_46 (by decide) ?_
    refine go_icmp_ge 64 dX0_setOut_48 (by decide) (fun c_48 => absurd c_48 (nI_ge (b := 8) (by omega) (by omega))) (fun _ => ?_)
    refine go_aload_n dX0_setOut_51 rfl ?_
    refine go_getf fX0_31 dX0_setOut_52 rfl rfl ?_
    refine go_iload_n dX0_setOut_55 rfl ?_
    refine go_iconst (-1) dX0_setOut_56 (by decide) ?_
    refine go_iast dX0_setOut_57 rfl (vp_in_nI (by omega) (by decide)) ?_
    refine go_iincN (1) dX0_setOut_58 rfl (by decide) (by decide) ?_
    refine go_goto 45 dX0_setOut_61 (by decide) ?_
    rw [nI_1]
    simp only [nI_clamp (show i < 2 ^ 31 by omega)]
    exact ih (i + 1) (upd f i (-1)) (by omega) (fun j h => by
      by_cases hj : j = i
      · subst hj; exact pk_us
      · rw [pk_un hj]; exact hr j (by omega))
set_option maxRecDepth 100000 in
theorem ev_X0_markFate (len goal : Int32) (harm : Int64) (cm sx sg wn inn ft : Nat → Int32) (ab : Nat → Int64) (j : Nat) (hj : j < 8) (c : Int32) : Ev MX0_markFate [.ref 0, .int (nI j), .int c] [zO 0 [.ref 1, .ref 2, .ref 3, .ref 4, .ref 5, .ref 6, .ref 7, .int len, .int goal, .long harm], zI 12 cm, zI 12 sx, zI 13 sg, zI 13 wn, zL 13 ab, zI 13 inn, zI 8 ft] (Rw none [zO 0 [.ref 1, .ref 2, .ref 3, .ref 4, .ref 5, .ref 6, .ref 7, .int len, .int goal, .long harm], zI 12 cm, zI 12 sx, zI 13 sg, zI 13 wn, zL 13 ab, zI 13 inn, zI 8 (if ft j = -1 then upd ft j c else ft)]) := by
  refine ev_of bX0_markFate [some (.ref 0), some (.int (nI j)), some (.int c)] (Nat.le_of_ble_eq_true rfl) rfl ?_
  refine go_iload_n dX0_markFate_0 rfl ?_
  refine go_if_lt 27 dX0_markFate_1 (by decide) (fun c_1 => absurd c_1 (nI_pos (by omega))) (fun _ => ?_)
  refine go_iload_n dX0_markFate_4 rfl ?_
  refine go_bipush (8) dX0_markFate_5 (by decide) ?_
  refine go_icmp_ge 27 dX0_markFate_7 (by decide) (fun c_7 => absurd c_7 (nI_ge (b := 8) hj (by decide))) (fun _ => ?_)
  refine go_aload_n dX0_markFate_10 rfl ?_
  refine go_getf fX0_31 dX0_markFate_11 rfl rfl ?_
  refine go_iload_n dX0_markFate_14 rfl ?_
  refine go_iald dX0_markFate_15 rfl (vp_in_nI hj (by decide)) ?_
  rw [nI_clamp (show j < 2 ^ 31 by omega)]
  refine go_iconst (-1) dX0_markFate_16 (by decide) ?_
  refine go_icmp_ne 27 dX0_markFate_17 (by decide) (fun c_17 => ?_) (fun c_17 => ?_)
  · refine go_return dX0_markFate_27 rfl (Nat.le_of_ble_eq_true rfl) (Nat.le_of_ble_eq_true rfl) ?_
    refine ⟨rfl, ?_⟩
    try simp only [nI_clamp (show j < 2 ^ 31 by omega)]
    simp [c_17]
  · refine go_aload_n dX0_markFate_20 rfl ?_
    refine go_getf fX0_31 dX0_markFate_21 rfl rfl ?_
    refine go_iload_n dX0_markFate_24 rfl ?_
    refine go_iload_n dX0_markFate_25 rfl ?_
    refine go_iast dX0_markFate_26 rfl (vp_in_nI hj (by decide)) ?_
    refine go_return dX0_markFate_27 rfl (Nat.le_of_ble_eq_true rfl) (Nat.le_of_ble_eq_true rfl) ?_
    refine ⟨rfl, ?_⟩
    try simp only [nI_clamp (show j < 2 ^ 31 by omega)]
    simp [c_17]
theorem upd_upd (f : Nat → Int32) (k : Nat) (x y : Int32) : upd (upd f k x) k y = upd f k y := by
  funext j
  simp only [upd]
  split <;> rfl
set_option maxRecDepth 100000 in
theorem ev_X0_stepBehind (len goal : Int32) (harm : Int64) (cm sx sg wn inn ft : Nat → Int32) (ab : Nat → Int64) (j : Nat) (hj : j < 12) (foe q : Int32) : Ev MX0_stepBehind [.ref 0, .int (nI j), .int foe, .int q] [zO 0 [.ref 1, .ref 2, .ref 3, .ref 4, .ref 5, .ref 6, .ref 7, .int len, .int goal, .long harm], zI 12 cm, zI 12 sx, zI 13 sg, zI 13 wn, zL 13 ab, zI 13 inn, zI 8 ft] (Rw none [zO 0 [.ref 1, .ref 2, .ref 3, .ref 4, .ref 5, .ref 6, .ref 7, .int len, .int goal, .long (if cm j = 3 ∧ ¬ q = 0 then harm + (if winI (cm j) = 0 then ab j else ab j * (sixI (cm j) (sg j) foe).toInt64) <<< ((4 * (8 - (wn j + winI (cm j)))).toInt64 &&& 63) else harm)], zI 12 cm, zI 12 (upd sx j (sixI (cm j) (sg j) foe)), zI 13 (upd sg (j + 1) (strI (cm j) (sg j) (sg 0))), zI 13 (upd wn (j + 1) (wn j + winI (cm j))), zL 13 (vp_updL ab (j + 1) (if winI (cm j) = 0 then ab j else ab j * (sixI (cm j) (sg j) foe).toInt64)), zI 13 (upd inn (j + 1) (if cm j = 3 ∧ ¬ q = 0 then inn j + 1 else inn j)), zI 8 ft]) := by
  refine ev_of bX0_stepBehind [some (.ref 0), some (.int (nI j)), some (.int foe), some (.int q), none] (Nat.le_of_ble_eq_true rfl) rfl ?_
  refine go_aload_n dX0_stepBehind_0 rfl ?_
  refine go_getf fX0_15 dX0_stepBehind_1 rfl rfl ?_
  refine go_iload_n dX0_stepBehind_4 rfl ?_
  refine go_aload_n dX0_stepBehind_5 rfl ?_
  refine go_getf fX0_9 dX0_stepBehind_6 rfl rfl ?_
  refine go_iload_n dX0_stepBehind_9 rfl ?_
  refine go_iald dX0_stepBehind_10 rfl (vp_in_nI (n := j) (by omega) (by decide)) ?_
  rw [nI_clamp (show j < 2 ^ 31 by omega)]
  refine go_aload_n dX0_stepBehind_11 rfl ?_
  refine go_getf fX0_18 dX0_stepBehind_12 rfl rfl ?_
  refine go_iload_n dX0_stepBehind_15 rfl ?_
  refine go_iald dX0_stepBehind_16 rfl (vp_in_nI (n := j) (by omega) (by decide)) ?_
  rw [nI_clamp (show j < 2 ^ 31 by omega)]
  refine go_iload_n dX0_stepBehind_17 rfl ?_
  refine go_callSi (z := MX8_sixteenths) [] dX0_stepBehind_18 lX0_81 sX8_sixteenths (ev_X8_sixteenths (cm j) (sg j) foe) rfl rfl rfl rfl rfl rfl ?_
  refine go_iast dX0_stepBehind_21 rfl (vp_in_nI (n := j) (by omega) (by decide)) ?_
  refine go_aload_n dX0_stepBehind_22 rfl ?_
  refine go_getf fX0_18 dX0_stepBehind_23 rfl rfl ?_
  refine go_iload_n dX0_stepBehind_26 rfl ?_
  refine go_iconst (1) dX0_stepBehind_27 (by decide) ?_
  refine go_iadd dX0_stepBehind_28 ?_
  rw [show nI j + 1 = nI (j + 1) from nI_1 j]
  refine go_aload_n dX0_stepBehind_29 rfl ?_
  refine go_getf fX0_9 dX0_stepBehind_30 rfl rfl ?_
  refine go_iload_n dX0_stepBehind_33 rfl ?_
  refine go_iald dX0_stepBehind_34 rfl (vp_in_nI (n := j) (by omega) (by decide)) ?_
  rw [nI_clamp (show j < 2 ^ 31 by omega)]
  refine go_aload_n dX0_stepBehind_35 rfl ?_
  refine go_getf fX0_18 dX0_stepBehind_36 rfl rfl ?_
  refine go_iload_n dX0_stepBehind_39 rfl ?_
  refine go_iald dX0_stepBehind_40 rfl (vp_in_nI (n := j) (by omega) (by decide)) ?_
  rw [nI_clamp (show j < 2 ^ 31 by omega)]
  refine go_aload_n dX0_stepBehind_41 rfl ?_
  refine go_getf fX0_18 dX0_stepBehind_42 rfl rfl ?_
  refine go_iconst (0) dX0_stepBehind_45 (by decide) ?_
  refine go_iald dX0_stepBehind_46 rfl (vp_in_nI (n := 0) (by decide) (by decide)) ?_
  refine go_callSi (z := MX8_strongBehind) [] dX0_stepBehind_47 lX0_86 sX8_strongBehind (ev_X8_strongBehind (cm j) (sg j) (sg 0)) rfl rfl rfl rfl rfl rfl ?_
  refine go_iast dX0_stepBehind_50 rfl (vp_in_nI (n := j + 1) (by omega) (by decide)) ?_
  refine go_aload_n dX0_stepBehind_51 rfl ?_
  refine go_getf fX0_9 dX0_stepBehind_52 rfl rfl ?_
  refine go_iload_n dX0_stepBehind_55 rfl ?_
  refine go_iald dX0_stepBehind_56 rfl (vp_in_nI (n := j) (by omega) (by decide)) ?_
  rw [nI_clamp (show j < 2 ^ 31 by omega)]
  refine go_callSi (z := MX8_isWin) [] dX0_stepBehind_57 lX0_89 sX8_isWin (ev_X8_isWin (cm j)) rfl rfl rfl rfl rfl rfl ?_
  rw [show (if cm j = 1 ∨ cm j = 2 ∨ cm j = 3 then (1 : Int32) else 0) = winI (cm j) from rfl]
  refine go_istore dX0_stepBehind_60 (by decide) ?_
  refine go_aload_n dX0_stepBehind_62 rfl ?_
  refine go_getf fX0_21 dX0_stepBehind_63 rfl rfl ?_
  refine go_iload_n dX0_stepBehind_66 rfl ?_
  refine go_iconst (1) dX0_stepBehind_67 (by decide) ?_
  refine go_iadd dX0_stepBehind_68 ?_
  rw [show nI j + 1 = nI (j + 1) from nI_1 j]
  refine go_iload dX0_stepBehind_69 rfl ?_
  refine go_cut1 (J := 91) (fun v => v = wn j + winI (cm j)) (fun v_91 hv_91 => ?_) (fun kk_91 => ?_)
  case refine_2 =>
    refine go_if_eq 85 dX0_stepBehind_71 (by decide) (fun c_71 => ?_) (fun c_71 => ?_)
    · refine go_aload_n dX0_stepBehind_85 rfl ?_
      refine go_getf fX0_21 dX0_stepBehind_86 rfl rfl ?_
      refine go_iload_n dX0_stepBehind_89 rfl ?_
      refine go_iald dX0_stepBehind_90 rfl (vp_in_nI (n := j) (by omega) (by decide)) ?_
      exact kk_91 _ (by first | (rw [nI_clamp (show j < 2 ^ 31 by omega), win1 c_71]; done) | (rw [nI_clamp (show j < 2 ^ 31 by omega), c_71, Int32.add_zero]))
    · refine go_aload_n dX0_stepBehind_74 rfl ?_
      refine go_getf fX0_21 dX0_stepBehind_75 rfl rfl ?_
      refine go_iload_n dX0_stepBehind_78 rfl ?_
      refine go_iald dX0_stepBehind_79 rfl (vp_in_nI (n := j) (by omega) (by decide)) ?_
      refine go_iconst (1) dX0_stepBehind_80 (by decide) ?_
      refine go_iadd dX0_stepBehind_81 ?_
      refine go_goto 91 dX0_stepBehind_82 (by decide) ?_
      exact kk_91 _ (by first | (rw [nI_clamp (show j < 2 ^ 31 by omega), win1 c_71]; done) | (rw [nI_clamp (show j < 2 ^ 31 by omega), c_71, Int32.add_zero]))
  subst hv_91
  refine go_iast dX0_stepBehind_91 rfl (vp_in_nI (n := j + 1) (by omega) (by decide)) ?_
  refine go_aload_n dX0_stepBehind_92 rfl ?_
  refine go_getf fX0_24 dX0_stepBehind_93 rfl rfl ?_
  refine go_iload_n dX0_stepBehind_96 rfl ?_
  refine go_iconst (1) dX0_stepBehind_97 (by decide) ?_
  refine go_iadd dX0_stepBehind_98 ?_
  rw [show nI j + 1 = nI (j + 1) from nI_1 j]
  refine go_iload dX0_stepBehind_99 rfl ?_
  refine go_if_eq 121 dX0_stepBehind_101 (by decide) (fun c_101 => ?_) (fun c_101 => ?_)
  · refine go_aload_n dX0_stepBehind_121 rfl ?_
    refine go_getf fX0_24 dX0_stepBehind_122 rfl rfl ?_
    refine go_iload_n dX0_stepBehind_125 rfl ?_
    refine go_lald dX0_stepBehind_126 rfl (vp_in_nI (n := j) (by omega) (by decide)) ?_
    refine go_last dX0_stepBehind_127 rfl (vp_in_nI (n := j + 1) (by omega) (by decide)) ?_
    refine go_aload_n dX0_stepBehind_128 rfl ?_
    refine go_getf fX0_28 dX0_stepBehind_129 rfl rfl ?_
    refine go_iload_n dX0_stepBehind_132 rfl ?_
    refine go_iconst (1) dX0_stepBehind_133 (by decide) ?_
    refine go_iadd dX0_stepBehind_134 ?_
    rw [show nI j + 1 = nI (j + 1) from nI_1 j]
    refine go_aload_n dX0_stepBehind_135 rfl ?_
    refine go_getf fX0_28 dX0_stepBehind_136 rfl rfl ?_
    refine go_iload_n dX0_stepBehind_139 rfl ?_
    refine go_iald dX0_stepBehind_140 rfl (vp_in_nI (n := j) (by omega) (by decide)) ?_
    refine go_iast dX0_stepBehind_141 rfl (vp_in_nI (n := j + 1) (by omega) (by decide)) ?_
    refine go_aload_n dX0_stepBehind_142 rfl ?_
    refine go_getf fX0_9 dX0_stepBehind_143 rfl rfl ?_
    refine go_iload_n dX0_stepBehind_146 rfl ?_
    refine go_iald dX0_stepBehind_147 rfl (vp_in_nI (n := j) (by omega) (by decide)) ?_
    rw [nI_clamp (show j < 2 ^ 31 by omega)]
    refine go_iconst (3) dX0_stepBehind_148 (by decide) ?_
    refine go_icmp_ne 199 dX0_stepBehind_149 (by decide) (fun c_149 => ?_) (fun c_149 => ?_)
    · refine go_return dX0_stepBehind_199 rfl (Nat.le_of_ble_eq_true rfl) (Nat.le_of_ble_eq_true rfl) ?_
      refine ⟨rfl, ?_⟩
      simp only [nI_clamp (show j < 2 ^ 31 by omega), nI_clamp (show j + 1 < 2 ^ 31 by omega), pk_us, pk_uLs, upd_upd]
      first
        | (simp only [if_pos c_101, if_neg (show ¬ (cm j = 3 ∧ ¬ q = 0) from fun h => c_149 h.1)] <;> rfl)
        | (simp only [if_neg c_101, if_neg (show ¬ (cm j = 3 ∧ ¬ q = 0) from fun h => c_149 h.1)] <;> rfl)
        | (simp only [if_pos c_101, if_neg (show ¬ (cm j = 3 ∧ ¬ q = 0) from fun h => h.2 c_153)] <;> rfl)
        | (simp only [if_neg c_101, if_neg (show ¬ (cm j = 3 ∧ ¬ q = 0) from fun h => h.2 c_153)] <;> rfl)
        | (simp only [if_pos c_101, if_pos (show cm j = 3 ∧ ¬ q = 0 from ⟨c_149, c_153⟩)] <;> rfl)
        | (simp only [if_neg c_101, if_pos (show cm j = 3 ∧ ¬ q = 0 from ⟨c_149, c_153⟩)] <;> rfl)
    · refine go_iload_n dX0_stepBehind_152 rfl ?_
      refine go_if_eq 199 dX0_stepBehind_153 (by decide) (fun c_153 => ?_) (fun c_153 => ?_)
      · refine go_return dX0_stepBehind_199 rfl (Nat.le_of_ble_eq_true rfl) (Nat.le_of_ble_eq_true rfl) ?_
        refine ⟨rfl, ?_⟩
        simp only [nI_clamp (show j < 2 ^ 31 by omega), nI_clamp (show j + 1 < 2 ^ 31 by omega), pk_us, pk_uLs, upd_upd]
        first
          | (simp only [if_pos c_101, if_neg (show ¬ (cm j = 3 ∧ ¬ q = 0) from fun h => c_149 h.1)] <;> rfl)
          | (simp only [if_neg c_101, if_neg (show ¬ (cm j = 3 ∧ ¬ q = 0) from fun h => c_149 h.1)] <;> rfl)
          | (simp only [if_pos c_101, if_neg (show ¬ (cm j = 3 ∧ ¬ q = 0) from fun h => h.2 c_153)] <;> rfl)
          | (simp only [if_neg c_101, if_neg (show ¬ (cm j = 3 ∧ ¬ q = 0) from fun h => h.2 c_153)] <;> rfl)
          | (simp only [if_pos c_101, if_pos (show cm j = 3 ∧ ¬ q = 0 from ⟨c_149, c_153⟩)] <;> rfl)
          | (simp only [if_neg c_101, if_pos (show cm j = 3 ∧ ¬ q = 0 from ⟨c_149, c_153⟩)] <;> rfl)
      · refine go_aload_n dX0_stepBehind_156 rfl ?_
        refine go_getf fX0_28 dX0_stepBehind_157 rfl rfl ?_
        refine go_iload_n dX0_stepBehind_160 rfl ?_
        refine go_iconst (1) dX0_stepBehind_161 (by decide) ?_
        refine go_iadd dX0_stepBehind_162 ?_
        rw [show nI j + 1 = nI (j + 1) from nI_1 j]
        refine go_dup2 dX0_stepBehind_163 rfl rfl ?_
        refine go_iald dX0_stepBehind_164 rfl (vp_in_nI (n := j + 1) (by omega) (by decide)) ?_
        refine go_iconst (1) dX0_stepBehind_165 (by decide) ?_
        refine go_iadd dX0_stepBehind_166 ?_
        refine go_iast dX0_stepBehind_167 rfl (vp_in_nI (n := j + 1) (by omega) (by decide)) ?_
        refine go_aload_n dX0_stepBehind_168 rfl ?_
        refine go_dup dX0_stepBehind_169 rfl ?_
        refine go_getf fX0_41 dX0_stepBehind_170 rfl rfl ?_
        refine go_aload_n dX0_stepBehind_173 rfl ?_
        refine go_getf fX0_24 dX0_stepBehind_174 rfl rfl ?_
        refine go_iload_n dX0_stepBehind_177 rfl ?_
        refine go_iconst (1) dX0_stepBehind_178 (by decide) ?_
        refine go_iadd dX0_stepBehind_179 ?_
        rw [show nI j + 1 = nI (j + 1) from nI_1 j]
        refine go_lald dX0_stepBehind_180 rfl (vp_in_nI (n := j + 1) (by omega) (by decide)) ?_
        refine go_iconst (4) dX0_stepBehind_181 (by decide) ?_
        refine go_bipush (8) dX0_stepBehind_182 (by decide) ?_
        refine go_aload_n dX0_stepBehind_184 rfl ?_
        refine go_getf fX0_21 dX0_stepBehind_185 rfl rfl ?_
        refine go_iload_n dX0_stepBehind_188 rfl ?_
        refine go_iconst (1) dX0_stepBehind_189 (by decide) ?_
        refine go_iadd dX0_stepBehind_190 ?_
        rw [show nI j + 1 = nI (j + 1) from nI_1 j]
        refine go_iald dX0_stepBehind_191 rfl (vp_in_nI (n := j + 1) (by omega) (by decide)) ?_
        refine go_isub dX0_stepBehind_192 ?_
        refine go_imul dX0_stepBehind_193 ?_
        refine go_lshl dX0_stepBehind_194 ?_
        refine go_ladd dX0_stepBehind_195 ?_
        refine go_putf fX0_41 dX0_stepBehind_196 rfl (fun _ _ _ h => by cases h; rfl) (fun _ => rfl) (fun _ => rfl) (Nat.le_of_ble_eq_true rfl) ?_
        refine go_return dX0_stepBehind_199 rfl (Nat.le_of_ble_eq_true rfl) (Nat.le_of_ble_eq_true rfl) ?_
        refine ⟨rfl, ?_⟩
        simp only [nI_clamp (show j < 2 ^ 31 by omega), nI_clamp (show j + 1 < 2 ^ 31 by omega), pk_us, pk_uLs, upd_upd]
        first
          | (simp only [if_pos c_101, if_neg (show ¬ (cm j = 3 ∧ ¬ q = 0) from fun h => c_149 h.1)] <;> rfl)
          | (simp only [if_neg c_101, if_neg (show ¬ (cm j = 3 ∧ ¬ q = 0) from fun h => c_149 h.1)] <;> rfl)
          | (simp only [if_pos c_101, if_neg (show ¬ (cm j = 3 ∧ ¬ q = 0) from fun h => h.2 c_153)] <;> rfl)
          | (simp only [if_neg c_101, if_neg (show ¬ (cm j = 3 ∧ ¬ q = 0) from fun h => h.2 c_153)] <;> rfl)
          | (simp only [if_pos c_101, if_pos (show cm j = 3 ∧ ¬ q = 0 from ⟨c_149, c_153⟩)] <;> rfl)
          | (simp only [if_neg c_101, if_pos (show cm j = 3 ∧ ¬ q = 0 from ⟨c_149, c_153⟩)] <;> rfl)
  · refine go_aload_n dX0_stepBehind_104 rfl ?_
    refine go_getf fX0_24 dX0_stepBehind_105 rfl rfl ?_
    refine go_iload_n dX0_stepBehind_108 rfl ?_
    refine go_lald dX0_stepBehind_109 rfl (vp_in_nI (n := j) (by omega) (by decide)) ?_
    refine go_aload_n dX0_stepBehind_110 rfl ?_
    refine go_getf fX0_15 dX0_stepBehind_111 rfl rfl ?_
    refine go_iload_n dX0_stepBehind_114 rfl ?_
    refine go_iald dX0_stepBehind_115 rfl (vp_in_nI (n := j) (by omega) (by decide)) ?_
    refine go_i2l dX0_stepBehind_116 ?_
    refine go_lmul dX0_stepBehind_117 ?_
    refine go_goto 127 dX0_stepBehind_118 (by decide) ?_
    refine go_last dX0_stepBehind_127 rfl (vp_in_nI (n := j + 1) (by omega) (by decide)) ?_
    refine go_aload_n dX0_stepBehind_128 rfl ?_
    refine go_getf fX0_28 dX0_stepBehind_129 rfl rfl ?_
    refine go_iload_n dX0_stepBehind_132 rfl ?_
    refine go_iconst (1) dX0_stepBehind_133 (by decide) ?_
    refine go_iadd dX0_stepBehind_134 ?_
    rw [show nI j + 1 = nI (j + 1) from nI_1 j]
    refine go_aload_n dX0_stepBehind_135 rfl ?_
    refine go_getf fX0_28 dX0_stepBehind_136 rfl rfl ?_
    refine go_iload_n dX0_stepBehind_139 rfl ?_
    refine go_iald dX0_stepBehind_140 rfl (vp_in_nI (n := j) (by omega) (by decide)) ?_
    refine go_iast dX0_stepBehind_141 rfl (vp_in_nI (n := j + 1) (by omega) (by decide)) ?_
    refine go_aload_n dX0_stepBehind_142 rfl ?_
    refine go_getf fX0_9 dX0_stepBehind_143 rfl rfl ?_
    refine go_iload_n dX0_stepBehind_146 rfl ?_
    refine go_iald dX0_stepBehind_147 rfl (vp_in_nI (n := j) (by omega) (by decide)) ?_
    rw [nI_clamp (show j < 2 ^ 31 by omega)]
    refine go_iconst (3) dX0_stepBehind_148 (by decide) ?_
    refine go_icmp_ne 199 dX0_stepBehind_149 (by decide) (fun c_149 => ?_) (fun c_149 => ?_)
    · refine go_return dX0_stepBehind_199 rfl (Nat.le_of_ble_eq_true rfl) (Nat.le_of_ble_eq_true rfl) ?_
      refine ⟨rfl, ?_⟩
      simp only [nI_clamp (show j < 2 ^ 31 by omega), nI_clamp (show j + 1 < 2 ^ 31 by omega), pk_us, pk_uLs, upd_upd]
      first
        | (simp only [if_pos c_101, if_neg (show ¬ (cm j = 3 ∧ ¬ q = 0) from fun h => c_149 h.1)] <;> rfl)
        | (simp only [if_neg c_101, if_neg (show ¬ (cm j = 3 ∧ ¬ q = 0) from fun h => c_149 h.1)] <;> rfl)
        | (simp only [if_pos c_101, if_neg (show ¬ (cm j = 3 ∧ ¬ q = 0) from fun h => h.2 c_153)] <;> rfl)
        | (simp only [if_neg c_101, if_neg (show ¬ (cm j = 3 ∧ ¬ q = 0) from fun h => h.2 c_153)] <;> rfl)
        | (simp only [if_pos c_101, if_pos (show cm j = 3 ∧ ¬ q = 0 from ⟨c_149, c_153⟩)] <;> rfl)
        | (simp only [if_neg c_101, if_pos (show cm j = 3 ∧ ¬ q = 0 from ⟨c_149, c_153⟩)] <;> rfl)
    · refine go_iload_n dX0_stepBehind_152 rfl ?_
      refine go_if_eq 199 dX0_stepBehind_153 (by decide) (fun c_153 => ?_) (fun c_153 => ?_)
      · refine go_return dX0_stepBehind_199 rfl (Nat.le_of_ble_eq_true rfl) (Nat.le_of_ble_eq_true rfl) ?_
        refine ⟨rfl, ?_⟩
        simp only [nI_clamp (show j < 2 ^ 31 by omega), nI_clamp (show j + 1 < 2 ^ 31 by omega), pk_us, pk_uLs, upd_upd]
        first
          | (simp only [if_pos c_101, if_neg (show ¬ (cm j = 3 ∧ ¬ q = 0) from fun h => c_149 h.1)] <;> rfl)
          | (simp only [if_neg c_101, if_neg (show ¬ (cm j = 3 ∧ ¬ q = 0) from fun h => c_149 h.1)] <;> rfl)
          | (simp only [if_pos c_101, if_neg (show ¬ (cm j = 3 ∧ ¬ q = 0) from fun h => h.2 c_153)] <;> rfl)
          | (simp only [if_neg c_101, if_neg (show ¬ (cm j = 3 ∧ ¬ q = 0) from fun h => h.2 c_153)] <;> rfl)
          | (simp only [if_pos c_101, if_pos (show cm j = 3 ∧ ¬ q = 0 from ⟨c_149, c_153⟩)] <;> rfl)
          | (simp only [if_neg c_101, if_pos (show cm j = 3 ∧ ¬ q = 0 from ⟨c_149, c_153⟩)] <;> rfl)
      · refine go_aload_n dX0_stepBehind_156 rfl ?_
        refine go_getf fX0_28 dX0_stepBehind_157 rfl rfl ?_
        refine go_iload_n dX0_stepBehind_160 rfl ?_
        refine go_iconst (1) dX0_stepBehind_161 (by decide) ?_
        refine go_iadd dX0_stepBehind_162 ?_
        rw [show nI j + 1 = nI (j + 1) from nI_1 j]
        refine go_dup2 dX0_stepBehind_163 rfl rfl ?_
        refine go_iald dX0_stepBehind_164 rfl (vp_in_nI (n := j + 1) (by omega) (by decide)) ?_
        refine go_iconst (1) dX0_stepBehind_165 (by decide) ?_
        refine go_iadd dX0_stepBehind_166 ?_
        refine go_iast dX0_stepBehind_167 rfl (vp_in_nI (n := j + 1) (by omega) (by decide)) ?_
        refine go_aload_n dX0_stepBehind_168 rfl ?_
        refine go_dup dX0_stepBehind_169 rfl ?_
        refine go_getf fX0_41 dX0_stepBehind_170 rfl rfl ?_
        refine go_aload_n dX0_stepBehind_173 rfl ?_
        refine go_getf fX0_24 dX0_stepBehind_174 rfl rfl ?_
        refine go_iload_n dX0_stepBehind_177 rfl ?_
        refine go_iconst (1) dX0_stepBehind_178 (by decide) ?_
        refine go_iadd dX0_stepBehind_179 ?_
        rw [show nI j + 1 = nI (j + 1) from nI_1 j]
        refine go_lald dX0_stepBehind_180 rfl (vp_in_nI (n := j + 1) (by omega) (by decide)) ?_
        refine go_iconst (4) dX0_stepBehind_181 (by decide) ?_
        refine go_bipush (8) dX0_stepBehind_182 (by decide) ?_
        refine go_aload_n dX0_stepBehind_184 rfl ?_
        refine go_getf fX0_21 dX0_stepBehind_185 rfl rfl ?_
        refine go_iload_n dX0_stepBehind_188 rfl ?_
        refine go_iconst (1) dX0_stepBehind_189 (by decide) ?_
        refine go_iadd dX0_stepBehind_190 ?_
        rw [show nI j + 1 = nI (j + 1) from nI_1 j]
        refine go_iald dX0_stepBehind_191 rfl (vp_in_nI (n := j + 1) (by omega) (by decide)) ?_
        refine go_isub dX0_stepBehind_192 ?_
        refine go_imul dX0_stepBehind_193 ?_
        refine go_lshl dX0_stepBehind_194 ?_
        refine go_ladd dX0_stepBehind_195 ?_
        refine go_putf fX0_41 dX0_stepBehind_196 rfl (fun _ _ _ h => by cases h; rfl) (fun _ => rfl) (fun _ => rfl) (Nat.le_of_ble_eq_true rfl) ?_
        refine go_return dX0_stepBehind_199 rfl (Nat.le_of_ble_eq_true rfl) (Nat.le_of_ble_eq_true rfl) ?_
        refine ⟨rfl, ?_⟩
        simp only [nI_clamp (show j < 2 ^ 31 by omega), nI_clamp (show j + 1 < 2 ^ 31 by omega), pk_us, pk_uLs, upd_upd]
        first
          | (simp only [if_pos c_101, if_neg (show ¬ (cm j = 3 ∧ ¬ q = 0) from fun h => c_149 h.1)] <;> rfl)
          | (simp only [if_neg c_101, if_neg (show ¬ (cm j = 3 ∧ ¬ q = 0) from fun h => c_149 h.1)] <;> rfl)
          | (simp only [if_pos c_101, if_neg (show ¬ (cm j = 3 ∧ ¬ q = 0) from fun h => h.2 c_153)] <;> rfl)
          | (simp only [if_neg c_101, if_neg (show ¬ (cm j = 3 ∧ ¬ q = 0) from fun h => h.2 c_153)] <;> rfl)
          | (simp only [if_pos c_101, if_pos (show cm j = 3 ∧ ¬ q = 0 from ⟨c_149, c_153⟩)] <;> rfl)
          | (simp only [if_neg c_101, if_pos (show cm j = 3 ∧ ¬ q = 0 from ⟨c_149, c_153⟩)] <;> rfl)
end
