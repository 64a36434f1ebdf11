section
-- ===== PART A: goes FIRST, ahead of the names: the tables' words, and 'selects' of the private methods out of them =====
/-- a private method of a class that the tables say can be made, by its rows of tables_1 -/
def lw_okq (q : MethodName × Nat) : Prop := (q.1.cls ≠ "java/lang/invoke/MethodHandle" ∧ q.1.cls ≠ "java/lang/invoke/VarHandle") ∧ Cond.instantiable q.1.cls q.2 ∈ tables_1 ∧ Cond.privateMethod q.1 ∈ tables_1 ∧ Cond.instanceMethod q.1 ∈ tables_1
theorem lw_p0 : lw_okq (⟨"ApproverWins", "textOf", "(I)LApproverWins$Text;"⟩, 12) := ⟨⟨by decide +kernel, by decide +kernel⟩, List.mem_of_getElem? (i := 18) (by decide +kernel), List.mem_of_getElem? (i := 286) (by decide +kernel), List.mem_of_getElem? (i := 287) (by decide +kernel)⟩
theorem lw_p1 : lw_okq (⟨"ApproverWins", "readAnew", "(I)V"⟩, 12) := ⟨⟨by decide +kernel, by decide +kernel⟩, List.mem_of_getElem? (i := 18) (by decide +kernel), List.mem_of_getElem? (i := 298) (by decide +kernel), List.mem_of_getElem? (i := 299) (by decide +kernel)⟩
theorem lw_p2 : lw_okq (⟨"ApproverWins", "reckonAnew", "()V"⟩, 12) := ⟨⟨by decide +kernel, by decide +kernel⟩, List.mem_of_getElem? (i := 18) (by decide +kernel), List.mem_of_getElem? (i := 328) (by decide +kernel), List.mem_of_getElem? (i := 329) (by decide +kernel)⟩
theorem lw_p3 : lw_okq (⟨"ApproverWins$Course", "markFate", "(II)V"⟩, 10) := ⟨⟨by decide +kernel, by decide +kernel⟩, List.mem_of_getElem? (i := 106) (by decide +kernel), List.mem_of_getElem? (i := 357) (by decide +kernel), List.mem_of_getElem? (i := 358) (by decide +kernel)⟩
theorem lw_p4 : lw_okq (⟨"ApproverWins$Course", "stepBehind", "(IIZ)V"⟩, 10) := ⟨⟨by decide +kernel, by decide +kernel⟩, List.mem_of_getElem? (i := 106) (by decide +kernel), List.mem_of_getElem? (i := 362) (by decide +kernel), List.mem_of_getElem? (i := 363) (by decide +kernel)⟩
theorem lw_p5 : lw_okq (⟨"ApproverWins", "isNumberOfNames", "(I)Z"⟩, 12) := ⟨⟨by decide +kernel, by decide +kernel⟩, List.mem_of_getElem? (i := 18) (by decide +kernel), List.mem_of_getElem? (i := 422) (by decide +kernel), List.mem_of_getElem? (i := 423) (by decide +kernel)⟩
theorem lw_p6 : lw_okq (⟨"ApproverWins$Plan", "prepare", "(III)V"⟩, 11) := ⟨⟨by decide +kernel, by decide +kernel⟩, List.mem_of_getElem? (i := 153) (by decide +kernel), List.mem_of_getElem? (i := 478) (by decide +kernel), List.mem_of_getElem? (i := 479) (by decide +kernel)⟩
theorem lw_p7 : lw_okq (⟨"ApproverWins$Plan", "fillValues", "()V"⟩, 11) := ⟨⟨by decide +kernel, by decide +kernel⟩, List.mem_of_getElem? (i := 153) (by decide +kernel), List.mem_of_getElem? (i := 485) (by decide +kernel), List.mem_of_getElem? (i := 486) (by decide +kernel)⟩
theorem lw_p8 : lw_okq (⟨"ApproverWins$Plan", "winsOf", "(I)I"⟩, 11) := ⟨⟨by decide +kernel, by decide +kernel⟩, List.mem_of_getElem? (i := 153) (by decide +kernel), List.mem_of_getElem? (i := 489) (by decide +kernel), List.mem_of_getElem? (i := 490) (by decide +kernel)⟩
theorem lw_p9 : lw_okq (⟨"ApproverWins$Plan", "mostBehind", "(II)J"⟩, 11) := ⟨⟨by decide +kernel, by decide +kernel⟩, List.mem_of_getElem? (i := 153) (by decide +kernel), List.mem_of_getElem? (i := 499) (by decide +kernel), List.mem_of_getElem? (i := 500) (by decide +kernel)⟩
theorem lw_p10 : lw_okq (⟨"ApproverWins$Plan", "valueIfNext", "(III)J"⟩, 11) := ⟨⟨by decide +kernel, by decide +kernel⟩, List.mem_of_getElem? (i := 153) (by decide +kernel), List.mem_of_getElem? (i := 503) (by decide +kernel), List.mem_of_getElem? (i := 504) (by decide +kernel)⟩
theorem lw_p11 : lw_okq (⟨"ApproverWins$Plan", "layRow", "()V"⟩, 11) := ⟨⟨by decide +kernel, by decide +kernel⟩, List.mem_of_getElem? (i := 153) (by decide +kernel), List.mem_of_getElem? (i := 510) (by decide +kernel), List.mem_of_getElem? (i := 511) (by decide +kernel)⟩
theorem lw_p12 : lw_okq (⟨"ApproverWins$Plan", "leastNext", "(II)I"⟩, 11) := ⟨⟨by decide +kernel, by decide +kernel⟩, List.mem_of_getElem? (i := 153) (by decide +kernel), List.mem_of_getElem? (i := 514) (by decide +kernel), List.mem_of_getElem? (i := 515) (by decide +kernel)⟩
theorem lw_p13 : lw_okq (⟨"ApproverWins", "tryBribe", "(I)V"⟩, 12) := ⟨⟨by decide +kernel, by decide +kernel⟩, List.mem_of_getElem? (i := 18) (by decide +kernel), List.mem_of_getElem? (i := 527) (by decide +kernel), List.mem_of_getElem? (i := 528) (by decide +kernel)⟩
theorem lw_p14 : lw_okq (⟨"ApproverWins", "finding", "(I)I"⟩, 12) := ⟨⟨by decide +kernel, by decide +kernel⟩, List.mem_of_getElem? (i := 18) (by decide +kernel), List.mem_of_getElem? (i := 566) (by decide +kernel), List.mem_of_getElem? (i := 567) (by decide +kernel)⟩
theorem lw_p15 : lw_okq (⟨"ApproverWins", "tallyFates", "()V"⟩, 12) := ⟨⟨by decide +kernel, by decide +kernel⟩, List.mem_of_getElem? (i := 18) (by decide +kernel), List.mem_of_getElem? (i := 592) (by decide +kernel), List.mem_of_getElem? (i := 593) (by decide +kernel)⟩
def lw_privs_1 : List (MethodName × Nat) := [(⟨"ApproverWins", "textOf", "(I)LApproverWins$Text;"⟩, 12), (⟨"ApproverWins", "readAnew", "(I)V"⟩, 12), (⟨"ApproverWins", "reckonAnew", "()V"⟩, 12), (⟨"ApproverWins$Course", "markFate", "(II)V"⟩, 10), (⟨"ApproverWins$Course", "stepBehind", "(IIZ)V"⟩, 10), (⟨"ApproverWins", "isNumberOfNames", "(I)Z"⟩, 12), (⟨"ApproverWins$Plan", "prepare", "(III)V"⟩, 11), (⟨"ApproverWins$Plan", "fillValues", "()V"⟩, 11), (⟨"ApproverWins$Plan", "winsOf", "(I)I"⟩, 11), (⟨"ApproverWins$Plan", "mostBehind", "(II)J"⟩, 11), (⟨"ApproverWins$Plan", "valueIfNext", "(III)J"⟩, 11), (⟨"ApproverWins$Plan", "layRow", "()V"⟩, 11), (⟨"ApproverWins$Plan", "leastNext", "(II)I"⟩, 11), (⟨"ApproverWins", "tryBribe", "(I)V"⟩, 12), (⟨"ApproverWins", "finding", "(I)I"⟩, 12), (⟨"ApproverWins", "tallyFates", "()V"⟩, 12)]
theorem lw_r1 : ∀ q ∈ lw_privs_1, lw_okq q := List.forall_mem_cons.mpr ⟨lw_p0, List.forall_mem_cons.mpr ⟨lw_p1, List.forall_mem_cons.mpr ⟨lw_p2, List.forall_mem_cons.mpr ⟨lw_p3, List.forall_mem_cons.mpr ⟨lw_p4, List.forall_mem_cons.mpr ⟨lw_p5, List.forall_mem_cons.mpr ⟨lw_p6, List.forall_mem_cons.mpr ⟨lw_p7, List.forall_mem_cons.mpr ⟨lw_p8, List.forall_mem_cons.mpr ⟨lw_p9, List.forall_mem_cons.mpr ⟨lw_p10, List.forall_mem_cons.mpr ⟨lw_p11, List.forall_mem_cons.mpr ⟨lw_p12, List.forall_mem_cons.mpr ⟨lw_p13, List.forall_mem_cons.mpr ⟨lw_p14, List.forall_mem_cons.mpr ⟨lw_p15, fun _ h => absurd h List.not_mem_nil⟩⟩⟩⟩⟩⟩⟩⟩⟩⟩⟩⟩⟩⟩⟩⟩
theorem lw_p16 : lw_okq (⟨"ApproverWins", "mostAlike", "(I)I"⟩, 12) := ⟨⟨by decide +kernel, by decide +kernel⟩, List.mem_of_getElem? (i := 18) (by decide +kernel), List.mem_of_getElem? (i := 596) (by decide +kernel), List.mem_of_getElem? (i := 597) (by decide +kernel)⟩
theorem lw_p17 : lw_okq (⟨"ApproverWins", "digestOfFelons", "(J)J"⟩, 12) := ⟨⟨by decide +kernel, by decide +kernel⟩, List.mem_of_getElem? (i := 18) (by decide +kernel), List.mem_of_getElem? (i := 695) (by decide +kernel), List.mem_of_getElem? (i := 696) (by decide +kernel)⟩
theorem lw_p18 : lw_okq (⟨"ApproverWins", "digestOfNames", "(J)J"⟩, 12) := ⟨⟨by decide +kernel, by decide +kernel⟩, List.mem_of_getElem? (i := 18) (by decide +kernel), List.mem_of_getElem? (i := 703) (by decide +kernel), List.mem_of_getElem? (i := 704) (by decide +kernel)⟩
theorem lw_p19 : lw_okq (⟨"ApproverWins", "digestOfPlans", "(J)J"⟩, 12) := ⟨⟨by decide +kernel, by decide +kernel⟩, List.mem_of_getElem? (i := 18) (by decide +kernel), List.mem_of_getElem? (i := 711) (by decide +kernel), List.mem_of_getElem? (i := 712) (by decide +kernel)⟩
theorem lw_p20 : lw_okq (⟨"ApproverWinsModel", "finds", "(I)I"⟩, 27) := ⟨⟨by decide +kernel, by decide +kernel⟩, List.mem_of_getElem? (i := 725) (by decide +kernel), List.mem_of_getElem? (i := 825) (by decide +kernel), List.mem_of_getElem? (i := 826) (by decide +kernel)⟩
theorem lw_p21 : lw_okq (⟨"ApproverWinsModel", "lacks", "(III)I"⟩, 27) := ⟨⟨by decide +kernel, by decide +kernel⟩, List.mem_of_getElem? (i := 725) (by decide +kernel), List.mem_of_getElem? (i := 837) (by decide +kernel), List.mem_of_getElem? (i := 838) (by decide +kernel)⟩
theorem lw_p22 : lw_okq (⟨"ApproverWinsModel", "readsFelons", "()I"⟩, 27) := ⟨⟨by decide +kernel, by decide +kernel⟩, List.mem_of_getElem? (i := 725) (by decide +kernel), List.mem_of_getElem? (i := 873) (by decide +kernel), List.mem_of_getElem? (i := 874) (by decide +kernel)⟩
theorem lw_p23 : lw_okq (⟨"ApproverWinsModel", "readsNames", "()I"⟩, 27) := ⟨⟨by decide +kernel, by decide +kernel⟩, List.mem_of_getElem? (i := 725) (by decide +kernel), List.mem_of_getElem? (i := 884) (by decide +kernel), List.mem_of_getElem? (i := 885) (by decide +kernel)⟩
theorem lw_p24 : lw_okq (⟨"ApproverWinsModel", "isFelon", "(I)Z"⟩, 27) := ⟨⟨by decide +kernel, by decide +kernel⟩, List.mem_of_getElem? (i := 725) (by decide +kernel), List.mem_of_getElem? (i := 894) (by decide +kernel), List.mem_of_getElem? (i := 895) (by decide +kernel)⟩
theorem lw_p25 : lw_okq (⟨"ApproverWinsModel", "find", "()V"⟩, 27) := ⟨⟨by decide +kernel, by decide +kernel⟩, List.mem_of_getElem? (i := 725) (by decide +kernel), List.mem_of_getElem? (i := 914) (by decide +kernel), List.mem_of_getElem? (i := 915) (by decide +kernel)⟩
theorem lw_p26 : lw_okq (⟨"ApproverWinsModel", "goes", "()V"⟩, 27) := ⟨⟨by decide +kernel, by decide +kernel⟩, List.mem_of_getElem? (i := 725) (by decide +kernel), List.mem_of_getElem? (i := 918) (by decide +kernel), List.mem_of_getElem? (i := 919) (by decide +kernel)⟩
theorem lw_p27 : lw_okq (⟨"ApproverWinsModel", "endOf", "(I)I"⟩, 27) := ⟨⟨by decide +kernel, by decide +kernel⟩, List.mem_of_getElem? (i := 725) (by decide +kernel), List.mem_of_getElem? (i := 925) (by decide +kernel), List.mem_of_getElem? (i := 926) (by decide +kernel)⟩
theorem lw_p28 : lw_okq (⟨"ApproverWinsModel", "winsBy", "(II)I"⟩, 27) := ⟨⟨by decide +kernel, by decide +kernel⟩, List.mem_of_getElem? (i := 725) (by decide +kernel), List.mem_of_getElem? (i := 929) (by decide +kernel), List.mem_of_getElem? (i := 930) (by decide +kernel)⟩
theorem lw_p29 : lw_okq (⟨"ApproverWinsModel", "strongBehind", "(II)I"⟩, 27) := ⟨⟨by decide +kernel, by decide +kernel⟩, List.mem_of_getElem? (i := 725) (by decide +kernel), List.mem_of_getElem? (i := 939) (by decide +kernel), List.mem_of_getElem? (i := 940) (by decide +kernel)⟩
theorem lw_p30 : lw_okq (⟨"ApproverWinsModel", "behindOf", "(II)I"⟩, 27) := ⟨⟨by decide +kernel, by decide +kernel⟩, List.mem_of_getElem? (i := 725) (by decide +kernel), List.mem_of_getElem? (i := 947) (by decide +kernel), List.mem_of_getElem? (i := 948) (by decide +kernel)⟩
theorem lw_p31 : lw_okq (⟨"ApproverWinsModel", "aliveOf", "(I)J"⟩, 27) := ⟨⟨by decide +kernel, by decide +kernel⟩, List.mem_of_getElem? (i := 725) (by decide +kernel), List.mem_of_getElem? (i := 955) (by decide +kernel), List.mem_of_getElem? (i := 956) (by decide +kernel)⟩
def lw_privs_2 : List (MethodName × Nat) := [(⟨"ApproverWins", "mostAlike", "(I)I"⟩, 12), (⟨"ApproverWins", "digestOfFelons", "(J)J"⟩, 12), (⟨"ApproverWins", "digestOfNames", "(J)J"⟩, 12), (⟨"ApproverWins", "digestOfPlans", "(J)J"⟩, 12), (⟨"ApproverWinsModel", "finds", "(I)I"⟩, 27), (⟨"ApproverWinsModel", "lacks", "(III)I"⟩, 27), (⟨"ApproverWinsModel", "readsFelons", "()I"⟩, 27), (⟨"ApproverWinsModel", "readsNames", "()I"⟩, 27), (⟨"ApproverWinsModel", "isFelon", "(I)Z"⟩, 27), (⟨"ApproverWinsModel", "find", "()V"⟩, 27), (⟨"ApproverWinsModel", "goes", "()V"⟩, 27), (⟨"ApproverWinsModel", "endOf", "(I)I"⟩, 27), (⟨"ApproverWinsModel", "winsBy", "(II)I"⟩, 27), (⟨"ApproverWinsModel", "strongBehind", "(II)I"⟩, 27), (⟨"ApproverWinsModel", "behindOf", "(II)I"⟩, 27), (⟨"ApproverWinsModel", "aliveOf", "(I)J"⟩, 27)]
theorem lw_r2 : ∀ q ∈ lw_privs_2, lw_okq q := List.forall_mem_cons.mpr ⟨lw_p16, List.forall_mem_cons.mpr ⟨lw_p17, List.forall_mem_cons.mpr ⟨lw_p18, List.forall_mem_cons.mpr ⟨lw_p19, List.forall_mem_cons.mpr ⟨lw_p20, List.forall_mem_cons.mpr ⟨lw_p21, List.forall_mem_cons.mpr ⟨lw_p22, List.forall_mem_cons.mpr ⟨lw_p23, List.forall_mem_cons.mpr ⟨lw_p24, List.forall_mem_cons.mpr ⟨lw_p25, List.forall_mem_cons.mpr ⟨lw_p26, List.forall_mem_cons.mpr ⟨lw_p27, List.forall_mem_cons.mpr ⟨lw_p28, List.forall_mem_cons.mpr ⟨lw_p29, List.forall_mem_cons.mpr ⟨lw_p30, List.forall_mem_cons.mpr ⟨lw_p31, fun _ h => absurd h List.not_mem_nil⟩⟩⟩⟩⟩⟩⟩⟩⟩⟩⟩⟩⟩⟩⟩⟩
theorem lw_p32 : lw_okq (⟨"ApproverWinsModel", "livesNow", "()J"⟩, 27) := ⟨⟨by decide +kernel, by decide +kernel⟩, List.mem_of_getElem? (i := 725) (by decide +kernel), List.mem_of_getElem? (i := 974) (by decide +kernel), List.mem_of_getElem? (i := 975) (by decide +kernel)⟩
theorem lw_p33 : lw_okq (⟨"ApproverWinsModel", "harmNow", "()J"⟩, 27) := ⟨⟨by decide +kernel, by decide +kernel⟩, List.mem_of_getElem? (i := 725) (by decide +kernel), List.mem_of_getElem? (i := 982) (by decide +kernel), List.mem_of_getElem? (i := 983) (by decide +kernel)⟩
theorem lw_p34 : lw_okq (⟨"ApproverWinsModel", "isHarmed", "(I)Z"⟩, 27) := ⟨⟨by decide +kernel, by decide +kernel⟩, List.mem_of_getElem? (i := 725) (by decide +kernel), List.mem_of_getElem? (i := 986) (by decide +kernel), List.mem_of_getElem? (i := 987) (by decide +kernel)⟩
theorem lw_p35 : lw_okq (⟨"ApproverWinsModel", "worstNow", "()I"⟩, 27) := ⟨⟨by decide +kernel, by decide +kernel⟩, List.mem_of_getElem? (i := 725) (by decide +kernel), List.mem_of_getElem? (i := 994) (by decide +kernel), List.mem_of_getElem? (i := 995) (by decide +kernel)⟩
theorem lw_p36 : lw_okq (⟨"ApproverWinsModel", "fateOf", "(I)I"⟩, 27) := ⟨⟨by decide +kernel, by decide +kernel⟩, List.mem_of_getElem? (i := 725) (by decide +kernel), List.mem_of_getElem? (i := 1002) (by decide +kernel), List.mem_of_getElem? (i := 1003) (by decide +kernel)⟩
theorem lw_p37 : lw_okq (⟨"ApproverWinsModel", "findOrder", "()V"⟩, 27) := ⟨⟨by decide +kernel, by decide +kernel⟩, List.mem_of_getElem? (i := 725) (by decide +kernel), List.mem_of_getElem? (i := 1012) (by decide +kernel), List.mem_of_getElem? (i := 1013) (by decide +kernel)⟩
theorem lw_p38 : lw_okq (⟨"ApproverWinsModel", "adds", "(II)V"⟩, 27) := ⟨⟨by decide +kernel, by decide +kernel⟩, List.mem_of_getElem? (i := 725) (by decide +kernel), List.mem_of_getElem? (i := 1016) (by decide +kernel), List.mem_of_getElem? (i := 1017) (by decide +kernel)⟩
theorem lw_p39 : lw_okq (⟨"ApproverWinsModel", "keeps", "(I)V"⟩, 27) := ⟨⟨by decide +kernel, by decide +kernel⟩, List.mem_of_getElem? (i := 725) (by decide +kernel), List.mem_of_getElem? (i := 1021) (by decide +kernel), List.mem_of_getElem? (i := 1022) (by decide +kernel)⟩
theorem lw_p40 : lw_okq (⟨"ApproverWinsModel", "orderBy", "(I)I"⟩, 27) := ⟨⟨by decide +kernel, by decide +kernel⟩, List.mem_of_getElem? (i := 725) (by decide +kernel), List.mem_of_getElem? (i := 1025) (by decide +kernel), List.mem_of_getElem? (i := 1026) (by decide +kernel)⟩
theorem lw_p41 : lw_okq (⟨"ApproverWinsModel", "priceNow", "()I"⟩, 27) := ⟨⟨by decide +kernel, by decide +kernel⟩, List.mem_of_getElem? (i := 725) (by decide +kernel), List.mem_of_getElem? (i := 1037) (by decide +kernel), List.mem_of_getElem? (i := 1038) (by decide +kernel)⟩
theorem lw_p42 : lw_okq (⟨"ApproverWinsModel", "ruleOf", "(I)I"⟩, 27) := ⟨⟨by decide +kernel, by decide +kernel⟩, List.mem_of_getElem? (i := 725) (by decide +kernel), List.mem_of_getElem? (i := 1045) (by decide +kernel), List.mem_of_getElem? (i := 1046) (by decide +kernel)⟩
theorem lw_p43 : lw_okq (⟨"ApproverWinsModel", "chainOf", "(I)I"⟩, 27) := ⟨⟨by decide +kernel, by decide +kernel⟩, List.mem_of_getElem? (i := 725) (by decide +kernel), List.mem_of_getElem? (i := 1053) (by decide +kernel), List.mem_of_getElem? (i := 1054) (by decide +kernel)⟩
theorem lw_p44 : lw_okq (⟨"ApproverWinsModel", "bribesNow", "()I"⟩, 27) := ⟨⟨by decide +kernel, by decide +kernel⟩, List.mem_of_getElem? (i := 725) (by decide +kernel), List.mem_of_getElem? (i := 1074) (by decide +kernel), List.mem_of_getElem? (i := 1075) (by decide +kernel)⟩
theorem lw_p45 : lw_okq (⟨"ApproverWinsModel", "isSeen", "()Z"⟩, 27) := ⟨⟨by decide +kernel, by decide +kernel⟩, List.mem_of_getElem? (i := 725) (by decide +kernel), List.mem_of_getElem? (i := 1078) (by decide +kernel), List.mem_of_getElem? (i := 1079) (by decide +kernel)⟩
theorem lw_p46 : lw_okq (⟨"ApproverWinsModel", "kindsOf", "(I)I"⟩, 27) := ⟨⟨by decide +kernel, by decide +kernel⟩, List.mem_of_getElem? (i := 725) (by decide +kernel), List.mem_of_getElem? (i := 1086) (by decide +kernel), List.mem_of_getElem? (i := 1087) (by decide +kernel)⟩
theorem lw_p47 : lw_okq (⟨"ApproverWinsModel", "askNow", "()I"⟩, 27) := ⟨⟨by decide +kernel, by decide +kernel⟩, List.mem_of_getElem? (i := 725) (by decide +kernel), List.mem_of_getElem? (i := 1094) (by decide +kernel), List.mem_of_getElem? (i := 1095) (by decide +kernel)⟩
def lw_privs_3 : List (MethodName × Nat) := [(⟨"ApproverWinsModel", "livesNow", "()J"⟩, 27), (⟨"ApproverWinsModel", "harmNow", "()J"⟩, 27), (⟨"ApproverWinsModel", "isHarmed", "(I)Z"⟩, 27), (⟨"ApproverWinsModel", "worstNow", "()I"⟩, 27), (⟨"ApproverWinsModel", "fateOf", "(I)I"⟩, 27), (⟨"ApproverWinsModel", "findOrder", "()V"⟩, 27), (⟨"ApproverWinsModel", "adds", "(II)V"⟩, 27), (⟨"ApproverWinsModel", "keeps", "(I)V"⟩, 27), (⟨"ApproverWinsModel", "orderBy", "(I)I"⟩, 27), (⟨"ApproverWinsModel", "priceNow", "()I"⟩, 27), (⟨"ApproverWinsModel", "ruleOf", "(I)I"⟩, 27), (⟨"ApproverWinsModel", "chainOf", "(I)I"⟩, 27), (⟨"ApproverWinsModel", "bribesNow", "()I"⟩, 27), (⟨"ApproverWinsModel", "isSeen", "()Z"⟩, 27), (⟨"ApproverWinsModel", "kindsOf", "(I)I"⟩, 27), (⟨"ApproverWinsModel", "askNow", "()I"⟩, 27)]
theorem lw_r3 : ∀ q ∈ lw_privs_3, lw_okq q := List.forall_mem_cons.mpr ⟨lw_p32, List.forall_mem_cons.mpr ⟨lw_p33, List.forall_mem_cons.mpr ⟨lw_p34, List.forall_mem_cons.mpr ⟨lw_p35, List.forall_mem_cons.mpr ⟨lw_p36, List.forall_mem_cons.mpr ⟨lw_p37, List.forall_mem_cons.mpr ⟨lw_p38, List.forall_mem_cons.mpr ⟨lw_p39, List.forall_mem_cons.mpr ⟨lw_p40, List.forall_mem_cons.mpr ⟨lw_p41, List.forall_mem_cons.mpr ⟨lw_p42, List.forall_mem_cons.mpr ⟨lw_p43, List.forall_mem_cons.mpr ⟨lw_p44, List.forall_mem_cons.mpr ⟨lw_p45, List.forall_mem_cons.mpr ⟨lw_p46, List.forall_mem_cons.mpr ⟨lw_p47, fun _ h => absurd h List.not_mem_nil⟩⟩⟩⟩⟩⟩⟩⟩⟩⟩⟩⟩⟩⟩⟩⟩
theorem lw_p48 : lw_okq (⟨"ApproverWinsModel", "gaolsOf", "(III)I"⟩, 27) := ⟨⟨by decide +kernel, by decide +kernel⟩, List.mem_of_getElem? (i := 725) (by decide +kernel), List.mem_of_getElem? (i := 1103) (by decide +kernel), List.mem_of_getElem? (i := 1104) (by decide +kernel)⟩
theorem lw_p49 : lw_okq (⟨"ApproverWinsModel", "lot", "(I)I"⟩, 27) := ⟨⟨by decide +kernel, by decide +kernel⟩, List.mem_of_getElem? (i := 725) (by decide +kernel), List.mem_of_getElem? (i := 1107) (by decide +kernel), List.mem_of_getElem? (i := 1108) (by decide +kernel)⟩
theorem lw_p50 : lw_okq (⟨"ApproverWinsModel", "fights", "()I"⟩, 27) := ⟨⟨by decide +kernel, by decide +kernel⟩, List.mem_of_getElem? (i := 725) (by decide +kernel), List.mem_of_getElem? (i := 1120) (by decide +kernel), List.mem_of_getElem? (i := 1121) (by decide +kernel)⟩
theorem lw_p51 : lw_okq (⟨"ApproverWinsModel", "named", "()I"⟩, 27) := ⟨⟨by decide +kernel, by decide +kernel⟩, List.mem_of_getElem? (i := 725) (by decide +kernel), List.mem_of_getElem? (i := 1124) (by decide +kernel), List.mem_of_getElem? (i := 1125) (by decide +kernel)⟩
def lw_privs_4 : List (MethodName × Nat) := [(⟨"ApproverWinsModel", "gaolsOf", "(III)I"⟩, 27), (⟨"ApproverWinsModel", "lot", "(I)I"⟩, 27), (⟨"ApproverWinsModel", "fights", "()I"⟩, 27), (⟨"ApproverWinsModel", "named", "()I"⟩, 27)]
theorem lw_r4 : ∀ q ∈ lw_privs_4, lw_okq q := List.forall_mem_cons.mpr ⟨lw_p48, List.forall_mem_cons.mpr ⟨lw_p49, List.forall_mem_cons.mpr ⟨lw_p50, List.forall_mem_cons.mpr ⟨lw_p51, fun _ h => absurd h List.not_mem_nil⟩⟩⟩⟩
def lw_privs : List (MethodName × Nat) := lw_privs_1 ++ (lw_privs_2 ++ (lw_privs_3 ++ (lw_privs_4)))
def lw_tbl : List Cond := k2_sels lw_privs ++ tables_1
theorem lw_privs_ok : ∀ q ∈ lw_privs, lw_okq q := by
  show ∀ q ∈ lw_privs_1 ++ (lw_privs_2 ++ (lw_privs_3 ++ (lw_privs_4))), lw_okq q
  exact List.forall_mem_append.mpr ⟨lw_r1, List.forall_mem_append.mpr ⟨lw_r2, List.forall_mem_append.mpr ⟨lw_r3, lw_r4⟩⟩⟩
end
section
def RX0 : String := "ApproverWins$Course"
def TX0 : u_T := fun k => match k with
  | 0 => ("ApproverWins$Course", "come", "[I", true)
  | 1 => ("ApproverWins$Course", "sixteenths", "[I", true)
  | 2 => ("ApproverWins$Course", "strong", "[I", true)
  | 3 => ("ApproverWins$Course", "won", "[I", true)
  | 4 => ("ApproverWins$Course", "above", "[J", true)
  | 5 => ("ApproverWins$Course", "innocentsAhead", "[I", true)
  | 6 => ("ApproverWins$Course", "fates", "[I", true)
  | 7 => ("ApproverWins$Course", "length", "I", false)
  | 8 => ("ApproverWins$Course", "goal", "I", false)
  | _ => ("ApproverWins$Course", "harmAbove", "J", false)
def tyX0 : Nat → FieldType := fun k => match k with
  | 0 => .array .int
  | 1 => .array .int
  | 2 => .array .int
  | 3 => .array .int
  | 4 => .array .long
  | 5 => .array .int
  | 6 => .array .int
  | 7 => .int
  | 8 => .int
  | _ => .long
theorem nmX0 : ∀ a, a < 10 → ∀ b, b < 10 → a ≠ b → (TX0 a).2.1 ≠ (TX0 b).2.1 := by decide +kernel
theorem tyX0_ok : ∀ k, k < 10 → parseFieldDescriptor (TX0 k).2.2.1 = some (tyX0 k) := by decide +kernel
abbrev cX0_init : ByteArray := prog_2_method_1_code
def yX0_init : MethodName := ⟨RX0, "<init>", "()V"⟩
abbrev cX0_setOut : ByteArray := prog_2_method_2_code
def yX0_setOut : MethodName := ⟨RX0, "setOut", "(II)V"⟩
abbrev cX0_walk : ByteArray := prog_2_method_3_code
def yX0_walk : MethodName := ⟨RX0, "walk", "(LApproverWins$Gang;LApproverWins$Names;III)V"⟩
abbrev cX0_markFate : ByteArray := prog_2_method_4_code
def yX0_markFate : MethodName := ⟨RX0, "markFate", "(II)V"⟩
abbrev cX0_stepBehind : ByteArray := prog_2_method_5_code
def yX0_stepBehind : MethodName := ⟨RX0, "stepBehind", "(IIZ)V"⟩
abbrev cX0_fateOf : ByteArray := prog_2_method_6_code
def yX0_fateOf : MethodName := ⟨RX0, "fateOf", "(I)I"⟩
abbrev cX0_hasAllWins : ByteArray := prog_2_method_7_code
def yX0_hasAllWins : MethodName := ⟨RX0, "hasAllWins", "()Z"⟩
abbrev cX0_livesAbove : ByteArray := prog_2_method_8_code
def yX0_livesAbove : MethodName := ⟨RX0, "livesAbove", "()J"⟩
abbrev cX0_fewestSixteenths : ByteArray := prog_2_method_9_code
def yX0_fewestSixteenths : MethodName := ⟨RX0, "fewestSixteenths", "()I"⟩
abbrev cX0_numberOfFights : ByteArray := prog_2_method_10_code
def yX0_numberOfFights : MethodName := ⟨RX0, "numberOfFights", "()I"⟩
abbrev cX0_numberNotVoid : ByteArray := prog_2_method_11_code
def yX0_numberNotVoid : MethodName := ⟨RX0, "numberNotVoid", "(I)I"⟩
abbrev cX0_playTill : ByteArray := prog_2_method_12_code
def yX0_playTill : MethodName := ⟨RX0, "playTill", "(LApproverWins$Lots;)I"⟩
def RX1 : String := "ApproverWins$Fraction"
def TX1 : u_T := fun k => match k with
  | _ => ("", "", "", false)
def tyX1 : Nat → FieldType := fun k => match k with
  | _ => .int
theorem nmX1 : ∀ a, a < 0 → ∀ b, b < 0 → a ≠ b → (TX1 a).2.1 ≠ (TX1 b).2.1 := by decide +kernel
theorem tyX1_ok : ∀ k, k < 0 → parseFieldDescriptor (TX1 k).2.2.1 = some (tyX1 k) := by decide +kernel
abbrev cX1_told : ByteArray := prog_3_method_2_code
def yX1_told : MethodName := ⟨RX1, "told", "(JII)J"⟩
def RX2 : String := "ApproverWins$Gang"
def TX2 : u_T := fun k => match k with
  | 0 => ("ApproverWins$Gang", "parts", "[I", true)
  | 1 => ("ApproverWins$Gang", "size", "I", false)
  | _ => ("ApproverWins$Gang", "faultPlace", "I", false)
def tyX2 : Nat → FieldType := fun k => match k with
  | 0 => .array .int
  | 1 => .int
  | _ => .int
theorem nmX2 : ∀ a, a < 3 → ∀ b, b < 3 → a ≠ b → (TX2 a).2.1 ≠ (TX2 b).2.1 := by decide +kernel
theorem tyX2_ok : ∀ k, k < 3 → parseFieldDescriptor (TX2 k).2.2.1 = some (tyX2 k) := by decide +kernel
abbrev cX2_init : ByteArray := prog_4_method_1_code
def yX2_init : MethodName := ⟨RX2, "<init>", "()V"⟩
abbrev cX2_parse : ByteArray := prog_4_method_2_code
def yX2_parse : MethodName := ⟨RX2, "parse", "(LApproverWins$Text;)V"⟩
abbrev cX2_placeOfFault : ByteArray := prog_4_method_3_code
def yX2_placeOfFault : MethodName := ⟨RX2, "placeOfFault", "(LApproverWins$Text;)I"⟩
abbrev cX2_fits : ByteArray := prog_4_method_4_code
def yX2_fits : MethodName := ⟨RX2, "fits", "(II)Z"⟩
abbrev cX2_kindOf : ByteArray := prog_4_method_5_code
def yX2_kindOf : MethodName := ⟨RX2, "kindOf", "(I)I"⟩
abbrev cX2_has : ByteArray := prog_4_method_6_code
def yX2_has : MethodName := ⟨RX2, "has", "(I)Z"⟩
abbrev cX2_part : ByteArray := prog_4_method_7_code
def yX2_part : MethodName := ⟨RX2, "part", "(II)I"⟩
abbrev cX2_putKind : ByteArray := prog_4_method_8_code
def yX2_putKind : MethodName := ⟨RX2, "putKind", "(II)V"⟩
abbrev cX2_answerOf : ByteArray := prog_4_method_9_code
def yX2_answerOf : MethodName := ⟨RX2, "answerOf", "(II)I"⟩
def RX3 : String := "ApproverWins$Lots"
def TX3 : u_T := fun k => match k with
  | _ => ("ApproverWins$Lots", "seed", "I", false)
def tyX3 : Nat → FieldType := fun k => match k with
  | _ => .int
theorem nmX3 : ∀ a, a < 1 → ∀ b, b < 1 → a ≠ b → (TX3 a).2.1 ≠ (TX3 b).2.1 := by decide +kernel
theorem tyX3_ok : ∀ k, k < 1 → parseFieldDescriptor (TX3 k).2.2.1 = some (tyX3 k) := by decide +kernel
abbrev cX3_init : ByteArray := prog_5_method_1_code
def yX3_init : MethodName := ⟨RX3, "<init>", "(I)V"⟩
abbrev cX3_draw : ByteArray := prog_5_method_2_code
def yX3_draw : MethodName := ⟨RX3, "draw", "(I)I"⟩
def RX4 : String := "ApproverWins$Names"
def TX4 : u_T := fun k => match k with
  | 0 => ("ApproverWins$Names", "row", "[I", true)
  | 1 => ("ApproverWins$Names", "size", "I", false)
  | _ => ("ApproverWins$Names", "faultPlace", "I", false)
def tyX4 : Nat → FieldType := fun k => match k with
  | 0 => .array .int
  | 1 => .int
  | _ => .int
theorem nmX4 : ∀ a, a < 3 → ∀ b, b < 3 → a ≠ b → (TX4 a).2.1 ≠ (TX4 b).2.1 := by decide +kernel
theorem tyX4_ok : ∀ k, k < 3 → parseFieldDescriptor (TX4 k).2.2.1 = some (tyX4 k) := by decide +kernel
abbrev cX4_init : ByteArray := prog_6_method_1_code
def yX4_init : MethodName := ⟨RX4, "<init>", "()V"⟩
abbrev cX4_parse : ByteArray := prog_6_method_2_code
def yX4_parse : MethodName := ⟨RX4, "parse", "(LApproverWins$Text;)V"⟩
abbrev cX4_whoAt : ByteArray := prog_6_method_3_code
def yX4_whoAt : MethodName := ⟨RX4, "whoAt", "(I)I"⟩
def RX5 : String := "ApproverWins$Plan"
def TX5 : u_T := fun k => match k with
  | 0 => ("ApproverWins$Plan", "value", "[J", true)
  | 1 => ("ApproverWins$Plan", "factor", "[I", true)
  | 2 => ("ApproverWins$Plan", "strongBehind", "[I", true)
  | 3 => ("ApproverWins$Plan", "row", "[I", true)
  | 4 => ("ApproverWins$Plan", "felons", "I", false)
  | 5 => ("ApproverWins$Plan", "living", "I", false)
  | 6 => ("ApproverWins$Plan", "atFirst", "I", false)
  | 7 => ("ApproverWins$Plan", "goal", "I", false)
  | 8 => ("ApproverWins$Plan", "length", "I", false)
  | 9 => ("ApproverWins$Plan", "above", "J", false)
  | _ => ("ApproverWins$Plan", "isMade", "Z", false)
def tyX5 : Nat → FieldType := fun k => match k with
  | 0 => .array .long
  | 1 => .array .int
  | 2 => .array .int
  | 3 => .array .int
  | 4 => .int
  | 5 => .int
  | 6 => .int
  | 7 => .int
  | 8 => .int
  | 9 => .long
  | _ => .boolean
theorem nmX5 : ∀ a, a < 11 → ∀ b, b < 11 → a ≠ b → (TX5 a).2.1 ≠ (TX5 b).2.1 := by decide +kernel
theorem tyX5_ok : ∀ k, k < 11 → parseFieldDescriptor (TX5 k).2.2.1 = some (tyX5 k) := by decide +kernel
abbrev cX5_init : ByteArray := prog_7_method_1_code
def yX5_init : MethodName := ⟨RX5, "<init>", "()V"⟩
abbrev cX5_makeOnce : ByteArray := prog_7_method_2_code
def yX5_makeOnce : MethodName := ⟨RX5, "makeOnce", "(LApproverWins$Gang;LApproverWins$Terms;)V"⟩
abbrev cX5_prepare : ByteArray := prog_7_method_3_code
def yX5_prepare : MethodName := ⟨RX5, "prepare", "(III)V"⟩
abbrev cX5_winsOf : ByteArray := prog_7_method_4_code
def yX5_winsOf : MethodName := ⟨RX5, "winsOf", "(I)I"⟩
abbrev cX5_fillValues : ByteArray := prog_7_method_5_code
def yX5_fillValues : MethodName := ⟨RX5, "fillValues", "()V"⟩
abbrev cX5_mostBehind : ByteArray := prog_7_method_6_code
def yX5_mostBehind : MethodName := ⟨RX5, "mostBehind", "(II)J"⟩
abbrev cX5_valueIfNext : ByteArray := prog_7_method_7_code
def yX5_valueIfNext : MethodName := ⟨RX5, "valueIfNext", "(III)J"⟩
abbrev cX5_layRow : ByteArray := prog_7_method_8_code
def yX5_layRow : MethodName := ⟨RX5, "layRow", "()V"⟩
abbrev cX5_leastNext : ByteArray := prog_7_method_9_code
def yX5_leastNext : MethodName := ⟨RX5, "leastNext", "(II)I"⟩
def RX6 : String := "ApproverWins$Sheet"
def TX6 : u_T := fun k => match k with
  | 0 => ("ApproverWins$Sheet", "row", "[I", true)
  | 1 => ("ApproverWins$Sheet", "isLost", "Z", false)
  | 2 => ("ApproverWins$Sheet", "form", "I", false)
  | _ => ("ApproverWins$Sheet", "size", "I", false)
def tyX6 : Nat → FieldType := fun k => match k with
  | 0 => .array .int
  | 1 => .boolean
  | 2 => .int
  | _ => .int
theorem nmX6 : ∀ a, a < 4 → ∀ b, b < 4 → a ≠ b → (TX6 a).2.1 ≠ (TX6 b).2.1 := by decide +kernel
theorem tyX6_ok : ∀ k, k < 4 → parseFieldDescriptor (TX6 k).2.2.1 = some (tyX6 k) := by decide +kernel
abbrev cX6_init : ByteArray := prog_8_method_1_code
def yX6_init : MethodName := ⟨RX6, "<init>", "()V"⟩
abbrev cX6_renew : ByteArray := prog_8_method_2_code
def yX6_renew : MethodName := ⟨RX6, "renew", "(II)V"⟩
abbrev cX6_findingAt : ByteArray := prog_8_method_3_code
def yX6_findingAt : MethodName := ⟨RX6, "findingAt", "(II)I"⟩
abbrev cX6_put : ByteArray := prog_8_method_4_code
def yX6_put : MethodName := ⟨RX6, "put", "(II)V"⟩
abbrev cX6_hasStretch : ByteArray := prog_8_method_5_code
def yX6_hasStretch : MethodName := ⟨RX6, "hasStretch", "(II)Z"⟩
def RX7 : String := "ApproverWins$Sightings"
def TX7 : u_T := fun k => match k with
  | 0 => ("ApproverWins$Sightings", "felons", "[I", true)
  | 1 => ("ApproverWins$Sightings", "fates", "[I", true)
  | _ => ("ApproverWins$Sightings", "size", "I", false)
def tyX7 : Nat → FieldType := fun k => match k with
  | 0 => .array .int
  | 1 => .array .int
  | _ => .int
theorem nmX7 : ∀ a, a < 3 → ∀ b, b < 3 → a ≠ b → (TX7 a).2.1 ≠ (TX7 b).2.1 := by decide +kernel
theorem tyX7_ok : ∀ k, k < 3 → parseFieldDescriptor (TX7 k).2.2.1 = some (tyX7 k) := by decide +kernel
abbrev cX7_init : ByteArray := prog_9_method_1_code
def yX7_init : MethodName := ⟨RX7, "<init>", "()V"⟩
abbrev cX7_allows : ByteArray := prog_9_method_2_code
def yX7_allows : MethodName := ⟨RX7, "allows", "(II)Z"⟩
abbrev cX7_isFull : ByteArray := prog_9_method_3_code
def yX7_isFull : MethodName := ⟨RX7, "isFull", "()Z"⟩
abbrev cX7_add : ByteArray := prog_9_method_4_code
def yX7_add : MethodName := ⟨RX7, "add", "(II)V"⟩
abbrev cX7_comeOutBy : ByteArray := prog_9_method_5_code
def yX7_comeOutBy : MethodName := ⟨RX7, "comeOutBy", "(LApproverWins$Course;)Z"⟩
def RX8 : String := "ApproverWins$Step"
def TX8 : u_T := fun k => match k with
  | _ => ("", "", "", false)
def tyX8 : Nat → FieldType := fun k => match k with
  | _ => .int
theorem nmX8 : ∀ a, a < 0 → ∀ b, b < 0 → a ≠ b → (TX8 a).2.1 ≠ (TX8 b).2.1 := by decide +kernel
theorem tyX8_ok : ∀ k, k < 0 → parseFieldDescriptor (TX8 k).2.2.1 = some (tyX8 k) := by decide +kernel
abbrev cX8_isWin : ByteArray := prog_10_method_2_code
def yX8_isWin : MethodName := ⟨RX8, "isWin", "(I)Z"⟩
abbrev cX8_sixteenths : ByteArray := prog_10_method_3_code
def yX8_sixteenths : MethodName := ⟨RX8, "sixteenths", "(III)I"⟩
abbrev cX8_strongBehind : ByteArray := prog_10_method_4_code
def yX8_strongBehind : MethodName := ⟨RX8, "strongBehind", "(III)I"⟩
def RX9 : String := "ApproverWins$Terms"
def TX9 : u_T := fun k => match k with
  | 0 => ("ApproverWins$Terms", "strong", "I", false)
  | 1 => ("ApproverWins$Terms", "wins", "I", false)
  | _ => ("ApproverWins$Terms", "bribe", "I", false)
def tyX9 : Nat → FieldType := fun k => match k with
  | 0 => .int
  | 1 => .int
  | _ => .int
theorem nmX9 : ∀ a, a < 3 → ∀ b, b < 3 → a ≠ b → (TX9 a).2.1 ≠ (TX9 b).2.1 := by decide +kernel
theorem tyX9_ok : ∀ k, k < 3 → parseFieldDescriptor (TX9 k).2.2.1 = some (tyX9 k) := by decide +kernel
abbrev cX9_init : ByteArray := prog_11_method_1_code
def yX9_init : MethodName := ⟨RX9, "<init>", "()V"⟩
abbrev cX9_allows : ByteArray := prog_11_method_2_code
def yX9_allows : MethodName := ⟨RX9, "allows", "(II)Z"⟩
abbrev cX9_change : ByteArray := prog_11_method_3_code
def yX9_change : MethodName := ⟨RX9, "change", "(II)I"⟩
def RX10 : String := "ApproverWins$Text"
def TX10 : u_T := fun k => match k with
  | 0 => ("ApproverWins$Text", "row", "[I", true)
  | _ => ("ApproverWins$Text", "size", "I", false)
def tyX10 : Nat → FieldType := fun k => match k with
  | 0 => .array .int
  | _ => .int
theorem nmX10 : ∀ a, a < 2 → ∀ b, b < 2 → a ≠ b → (TX10 a).2.1 ≠ (TX10 b).2.1 := by decide +kernel
theorem tyX10_ok : ∀ k, k < 2 → parseFieldDescriptor (TX10 k).2.2.1 = some (tyX10 k) := by decide +kernel
abbrev cX10_init : ByteArray := prog_12_method_1_code
def yX10_init : MethodName := ⟨RX10, "<init>", "(I)V"⟩
abbrev cX10_isFull : ByteArray := prog_12_method_2_code
def yX10_isFull : MethodName := ⟨RX10, "isFull", "()Z"⟩
abbrev cX10_push : ByteArray := prog_12_method_3_code
def yX10_push : MethodName := ⟨RX10, "push", "(I)V"⟩
abbrev cX10_byteAt : ByteArray := prog_12_method_4_code
def yX10_byteAt : MethodName := ⟨RX10, "byteAt", "(I)I"⟩
def RX11 : String := "ApproverWins"
def TX11 : u_T := fun k => match k with
  | 0 => ("ApproverWins", "felonText", "LApproverWins$Text;", true)
  | 1 => ("ApproverWins", "nameText", "LApproverWins$Text;", true)
  | 2 => ("ApproverWins", "gang", "LApproverWins$Gang;", true)
  | 3 => ("ApproverWins", "names", "LApproverWins$Names;", true)
  | 4 => ("ApproverWins", "terms", "LApproverWins$Terms;", true)
  | 5 => ("ApproverWins", "course", "LApproverWins$Course;", true)
  | 6 => ("ApproverWins", "trial", "LApproverWins$Course;", true)
  | 7 => ("ApproverWins", "plan", "LApproverWins$Plan;", true)
  | 8 => ("ApproverWins", "sightings", "LApproverWins$Sightings;", true)
  | 9 => ("ApproverWins", "sheets", "[LApproverWins$Sheet;", true)
  | 10 => ("ApproverWins", "tally", "[I", true)
  | _ => ("ApproverWins", "latestFinding", "I", false)
def tyX11 : Nat → FieldType := fun k => match k with
  | 0 => .object "ApproverWins$Text"
  | 1 => .object "ApproverWins$Text"
  | 2 => .object "ApproverWins$Gang"
  | 3 => .object "ApproverWins$Names"
  | 4 => .object "ApproverWins$Terms"
  | 5 => .object "ApproverWins$Course"
  | 6 => .object "ApproverWins$Course"
  | 7 => .object "ApproverWins$Plan"
  | 8 => .object "ApproverWins$Sightings"
  | 9 => .array (.object "ApproverWins$Sheet")
  | 10 => .array .int
  | _ => .int
theorem nmX11 : ∀ a, a < 12 → ∀ b, b < 12 → a ≠ b → (TX11 a).2.1 ≠ (TX11 b).2.1 := by decide +kernel
theorem tyX11_ok : ∀ k, k < 12 → parseFieldDescriptor (TX11 k).2.2.1 = some (tyX11 k) := by decide +kernel
abbrev cX11_init : ByteArray := prog_1_method_1_code
def yX11_init : MethodName := ⟨RX11, "<init>", "()V"⟩
abbrev cX11_type : ByteArray := prog_1_method_2_code
def yX11_type : MethodName := ⟨RX11, "type", "(II)I"⟩
abbrev cX11_wipe : ByteArray := prog_1_method_3_code
def yX11_wipe : MethodName := ⟨RX11, "wipe", "(I)I"⟩
abbrev cX11_undo : ByteArray := prog_1_method_4_code
def yX11_undo : MethodName := ⟨RX11, "undo", "(I)I"⟩
abbrev cX11_fault : ByteArray := prog_1_method_5_code
def yX11_fault : MethodName := ⟨RX11, "fault", "(I)I"⟩
abbrev cX11_felon : ByteArray := prog_1_method_6_code
def yX11_felon : MethodName := ⟨RX11, "felon", "(II)I"⟩
abbrev cX11_name : ByteArray := prog_1_method_7_code
def yX11_name : MethodName := ⟨RX11, "name", "(I)I"⟩
abbrev cX11_set : ByteArray := prog_1_method_8_code
def yX11_set : MethodName := ⟨RX11, "set", "(II)I"⟩
abbrev cX11_comes : ByteArray := prog_1_method_9_code
def yX11_comes : MethodName := ⟨RX11, "comes", "(II)I"⟩
abbrev cX11_behind : ByteArray := prog_1_method_10_code
def yX11_behind : MethodName := ⟨RX11, "behind", "(II)I"⟩
abbrev cX11_alive : ByteArray := prog_1_method_11_code
def yX11_alive : MethodName := ⟨RX11, "alive", "(II)J"⟩
abbrev cX11_lives : ByteArray := prog_1_method_12_code
def yX11_lives : MethodName := ⟨RX11, "lives", "(I)J"⟩
abbrev cX11_harm : ByteArray := prog_1_method_13_code
def yX11_harm : MethodName := ⟨RX11, "harm", "(I)J"⟩
abbrev cX11_worst : ByteArray := prog_1_method_14_code
def yX11_worst : MethodName := ⟨RX11, "worst", "()I"⟩
abbrev cX11_fate : ByteArray := prog_1_method_15_code
def yX11_fate : MethodName := ⟨RX11, "fate", "(I)I"⟩
abbrev cX11_order : ByteArray := prog_1_method_16_code
def yX11_order : MethodName := ⟨RX11, "order", "(I)I"⟩
abbrev cX11_best : ByteArray := prog_1_method_17_code
def yX11_best : MethodName := ⟨RX11, "best", "(I)J"⟩
abbrev cX11_price : ByteArray := prog_1_method_18_code
def yX11_price : MethodName := ⟨RX11, "price", "()I"⟩
abbrev cX11_rule : ByteArray := prog_1_method_19_code
def yX11_rule : MethodName := ⟨RX11, "rule", "(I)I"⟩
abbrev cX11_chain : ByteArray := prog_1_method_20_code
def yX11_chain : MethodName := ⟨RX11, "chain", "(I)I"⟩
abbrev cX11_seen : ByteArray := prog_1_method_21_code
def yX11_seen : MethodName := ⟨RX11, "seen", "(II)I"⟩
abbrev cX11_forget : ByteArray := prog_1_method_22_code
def yX11_forget : MethodName := ⟨RX11, "forget", "()I"⟩
abbrev cX11_read : ByteArray := prog_1_method_23_code
def yX11_read : MethodName := ⟨RX11, "read", "(I)I"⟩
abbrev cX11_bribes : ByteArray := prog_1_method_24_code
def yX11_bribes : MethodName := ⟨RX11, "bribes", "()I"⟩
abbrev cX11_kinds : ByteArray := prog_1_method_25_code
def yX11_kinds : MethodName := ⟨RX11, "kinds", "(I)I"⟩
abbrev cX11_ask : ByteArray := prog_1_method_26_code
def yX11_ask : MethodName := ⟨RX11, "ask", "()I"⟩
abbrev cX11_gaols : ByteArray := prog_1_method_27_code
def yX11_gaols : MethodName := ⟨RX11, "gaols", "(III)I"⟩
abbrev cX11_sheet : ByteArray := prog_1_method_28_code
def yX11_sheet : MethodName := ⟨RX11, "sheet", "(III)I"⟩
abbrev cX11_lose : ByteArray := prog_1_method_29_code
def yX11_lose : MethodName := ⟨RX11, "lose", "(I)I"⟩
abbrev cX11_lay : ByteArray := prog_1_method_30_code
def yX11_lay : MethodName := ⟨RX11, "lay", "(IIII)I"⟩
abbrev cX11_get : ByteArray := prog_1_method_31_code
def yX11_get : MethodName := ⟨RX11, "get", "(III)I"⟩
abbrev cX11_copy : ByteArray := prog_1_method_32_code
def yX11_copy : MethodName := ⟨RX11, "copy", "(IIIII)I"⟩
abbrev cX11_write : ByteArray := prog_1_method_33_code
def yX11_write : MethodName := ⟨RX11, "write", "(I)I"⟩
abbrev cX11_count : ByteArray := prog_1_method_34_code
def yX11_count : MethodName := ⟨RX11, "count", "(I)I"⟩
abbrev cX11_digest : ByteArray := prog_1_method_35_code
def yX11_digest : MethodName := ⟨RX11, "digest", "()J"⟩
abbrev cX11_digestOfFelons : ByteArray := prog_1_method_36_code
def yX11_digestOfFelons : MethodName := ⟨RX11, "digestOfFelons", "(J)J"⟩
abbrev cX11_digestOfNames : ByteArray := prog_1_method_37_code
def yX11_digestOfNames : MethodName := ⟨RX11, "digestOfNames", "(J)J"⟩
abbrev cX11_digestOfPlans : ByteArray := prog_1_method_38_code
def yX11_digestOfPlans : MethodName := ⟨RX11, "digestOfPlans", "(J)J"⟩
abbrev cX11_isText : ByteArray := prog_1_method_39_code
def yX11_isText : MethodName := ⟨RX11, "isText", "(I)Z"⟩
abbrev cX11_isEither : ByteArray := prog_1_method_40_code
def yX11_isEither : MethodName := ⟨RX11, "isEither", "(I)Z"⟩
abbrev cX11_isSheet : ByteArray := prog_1_method_41_code
def yX11_isSheet : MethodName := ⟨RX11, "isSheet", "(I)Z"⟩
abbrev cX11_isForm : ByteArray := prog_1_method_42_code
def yX11_isForm : MethodName := ⟨RX11, "isForm", "(I)Z"⟩
abbrev cX11_longRefusal : ByteArray := prog_1_method_43_code
def yX11_longRefusal : MethodName := ⟨RX11, "longRefusal", "(I)J"⟩
abbrev cX11_isNumberOfNames : ByteArray := prog_1_method_44_code
def yX11_isNumberOfNames : MethodName := ⟨RX11, "isNumberOfNames", "(I)Z"⟩
abbrev cX11_textOf : ByteArray := prog_1_method_45_code
def yX11_textOf : MethodName := ⟨RX11, "textOf", "(I)LApproverWins$Text;"⟩
abbrev cX11_finding : ByteArray := prog_1_method_46_code
def yX11_finding : MethodName := ⟨RX11, "finding", "(I)I"⟩
abbrev cX11_readAnew : ByteArray := prog_1_method_47_code
def yX11_readAnew : MethodName := ⟨RX11, "readAnew", "(I)V"⟩
abbrev cX11_reckonAnew : ByteArray := prog_1_method_48_code
def yX11_reckonAnew : MethodName := ⟨RX11, "reckonAnew", "()V"⟩
abbrev cX11_tryBribe : ByteArray := prog_1_method_49_code
def yX11_tryBribe : MethodName := ⟨RX11, "tryBribe", "(I)V"⟩
abbrev cX11_tallyFates : ByteArray := prog_1_method_50_code
def yX11_tallyFates : MethodName := ⟨RX11, "tallyFates", "()V"⟩
abbrev cX11_mostAlike : ByteArray := prog_1_method_51_code
def yX11_mostAlike : MethodName := ⟨RX11, "mostAlike", "(I)I"⟩
def RX12 : String := "ApproverWinsModel"
def TX12 : u_T := fun k => match k with
  | 0 => ("ApproverWinsModel", "forms", "[I", true)
  | 1 => ("ApproverWinsModel", "sizes", "[I", true)
  | 2 => ("ApproverWinsModel", "items", "[I", true)
  | 3 => ("ApproverWinsModel", "moved", "[I", true)
  | 4 => ("ApproverWinsModel", "latest", "I", false)
  | 5 => ("ApproverWinsModel", "bytes", "[I", true)
  | 6 => ("ApproverWinsModel", "typed", "[I", true)
  | 7 => ("ApproverWinsModel", "felons", "I", false)
  | 8 => ("ApproverWinsModel", "felon", "[I", true)
  | 9 => ("ApproverWinsModel", "names", "I", false)
  | 10 => ("ApproverWinsModel", "name", "[I", true)
  | 11 => ("ApproverWinsModel", "settings", "[I", true)
  | 12 => ("ApproverWinsModel", "comes", "[I", true)
  | 13 => ("ApproverWinsModel", "chances", "[I", true)
  | 14 => ("ApproverWinsModel", "strong", "[I", true)
  | 15 => ("ApproverWinsModel", "wins", "[I", true)
  | 16 => ("ApproverWinsModel", "row", "[I", true)
  | 17 => ("ApproverWinsModel", "rowStrong", "[I", true)
  | 18 => ("ApproverWinsModel", "rowWins", "[I", true)
  | 19 => ("ApproverWinsModel", "rowChance", "[J", true)
  | 20 => ("ApproverWinsModel", "bestRow", "[I", true)
  | 21 => ("ApproverWinsModel", "bestMany", "I", false)
  | 22 => ("ApproverWinsModel", "bestChance", "J", false)
  | 23 => ("ApproverWinsModel", "sights", "I", false)
  | 24 => ("ApproverWinsModel", "sight", "[I", true)
  | 25 => ("ApproverWinsModel", "alike", "[I", true)
  | _ => ("ApproverWinsModel", "drawn", "I", false)
def tyX12 : Nat → FieldType := fun k => match k with
  | 0 => .array .int
  | 1 => .array .int
  | 2 => .array .int
  | 3 => .array .int
  | 4 => .int
  | 5 => .array .int
  | 6 => .array .int
  | 7 => .int
  | 8 => .array .int
  | 9 => .int
  | 10 => .array .int
  | 11 => .array .int
  | 12 => .array .int
  | 13 => .array .int
  | 14 => .array .int
  | 15 => .array .int
  | 16 => .array .int
  | 17 => .array .int
  | 18 => .array .int
  | 19 => .array .long
  | 20 => .array .int
  | 21 => .int
  | 22 => .long
  | 23 => .int
  | 24 => .array .int
  | 25 => .array .int
  | _ => .int
theorem nmX12 : ∀ a, a < 27 → ∀ b, b < 27 → a ≠ b → (TX12 a).2.1 ≠ (TX12 b).2.1 := by decide +kernel
theorem tyX12_ok : ∀ k, k < 27 → parseFieldDescriptor (TX12 k).2.2.1 = some (tyX12 k) := by decide +kernel
abbrev cX12_init : ByteArray := prog_14_method_1_code
def yX12_init : MethodName := ⟨RX12, "<init>", "()V"⟩
abbrev cX12_in : ByteArray := prog_14_method_3_code
def yX12_in : MethodName := ⟨RX12, "in", "(JJJ)Z"⟩
abbrev cX12_no : ByteArray := prog_14_method_4_code
def yX12_no : MethodName := ⟨RX12, "no", "(I)J"⟩
abbrev cX12_isTwo : ByteArray := prog_14_method_5_code
def yX12_isTwo : MethodName := ⟨RX12, "isTwo", "(I)Z"⟩
abbrev cX12_isIn : ByteArray := prog_14_method_6_code
def yX12_isIn : MethodName := ⟨RX12, "isIn", "(II)Z"⟩
abbrev cX12_lesser : ByteArray := prog_14_method_7_code
def yX12_lesser : MethodName := ⟨RX12, "lesser", "(II)I"⟩
abbrev cX12_greater : ByteArray := prog_14_method_8_code
def yX12_greater : MethodName := ⟨RX12, "greater", "(II)I"⟩
abbrev cX12_part : ByteArray := prog_14_method_9_code
def yX12_part : MethodName := ⟨RX12, "part", "(JJI)J"⟩
abbrev cX12_finds : ByteArray := prog_14_method_10_code
def yX12_finds : MethodName := ⟨RX12, "finds", "(I)I"⟩
abbrev cX12_isSheet : ByteArray := prog_14_method_11_code
def yX12_isSheet : MethodName := ⟨RX12, "isSheet", "(I)Z"⟩
abbrev cX12_sheet : ByteArray := prog_14_method_12_code
def yX12_sheet : MethodName := ⟨RX12, "sheet", "(III)I"⟩
abbrev cX12_lose : ByteArray := prog_14_method_13_code
def yX12_lose : MethodName := ⟨RX12, "lose", "(I)I"⟩
abbrev cX12_lacks : ByteArray := prog_14_method_14_code
def yX12_lacks : MethodName := ⟨RX12, "lacks", "(III)I"⟩
abbrev cX12_cut : ByteArray := prog_14_method_15_code
def yX12_cut : MethodName := ⟨RX12, "cut", "(II)I"⟩
abbrev cX12_lay : ByteArray := prog_14_method_16_code
def yX12_lay : MethodName := ⟨RX12, "lay", "(IIII)I"⟩
abbrev cX12_get : ByteArray := prog_14_method_17_code
def yX12_get : MethodName := ⟨RX12, "get", "(III)I"⟩
abbrev cX12_copy : ByteArray := prog_14_method_18_code
def yX12_copy : MethodName := ⟨RX12, "copy", "(IIIII)I"⟩
abbrev cX12_type : ByteArray := prog_14_method_19_code
def yX12_type : MethodName := ⟨RX12, "type", "(II)I"⟩
abbrev cX12_wipe : ByteArray := prog_14_method_20_code
def yX12_wipe : MethodName := ⟨RX12, "wipe", "(I)I"⟩
abbrev cX12_undo : ByteArray := prog_14_method_21_code
def yX12_undo : MethodName := ⟨RX12, "undo", "(I)I"⟩
abbrev cX12_figureOf : ByteArray := prog_14_method_22_code
def yX12_figureOf : MethodName := ⟨RX12, "figureOf", "(II)I"⟩
abbrev cX12_felonOf : ByteArray := prog_14_method_23_code
def yX12_felonOf : MethodName := ⟨RX12, "felonOf", "(II)I"⟩
abbrev cX12_readsFelons : ByteArray := prog_14_method_24_code
def yX12_readsFelons : MethodName := ⟨RX12, "readsFelons", "()I"⟩
abbrev cX12_readsNames : ByteArray := prog_14_method_25_code
def yX12_readsNames : MethodName := ⟨RX12, "readsNames", "()I"⟩
abbrev cX12_fault : ByteArray := prog_14_method_26_code
def yX12_fault : MethodName := ⟨RX12, "fault", "(I)I"⟩
abbrev cX12_isFelon : ByteArray := prog_14_method_27_code
def yX12_isFelon : MethodName := ⟨RX12, "isFelon", "(I)Z"⟩
abbrev cX12_felon : ByteArray := prog_14_method_28_code
def yX12_felon : MethodName := ⟨RX12, "felon", "(II)I"⟩
abbrev cX12_name : ByteArray := prog_14_method_29_code
def yX12_name : MethodName := ⟨RX12, "name", "(I)I"⟩
abbrev cX12_set : ByteArray := prog_14_method_30_code
def yX12_set : MethodName := ⟨RX12, "set", "(II)I"⟩
abbrev cX12_endOf : ByteArray := prog_14_method_31_code
def yX12_endOf : MethodName := ⟨RX12, "endOf", "(I)I"⟩
abbrev cX12_winsBy : ByteArray := prog_14_method_32_code
def yX12_winsBy : MethodName := ⟨RX12, "winsBy", "(II)I"⟩
abbrev cX12_strongBehind : ByteArray := prog_14_method_33_code
def yX12_strongBehind : MethodName := ⟨RX12, "strongBehind", "(II)I"⟩
abbrev cX12_goes : ByteArray := prog_14_method_34_code
def yX12_goes : MethodName := ⟨RX12, "goes", "()V"⟩
abbrev cX12_find : ByteArray := prog_14_method_35_code
def yX12_find : MethodName := ⟨RX12, "find", "()V"⟩
abbrev cX12_comes : ByteArray := prog_14_method_36_code
def yX12_comes : MethodName := ⟨RX12, "comes", "(II)I"⟩
abbrev cX12_behindOf : ByteArray := prog_14_method_37_code
def yX12_behindOf : MethodName := ⟨RX12, "behindOf", "(II)I"⟩
abbrev cX12_behind : ByteArray := prog_14_method_38_code
def yX12_behind : MethodName := ⟨RX12, "behind", "(II)I"⟩
abbrev cX12_aliveOf : ByteArray := prog_14_method_39_code
def yX12_aliveOf : MethodName := ⟨RX12, "aliveOf", "(I)J"⟩
abbrev cX12_tells : ByteArray := prog_14_method_40_code
def yX12_tells : MethodName := ⟨RX12, "tells", "(JI)J"⟩
abbrev cX12_alive : ByteArray := prog_14_method_41_code
def yX12_alive : MethodName := ⟨RX12, "alive", "(II)J"⟩
abbrev cX12_livesNow : ByteArray := prog_14_method_42_code
def yX12_livesNow : MethodName := ⟨RX12, "livesNow", "()J"⟩
abbrev cX12_lives : ByteArray := prog_14_method_43_code
def yX12_lives : MethodName := ⟨RX12, "lives", "(I)J"⟩
abbrev cX12_isHarmed : ByteArray := prog_14_method_44_code
def yX12_isHarmed : MethodName := ⟨RX12, "isHarmed", "(I)Z"⟩
abbrev cX12_harmNow : ByteArray := prog_14_method_45_code
def yX12_harmNow : MethodName := ⟨RX12, "harmNow", "()J"⟩
abbrev cX12_harm : ByteArray := prog_14_method_46_code
def yX12_harm : MethodName := ⟨RX12, "harm", "(I)J"⟩
abbrev cX12_worstNow : ByteArray := prog_14_method_47_code
def yX12_worstNow : MethodName := ⟨RX12, "worstNow", "()I"⟩
abbrev cX12_worst : ByteArray := prog_14_method_48_code
def yX12_worst : MethodName := ⟨RX12, "worst", "()I"⟩
abbrev cX12_fateOf : ByteArray := prog_14_method_49_code
def yX12_fateOf : MethodName := ⟨RX12, "fateOf", "(I)I"⟩
abbrev cX12_fate : ByteArray := prog_14_method_50_code
def yX12_fate : MethodName := ⟨RX12, "fate", "(I)I"⟩
abbrev cX12_adds : ByteArray := prog_14_method_51_code
def yX12_adds : MethodName := ⟨RX12, "adds", "(II)V"⟩
abbrev cX12_keeps : ByteArray := prog_14_method_52_code
def yX12_keeps : MethodName := ⟨RX12, "keeps", "(I)V"⟩
abbrev cX12_findOrder : ByteArray := prog_14_method_53_code
def yX12_findOrder : MethodName := ⟨RX12, "findOrder", "()V"⟩
abbrev cX12_orderBy : ByteArray := prog_14_method_54_code
def yX12_orderBy : MethodName := ⟨RX12, "orderBy", "(I)I"⟩
abbrev cX12_order : ByteArray := prog_14_method_55_code
def yX12_order : MethodName := ⟨RX12, "order", "(I)I"⟩
abbrev cX12_best : ByteArray := prog_14_method_56_code
def yX12_best : MethodName := ⟨RX12, "best", "(I)J"⟩
abbrev cX12_priceNow : ByteArray := prog_14_method_57_code
def yX12_priceNow : MethodName := ⟨RX12, "priceNow", "()I"⟩
abbrev cX12_price : ByteArray := prog_14_method_58_code
def yX12_price : MethodName := ⟨RX12, "price", "()I"⟩
abbrev cX12_ruleOf : ByteArray := prog_14_method_59_code
def yX12_ruleOf : MethodName := ⟨RX12, "ruleOf", "(I)I"⟩
abbrev cX12_rule : ByteArray := prog_14_method_60_code
def yX12_rule : MethodName := ⟨RX12, "rule", "(I)I"⟩
abbrev cX12_chainOf : ByteArray := prog_14_method_61_code
def yX12_chainOf : MethodName := ⟨RX12, "chainOf", "(I)I"⟩
abbrev cX12_chain : ByteArray := prog_14_method_62_code
def yX12_chain : MethodName := ⟨RX12, "chain", "(I)I"⟩
abbrev cX12_seen : ByteArray := prog_14_method_63_code
def yX12_seen : MethodName := ⟨RX12, "seen", "(II)I"⟩
abbrev cX12_forget : ByteArray := prog_14_method_64_code
def yX12_forget : MethodName := ⟨RX12, "forget", "()I"⟩
abbrev cX12_read : ByteArray := prog_14_method_65_code
def yX12_read : MethodName := ⟨RX12, "read", "(I)I"⟩
abbrev cX12_isSeen : ByteArray := prog_14_method_66_code
def yX12_isSeen : MethodName := ⟨RX12, "isSeen", "()Z"⟩
abbrev cX12_bribesNow : ByteArray := prog_14_method_67_code
def yX12_bribesNow : MethodName := ⟨RX12, "bribesNow", "()I"⟩
abbrev cX12_bribes : ByteArray := prog_14_method_68_code
def yX12_bribes : MethodName := ⟨RX12, "bribes", "()I"⟩
abbrev cX12_kindsOf : ByteArray := prog_14_method_69_code
def yX12_kindsOf : MethodName := ⟨RX12, "kindsOf", "(I)I"⟩
abbrev cX12_kinds : ByteArray := prog_14_method_70_code
def yX12_kinds : MethodName := ⟨RX12, "kinds", "(I)I"⟩
abbrev cX12_askNow : ByteArray := prog_14_method_71_code
def yX12_askNow : MethodName := ⟨RX12, "askNow", "()I"⟩
abbrev cX12_ask : ByteArray := prog_14_method_72_code
def yX12_ask : MethodName := ⟨RX12, "ask", "()I"⟩
abbrev cX12_lot : ByteArray := prog_14_method_73_code
def yX12_lot : MethodName := ⟨RX12, "lot", "(I)I"⟩
abbrev cX12_gaolsOf : ByteArray := prog_14_method_74_code
def yX12_gaolsOf : MethodName := ⟨RX12, "gaolsOf", "(III)I"⟩
abbrev cX12_gaols : ByteArray := prog_14_method_75_code
def yX12_gaols : MethodName := ⟨RX12, "gaols", "(III)I"⟩
abbrev cX12_write : ByteArray := prog_14_method_76_code
def yX12_write : MethodName := ⟨RX12, "write", "(I)I"⟩
abbrev cX12_fights : ByteArray := prog_14_method_77_code
def yX12_fights : MethodName := ⟨RX12, "fights", "()I"⟩
abbrev cX12_named : ByteArray := prog_14_method_78_code
def yX12_named : MethodName := ⟨RX12, "named", "()I"⟩
abbrev cX12_count : ByteArray := prog_14_method_79_code
def yX12_count : MethodName := ⟨RX12, "count", "(I)I"⟩
abbrev cX12_tellsBoth : ByteArray := prog_14_method_80_code
def yX12_tellsBoth : MethodName := ⟨RX12, "tellsBoth", "(JJ)J"⟩
abbrev cX12_digest : ByteArray := prog_14_method_81_code
def yX12_digest : MethodName := ⟨RX12, "digest", "()J"⟩
def RJ6 : String := "java/lang/Integer"
def TJ6 : u_T := fun k => match k with
  | _ => ("", "", "", false)
def tyJ6 : Nat → FieldType := fun k => match k with
  | _ => .int
theorem nmJ6 : ∀ a, a < 0 → ∀ b, b < 0 → a ≠ b → (TJ6 a).2.1 ≠ (TJ6 b).2.1 := by decide +kernel
theorem tyJ6_ok : ∀ k, k < 0 → parseFieldDescriptor (TJ6 k).2.2.1 = some (tyJ6 k) := by decide +kernel
abbrev cJ6_bitCount_0f7a4 : ByteArray := prog_15_method_49_code
def yJ6_bitCount_0f7a4 : MethodName := ⟨RJ6, "bitCount", "(I)I"⟩
def RJ9 : String := "java/lang/Math"
def TJ9 : u_T := fun k => match k with
  | _ => ("", "", "", false)
def tyJ9 : Nat → FieldType := fun k => match k with
  | _ => .int
theorem nmJ9 : ∀ a, a < 0 → ∀ b, b < 0 → a ≠ b → (TJ9 a).2.1 ≠ (TJ9 b).2.1 := by decide +kernel
theorem tyJ9_ok : ∀ k, k < 0 → parseFieldDescriptor (TJ9 k).2.2.1 = some (tyJ9 k) := by decide +kernel
abbrev cJ9_max_7cf53 : ByteArray := prog_16_method_65_code
def yJ9_max_7cf53 : MethodName := ⟨RJ9, "max", "(II)I"⟩
abbrev cJ9_max_f86c9 : ByteArray := prog_16_method_66_code
def yJ9_max_f86c9 : MethodName := ⟨RJ9, "max", "(JJ)J"⟩
abbrev cJ9_min_7cf53 : ByteArray := prog_16_method_69_code
def yJ9_min_7cf53 : MethodName := ⟨RJ9, "min", "(II)I"⟩
def RJ10 : String := "java/lang/System"
def TJ10 : u_T := fun k => match k with
  | _ => ("", "", "", false)
def tyJ10 : Nat → FieldType := fun k => match k with
  | _ => .int
theorem nmJ10 : ∀ a, a < 0 → ∀ b, b < 0 → a ≠ b → (TJ10 a).2.1 ≠ (TJ10 b).2.1 := by decide +kernel
theorem tyJ10_ok : ∀ k, k < 0 → parseFieldDescriptor (TJ10 k).2.2.1 = some (tyJ10 k) := by decide +kernel
def RL : String := "ApproverWinsLaw"
abbrev cL_law : ByteArray := code
def yL_law : MethodName := ⟨RL, "law", "([I)Z"⟩
abbrev vwCl : List vw_C := [(RX0, TX0, 10), (RX2, TX2, 3), (RX3, TX3, 1), (RX4, TX4, 3), (RX5, TX5, 11), (RX6, TX6, 4), (RX7, TX7, 3), (RX9, TX9, 3), (RX10, TX10, 2), (RX11, TX11, 12), (RX12, TX12, 27)]
end
section
def tb : List Cond := lw_tbl.filter goodWord
theorem tb_in {w : Cond} (h : w ∈ lw_tbl) (hg : goodWord w = true) : w ∈ tb := List.mem_filter.mpr ⟨h, hg⟩
theorem tb_out {w : Cond} (h : w ∈ tb) : w ∈ lw_tbl ∧ goodWord w = true := List.mem_filter.mp h
theorem tl_0 {w : Cond} (i : Nat) (h : (k2_sels lw_privs)[i]? = some w) (hg : goodWord w = true) : w ∈ tb := tb_in (List.mem_append_left _ (List.mem_of_getElem? h)) hg
theorem tl_1 {w : Cond} (i : Nat) (h : tables_1_1[i]? = some w) (hg : goodWord w = true) : w ∈ tb := tb_in (List.mem_append_right _ (List.mem_append_left _ (List.mem_of_getElem? h))) hg
theorem tm_1 {w : Cond} (i : Nat) (h : tables_1_1[i]? = some w) : w ∈ lw_tbl := List.mem_append_right _ (List.mem_append_left _ (List.mem_of_getElem? h))
theorem tl_2 {w : Cond} (i : Nat) (h : tables_1_2[i]? = some w) (hg : goodWord w = true) : w ∈ tb := tb_in (List.mem_append_right _ (List.mem_append_right _ (List.mem_append_left _ (List.mem_of_getElem? h)))) hg
theorem tm_2 {w : Cond} (i : Nat) (h : tables_1_2[i]? = some w) : w ∈ lw_tbl := List.mem_append_right _ (List.mem_append_right _ (List.mem_append_left _ (List.mem_of_getElem? h)))
theorem tl_3 {w : Cond} (i : Nat) (h : tables_1_3[i]? = some w) (hg : goodWord w = true) : w ∈ tb := tb_in (List.mem_append_right _ (List.mem_append_right _ (List.mem_append_right _ (List.mem_append_left _ (List.mem_of_getElem? h))))) hg
theorem tm_3 {w : Cond} (i : Nat) (h : tables_1_3[i]? = some w) : w ∈ lw_tbl := List.mem_append_right _ (List.mem_append_right _ (List.mem_append_right _ (List.mem_append_left _ (List.mem_of_getElem? h))))
theorem tl_4 {w : Cond} (i : Nat) (h : tables_1_4[i]? = some w) (hg : goodWord w = true) : w ∈ tb := tb_in (List.mem_append_right _ (List.mem_append_right _ (List.mem_append_right _ (List.mem_append_right _ (List.mem_append_left _ (List.mem_of_getElem? h)))))) hg
theorem tm_4 {w : Cond} (i : Nat) (h : tables_1_4[i]? = some w) : w ∈ lw_tbl := List.mem_append_right _ (List.mem_append_right _ (List.mem_append_right _ (List.mem_append_right _ (List.mem_append_left _ (List.mem_of_getElem? h)))))
theorem tl_5 {w : Cond} (i : Nat) (h : tables_1_5[i]? = some w) (hg : goodWord w = true) : w ∈ tb := tb_in (List.mem_append_right _ (List.mem_append_right _ (List.mem_append_right _ (List.mem_append_right _ (List.mem_append_right _ (List.mem_of_getElem? h)))))) hg
theorem tm_5 {w : Cond} (i : Nat) (h : tables_1_5[i]? = some w) : w ∈ lw_tbl := List.mem_append_right _ (List.mem_append_right _ (List.mem_append_right _ (List.mem_append_right _ (List.mem_append_right _ (List.mem_of_getElem? h)))))
def tyT : Nat → Nat → FieldType := fun c => match c with
  | 0 => tyX0
  | 1 => tyX2
  | 2 => tyX3
  | 3 => tyX4
  | 4 => tyX5
  | 5 => tyX6
  | 6 => tyX7
  | 7 => tyX9
  | 8 => tyX10
  | 9 => tyX11
  | _ => tyX12
theorem uw_0 : ∀ w ∈ u_ws RX0 TX0 10, w ∈ tb := by decide +kernel
theorem uw_1 : ∀ w ∈ u_ws RX2 TX2 3, w ∈ tb := by decide +kernel
theorem uw_2 : ∀ w ∈ u_ws RX3 TX3 1, w ∈ tb := by decide +kernel
theorem uw_3 : ∀ w ∈ u_ws RX4 TX4 3, w ∈ tb := by decide +kernel
theorem uw_4 : ∀ w ∈ u_ws RX5 TX5 11, w ∈ tb := by decide +kernel
theorem uw_5 : ∀ w ∈ u_ws RX6 TX6 4, w ∈ tb := by decide +kernel
theorem uw_6 : ∀ w ∈ u_ws RX7 TX7 3, w ∈ tb := by decide +kernel
theorem uw_7 : ∀ w ∈ u_ws RX9 TX9 3, w ∈ tb := by decide +kernel
theorem uw_8 : ∀ w ∈ u_ws RX10 TX10 2, w ∈ tb := by decide +kernel
theorem uw_9 : ∀ w ∈ u_ws RX11 TX11 12, w ∈ tb := by decide +kernel
theorem uw_10 : ∀ w ∈ u_ws RX12 TX12 27, w ∈ tb := by decide +kernel
theorem ck : ∀ (i : Nat) (C : String) (T : u_T) (N : Nat), vwCl[i]? = some (C, T, N) → (∀ w ∈ u_ws C T N, w ∈ tb) ∧ (∀ k, k < N → parseFieldDescriptor (T k).2.2.1 = some (tyT i k)) ∧ (∀ a, a < N → ∀ b, b < N → a ≠ b → (T a).2.1 ≠ (T b).2.1) := by
  intro i C T N h
  match i, h with
  | 0, h => cases h; exact ⟨uw_0, tyX0_ok, nmX0⟩
  | 1, h => cases h; exact ⟨uw_1, tyX2_ok, nmX2⟩
  | 2, h => cases h; exact ⟨uw_2, tyX3_ok, nmX3⟩
  | 3, h => cases h; exact ⟨uw_3, tyX4_ok, nmX4⟩
  | 4, h => cases h; exact ⟨uw_4, tyX5_ok, nmX5⟩
  | 5, h => cases h; exact ⟨uw_5, tyX6_ok, nmX6⟩
  | 6, h => cases h; exact ⟨uw_6, tyX7_ok, nmX7⟩
  | 7, h => cases h; exact ⟨uw_7, tyX9_ok, nmX9⟩
  | 8, h => cases h; exact ⟨uw_8, tyX10_ok, nmX10⟩
  | 9, h => cases h; exact ⟨uw_9, tyX11_ok, nmX11⟩
  | 10, h => cases h; exact ⟨uw_10, tyX12_ok, nmX12⟩
  | k + 11, h => simp [vwCl] at h
def FL (own : String) (idx ci k : Nat) : Prop := ∃ (C : String) (T : u_T) (N : Nat), vwCl[ci]? = some (C, T, N) ∧ k < N ∧ (T k).1 = C ∧ Cond.fieldLink own idx (T k).1 (T k).2.1 (T k).2.2.1 ∈ tb
abbrev MD : Type := MethodName × ByteArray × Nat × Option FieldType × Room
def rmK (k mc ms : Nat) : Room := { frames := k, cells := mc, slots := ms, locals := 42 * k }
abbrev wCode (M : MD) : Cond := .code M.1 M.2.1 M.2.2.1 M.2.2.2.1
def CB (M : MD) (n : Nat) : Prop := plainName M.1.cls = true ∧ (M.1.cls ≠ "java/lang/invoke/MethodHandle" ∧ M.1.cls ≠ "java/lang/invoke/VarHandle" ∧ (parseMethodDescriptor M.1.desc).map (fun d => d.parameters.length) = some n) ∧ wCode M ∈ tb ∧ Cond.initialized M.1.cls ∈ tb
def CS (M : MD) (n : Nat) : Prop := CB M n ∧ Cond.static M.1 ∈ tb
def CV (M : MD) (n : Nat) : Prop := CB M n ∧ Cond.instanceMethod M.1 ∈ tb ∧ Cond.selects M.1.cls M.1 M.1 ∈ tb
def CI (M : MD) (n : Nat) : Prop := CB M n ∧ Cond.instanceMethod M.1 ∈ tb ∧ M.1.name = "<init>"
theorem in_L : Cond.initialized RL ∈ tb := tl_1 0 rfl rfl
theorem in_X11 : Cond.initialized RX11 ∈ tb := tl_1 1 rfl rfl
theorem in_X10 : Cond.initialized RX10 ∈ tb := tl_1 2 rfl rfl
theorem in_J9 : Cond.initialized RJ9 ∈ tb := tl_1 3 rfl rfl
theorem in_X2 : Cond.initialized RX2 ∈ tb := tl_1 4 rfl rfl
theorem in_X4 : Cond.initialized RX4 ∈ tb := tl_1 5 rfl rfl
theorem in_X9 : Cond.initialized RX9 ∈ tb := tl_1 6 rfl rfl
theorem in_X0 : Cond.initialized RX0 ∈ tb := tl_1 7 rfl rfl
theorem in_X5 : Cond.initialized RX5 ∈ tb := tl_1 8 rfl rfl
theorem in_X7 : Cond.initialized RX7 ∈ tb := tl_1 9 rfl rfl
theorem in_X6 : Cond.initialized RX6 ∈ tb := tl_1 10 rfl rfl
theorem in_X12 : Cond.initialized RX12 ∈ tb := tl_1 11 rfl rfl
theorem in_X8 : Cond.initialized RX8 ∈ tb := tl_1 12 rfl rfl
theorem in_X1 : Cond.initialized RX1 ∈ tb := tl_1 13 rfl rfl
theorem in_J6 : Cond.initialized RJ6 ∈ tb := tl_1 14 rfl rfl
theorem in_X3 : Cond.initialized RX3 ∈ tb := tl_1 15 rfl rfl
theorem in_J10 : Cond.initialized RJ10 ∈ tb := tl_1 16 rfl rfl
theorem it_X11 : Cond.instantiable RX11 12 ∈ tb := tl_1 18 rfl rfl
theorem it_X10 : Cond.instantiable RX10 2 ∈ tb := tl_1 26 rfl rfl
theorem ac_int : Cond.arrayClass .int ∈ tb := tl_1 44 rfl rfl
theorem it_X2 : Cond.instantiable RX2 3 ∈ tb := tl_1 46 rfl rfl
theorem it_X4 : Cond.instantiable RX4 3 ∈ tb := tl_1 65 rfl rfl
theorem it_X9 : Cond.instantiable RX9 3 ∈ tb := tl_1 84 rfl rfl
theorem it_X0 : Cond.instantiable RX0 10 ∈ tb := tl_1 106 rfl rfl
theorem ac_long : Cond.arrayClass .long ∈ tb := tl_1 151 rfl rfl
theorem it_X5 : Cond.instantiable RX5 11 ∈ tb := tl_1 153 rfl rfl
theorem it_X7 : Cond.instantiable RX7 3 ∈ tb := tl_1 197 rfl rfl
theorem it_X6 : Cond.instantiable RX6 4 ∈ tb := tl_1 215 rfl rfl
theorem it_X3 : Cond.instantiable RX3 1 ∈ tb := tl_3 125 rfl rfl
theorem it_X12 : Cond.instantiable RX12 27 ∈ tb := tl_4 5 rfl rfl
theorem clL_7 : Cond.classLink RL 7 RX11 ∈ tb := tl_1 17 rfl rfl
theorem lL_9 : Cond.methodLink RL 9 yX11_init ∈ tb := tl_1 19 rfl rfl
theorem lX11_1 : Cond.methodLink RX11 1 objectInit ∈ tb := tl_1 22 rfl rfl
theorem clX11_7 : Cond.classLink RX11 7 RX10 ∈ tb := tl_1 25 rfl rfl
theorem lX11_11 : Cond.methodLink RX11 11 yX10_init ∈ tb := tl_1 27 rfl rfl
theorem lX10_3 : Cond.methodLink RX10 3 objectInit ∈ tb := tl_1 30 rfl rfl
theorem lX10_9 : Cond.methodLink RX10 9 yJ9_max_7cf53 ∈ tb := tl_1 31 rfl rfl
theorem fX10_15 : FL RX10 15 8 0 := ⟨_, _, _, rfl, by decide, rfl, tl_1 34 rfl rfl⟩
theorem fX10_21 : FL RX10 21 8 1 := ⟨_, _, _, rfl, by decide, rfl, tl_1 35 rfl rfl⟩
theorem fX4_19 : FL RX4 19 8 1 := ⟨_, _, _, rfl, by decide, rfl, tl_1 36 rfl rfl⟩
theorem fX2_23 : FL RX2 23 8 1 := ⟨_, _, _, rfl, by decide, rfl, tl_1 37 rfl rfl⟩
theorem fX11_106 : FL RX11 106 8 1 := ⟨_, _, _, rfl, by decide, rfl, tl_1 38 rfl rfl⟩
theorem clX11_21 : Cond.classLink RX11 21 RX2 ∈ tb := tl_1 45 rfl rfl
theorem lX11_23 : Cond.methodLinkNest RX11 23 yX2_init "ApproverWins" ∈ lw_tbl := tm_1 47 rfl
theorem lX2_3 : Cond.methodLink RX2 3 objectInit ∈ tb := tl_1 50 rfl rfl
theorem fX2_9 : FL RX2 9 1 0 := ⟨_, _, _, rfl, by decide, rfl, tl_1 51 rfl rfl⟩
theorem fX5_29 : FL RX5 29 1 1 := ⟨_, _, _, rfl, by decide, rfl, tl_1 52 rfl rfl⟩
theorem fX2_34 : FL RX2 34 1 1 := ⟨_, _, _, rfl, by decide, rfl, tl_1 53 rfl rfl⟩
theorem fX11_238 : FL RX11 238 1 1 := ⟨_, _, _, rfl, by decide, rfl, tl_1 54 rfl rfl⟩
theorem fX2_15 : FL RX2 15 1 2 := ⟨_, _, _, rfl, by decide, rfl, tl_1 55 rfl rfl⟩
theorem fX11_109 : FL RX11 109 1 2 := ⟨_, _, _, rfl, by decide, rfl, tl_1 56 rfl rfl⟩
theorem clX11_28 : Cond.classLink RX11 28 RX4 ∈ tb := tl_1 64 rfl rfl
theorem lX11_30 : Cond.methodLinkNest RX11 30 yX4_init "ApproverWins" ∈ lw_tbl := tm_1 66 rfl
theorem lX4_3 : Cond.methodLink RX4 3 objectInit ∈ tb := tl_1 69 rfl rfl
theorem fX4_9 : FL RX4 9 3 0 := ⟨_, _, _, rfl, by decide, rfl, tl_1 70 rfl rfl⟩
theorem fX4_30 : FL RX4 30 3 1 := ⟨_, _, _, rfl, by decide, rfl, tl_1 71 rfl rfl⟩
theorem fX0_49 : FL RX0 49 3 1 := ⟨_, _, _, rfl, by decide, rfl, tl_1 72 rfl rfl⟩
theorem fX11_134 : FL RX11 134 3 1 := ⟨_, _, _, rfl, by decide, rfl, tl_1 73 rfl rfl⟩
theorem fX4_15 : FL RX4 15 3 2 := ⟨_, _, _, rfl, by decide, rfl, tl_1 74 rfl rfl⟩
theorem fX11_112 : FL RX11 112 3 2 := ⟨_, _, _, rfl, by decide, rfl, tl_1 75 rfl rfl⟩
theorem clX11_35 : Cond.classLink RX11 35 RX9 ∈ tb := tl_1 83 rfl rfl
theorem lX11_37 : Cond.methodLinkNest RX11 37 yX9_init "ApproverWins" ∈ lw_tbl := tm_1 85 rfl
theorem lX9_3 : Cond.methodLink RX9 3 objectInit ∈ tb := tl_1 88 rfl rfl
theorem fX9_9 : FL RX9 9 7 0 := ⟨_, _, _, rfl, by decide, rfl, tl_1 89 rfl rfl⟩
theorem fX11_77 : FL RX11 77 7 0 := ⟨_, _, _, rfl, by decide, rfl, tl_1 90 rfl rfl⟩
theorem fX5_44 : FL RX5 44 7 0 := ⟨_, _, _, rfl, by decide, rfl, tl_1 91 rfl rfl⟩
theorem fX9_15 : FL RX9 15 7 1 := ⟨_, _, _, rfl, by decide, rfl, tl_1 92 rfl rfl⟩
theorem fX11_81 : FL RX11 81 7 1 := ⟨_, _, _, rfl, by decide, rfl, tl_1 93 rfl rfl⟩
theorem fX5_55 : FL RX5 55 7 1 := ⟨_, _, _, rfl, by decide, rfl, tl_1 94 rfl rfl⟩
theorem fX9_18 : FL RX9 18 7 2 := ⟨_, _, _, rfl, by decide, rfl, tl_1 95 rfl rfl⟩
theorem fX5_64 : FL RX5 64 7 2 := ⟨_, _, _, rfl, by decide, rfl, tl_1 96 rfl rfl⟩
theorem fX11_201 : FL RX11 201 7 2 := ⟨_, _, _, rfl, by decide, rfl, tl_1 97 rfl rfl⟩
theorem clX11_42 : Cond.classLink RX11 42 RX0 ∈ tb := tl_1 105 rfl rfl
theorem lX11_44 : Cond.methodLinkNest RX11 44 yX0_init "ApproverWins" ∈ lw_tbl := tm_1 107 rfl
theorem lX0_3 : Cond.methodLink RX0 3 objectInit ∈ tb := tl_1 110 rfl rfl
theorem fX0_9 : FL RX0 9 0 0 := ⟨_, _, _, rfl, by decide, rfl, tl_1 111 rfl rfl⟩
theorem fX11_138 : FL RX11 138 0 0 := ⟨_, _, _, rfl, by decide, rfl, tl_1 112 rfl rfl⟩
theorem fX0_15 : FL RX0 15 0 1 := ⟨_, _, _, rfl, by decide, rfl, tl_1 113 rfl rfl⟩
theorem fX11_141 : FL RX11 141 0 1 := ⟨_, _, _, rfl, by decide, rfl, tl_1 114 rfl rfl⟩
theorem fX0_18 : FL RX0 18 0 2 := ⟨_, _, _, rfl, by decide, rfl, tl_1 115 rfl rfl⟩
theorem fX11_147 : FL RX11 147 0 2 := ⟨_, _, _, rfl, by decide, rfl, tl_1 116 rfl rfl⟩
theorem fX0_21 : FL RX0 21 0 3 := ⟨_, _, _, rfl, by decide, rfl, tl_1 117 rfl rfl⟩
theorem fX11_149 : FL RX11 149 0 3 := ⟨_, _, _, rfl, by decide, rfl, tl_1 118 rfl rfl⟩
theorem fX0_24 : FL RX0 24 0 4 := ⟨_, _, _, rfl, by decide, rfl, tl_1 119 rfl rfl⟩
theorem fX11_156 : FL RX11 156 0 4 := ⟨_, _, _, rfl, by decide, rfl, tl_1 120 rfl rfl⟩
theorem fX0_28 : FL RX0 28 0 5 := ⟨_, _, _, rfl, by decide, rfl, tl_1 121 rfl rfl⟩
theorem fX11_249 : FL RX11 249 0 5 := ⟨_, _, _, rfl, by decide, rfl, tl_1 122 rfl rfl⟩
theorem fX0_31 : FL RX0 31 0 6 := ⟨_, _, _, rfl, by decide, rfl, tl_1 123 rfl rfl⟩
theorem fX0_34 : FL RX0 34 0 7 := ⟨_, _, _, rfl, by decide, rfl, tl_1 124 rfl rfl⟩
theorem fX11_252 : FL RX11 252 0 7 := ⟨_, _, _, rfl, by decide, rfl, tl_1 125 rfl rfl⟩
theorem fX0_38 : FL RX0 38 0 8 := ⟨_, _, _, rfl, by decide, rfl, tl_1 126 rfl rfl⟩
theorem fX11_170 : FL RX11 170 0 8 := ⟨_, _, _, rfl, by decide, rfl, tl_1 127 rfl rfl⟩
theorem fX0_41 : FL RX0 41 0 9 := ⟨_, _, _, rfl, by decide, rfl, tl_1 128 rfl rfl⟩
theorem fX11_173 : FL RX11 173 0 9 := ⟨_, _, _, rfl, by decide, rfl, tl_1 129 rfl rfl⟩
theorem clX11_52 : Cond.classLink RX11 52 RX5 ∈ tb := tl_1 152 rfl rfl
theorem lX11_54 : Cond.methodLinkNest RX11 54 yX5_init "ApproverWins" ∈ lw_tbl := tm_1 154 rfl
theorem lX5_3 : Cond.methodLink RX5 3 objectInit ∈ tb := tl_1 157 rfl rfl
theorem fX5_11 : FL RX5 11 4 0 := ⟨_, _, _, rfl, by decide, rfl, tl_1 158 rfl rfl⟩
theorem fX5_15 : FL RX5 15 4 1 := ⟨_, _, _, rfl, by decide, rfl, tl_1 159 rfl rfl⟩
theorem fX5_19 : FL RX5 19 4 2 := ⟨_, _, _, rfl, by decide, rfl, tl_1 160 rfl rfl⟩
theorem fX5_22 : FL RX5 22 4 3 := ⟨_, _, _, rfl, by decide, rfl, tl_1 161 rfl rfl⟩
theorem fX11_191 : FL RX11 191 4 3 := ⟨_, _, _, rfl, by decide, rfl, tl_1 162 rfl rfl⟩
theorem fX5_41 : FL RX5 41 4 4 := ⟨_, _, _, rfl, by decide, rfl, tl_1 163 rfl rfl⟩
theorem fX5_61 : FL RX5 61 4 5 := ⟨_, _, _, rfl, by decide, rfl, tl_1 164 rfl rfl⟩
theorem fX5_52 : FL RX5 52 4 6 := ⟨_, _, _, rfl, by decide, rfl, tl_1 165 rfl rfl⟩
theorem fX5_58 : FL RX5 58 4 7 := ⟨_, _, _, rfl, by decide, rfl, tl_1 166 rfl rfl⟩
theorem fX5_84 : FL RX5 84 4 8 := ⟨_, _, _, rfl, by decide, rfl, tl_1 167 rfl rfl⟩
theorem fX11_188 : FL RX11 188 4 8 := ⟨_, _, _, rfl, by decide, rfl, tl_1 168 rfl rfl⟩
theorem fX5_80 : FL RX5 80 4 9 := ⟨_, _, _, rfl, by decide, rfl, tl_1 169 rfl rfl⟩
theorem fX11_194 : FL RX11 194 4 9 := ⟨_, _, _, rfl, by decide, rfl, tl_1 170 rfl rfl⟩
theorem fX5_25 : FL RX5 25 4 10 := ⟨_, _, _, rfl, by decide, rfl, tl_1 171 rfl rfl⟩
theorem fX11_378 : FL RX11 378 4 10 := ⟨_, _, _, rfl, by decide, rfl, tl_1 172 rfl rfl⟩
theorem clX11_59 : Cond.classLink RX11 59 RX7 ∈ tb := tl_1 196 rfl rfl
theorem lX11_61 : Cond.methodLinkNest RX11 61 yX7_init "ApproverWins" ∈ lw_tbl := tm_1 198 rfl
theorem lX7_3 : Cond.methodLink RX7 3 objectInit ∈ tb := tl_1 201 rfl rfl
theorem fX7_9 : FL RX7 9 6 0 := ⟨_, _, _, rfl, by decide, rfl, tl_1 202 rfl rfl⟩
theorem fX7_15 : FL RX7 15 6 1 := ⟨_, _, _, rfl, by decide, rfl, tl_1 203 rfl rfl⟩
theorem fX7_18 : FL RX7 18 6 2 := ⟨_, _, _, rfl, by decide, rfl, tl_1 204 rfl rfl⟩
theorem fX11_215 : FL RX11 215 6 2 := ⟨_, _, _, rfl, by decide, rfl, tl_1 205 rfl rfl⟩
theorem clX11_66 : Cond.classLink RX11 66 RX6 ∈ tb := tl_1 213 rfl rfl
theorem lX11_76 : Cond.methodLinkNest RX11 76 yX6_init "ApproverWins" ∈ lw_tbl := tm_1 216 rfl
theorem lX6_3 : Cond.methodLink RX6 3 objectInit ∈ tb := tl_1 219 rfl rfl
theorem fX6_9 : FL RX6 9 5 0 := ⟨_, _, _, rfl, by decide, rfl, tl_1 220 rfl rfl⟩
theorem fX11_227 : FL RX11 227 5 0 := ⟨_, _, _, rfl, by decide, rfl, tl_1 221 rfl rfl⟩
theorem fX6_15 : FL RX6 15 5 1 := ⟨_, _, _, rfl, by decide, rfl, tl_1 222 rfl rfl⟩
theorem fX11_219 : FL RX11 219 5 1 := ⟨_, _, _, rfl, by decide, rfl, tl_1 223 rfl rfl⟩
theorem fX6_19 : FL RX6 19 5 2 := ⟨_, _, _, rfl, by decide, rfl, tl_1 224 rfl rfl⟩
theorem fX11_272 : FL RX11 272 5 2 := ⟨_, _, _, rfl, by decide, rfl, tl_1 225 rfl rfl⟩
theorem fX6_32 : FL RX6 32 5 3 := ⟨_, _, _, rfl, by decide, rfl, tl_1 226 rfl rfl⟩
theorem fX11_226 : FL RX11 226 5 3 := ⟨_, _, _, rfl, by decide, rfl, tl_1 227 rfl rfl⟩
theorem lX11_84 : Cond.methodLink RX11 84 yX0_setOut ∈ tb := tl_1 237 rfl rfl
theorem fX11_14 : FL RX11 14 9 0 := ⟨_, _, _, rfl, by decide, rfl, tl_2 1 rfl rfl⟩
theorem fX11_18 : FL RX11 18 9 1 := ⟨_, _, _, rfl, by decide, rfl, tl_2 2 rfl rfl⟩
theorem fX11_24 : FL RX11 24 9 2 := ⟨_, _, _, rfl, by decide, rfl, tl_2 3 rfl rfl⟩
theorem fX11_31 : FL RX11 31 9 3 := ⟨_, _, _, rfl, by decide, rfl, tl_2 4 rfl rfl⟩
theorem fX11_38 : FL RX11 38 9 4 := ⟨_, _, _, rfl, by decide, rfl, tl_2 5 rfl rfl⟩
theorem fX11_45 : FL RX11 45 9 5 := ⟨_, _, _, rfl, by decide, rfl, tl_2 6 rfl rfl⟩
theorem fX11_49 : FL RX11 49 9 6 := ⟨_, _, _, rfl, by decide, rfl, tl_2 7 rfl rfl⟩
theorem fX11_55 : FL RX11 55 9 7 := ⟨_, _, _, rfl, by decide, rfl, tl_2 8 rfl rfl⟩
theorem fX11_62 : FL RX11 62 9 8 := ⟨_, _, _, rfl, by decide, rfl, tl_2 9 rfl rfl⟩
theorem fX11_68 : FL RX11 68 9 9 := ⟨_, _, _, rfl, by decide, rfl, tl_2 10 rfl rfl⟩
theorem fX11_72 : FL RX11 72 9 10 := ⟨_, _, _, rfl, by decide, rfl, tl_2 11 rfl rfl⟩
theorem fX11_269 : FL RX11 269 9 11 := ⟨_, _, _, rfl, by decide, rfl, tl_2 12 rfl rfl⟩
theorem lL_13 : Cond.methodLink RL 13 yX11_type ∈ tb := tl_2 38 rfl rfl
theorem lX11_88 : Cond.methodLink RX11 88 yX11_isText ∈ tb := tl_2 42 rfl rfl
theorem lX11_92 : Cond.methodLink RX11 92 yX11_textOf ∈ tb := tl_2 45 rfl rfl
theorem lX11_96 : Cond.methodLink RX11 96 yX10_isFull ∈ tb := tl_2 49 rfl rfl
theorem lX11_100 : Cond.methodLink RX11 100 yX10_push ∈ tb := tl_2 53 rfl rfl
theorem lX11_103 : Cond.methodLink RX11 103 yX11_readAnew ∈ tb := tl_2 57 rfl rfl
theorem lX11_373 : Cond.methodLink RX11 373 yX2_parse ∈ tb := tl_2 61 rfl rfl
theorem lX2_19 : Cond.methodLink RX2 19 yX2_placeOfFault ∈ tb := tl_2 65 rfl rfl
theorem lX2_35 : Cond.methodLink RX2 35 yX10_byteAt ∈ tb := tl_2 68 rfl rfl
theorem lX2_42 : Cond.methodLink RX2 42 yX2_fits ∈ tb := tl_2 72 rfl rfl
theorem lX2_39 : Cond.methodLink RX2 39 yX2_kindOf ∈ tb := tl_2 75 rfl rfl
theorem lX2_28 : Cond.methodLink RX2 28 yJ9_min_7cf53 ∈ tb := tl_2 78 rfl rfl
theorem lX11_377 : Cond.methodLink RX11 377 yX4_parse ∈ tb := tl_2 81 rfl rfl
theorem lX4_24 : Cond.methodLink RX4 24 yJ9_min_7cf53 ∈ tb := tl_2 85 rfl rfl
theorem lX4_31 : Cond.methodLink RX4 31 yX10_byteAt ∈ tb := tl_2 86 rfl rfl
theorem lX11_131 : Cond.methodLink RX11 131 yX11_reckonAnew ∈ tb := tl_2 87 rfl rfl
theorem lX11_204 : Cond.methodLink RX11 204 yX0_walk ∈ tb := tl_2 91 rfl rfl
theorem lX0_45 : Cond.methodLink RX0 45 yX0_setOut ∈ tb := tl_2 95 rfl rfl
theorem lX0_54 : Cond.methodLink RX0 54 yX4_whoAt ∈ tb := tl_2 96 rfl rfl
theorem lX0_58 : Cond.methodLink RX0 58 yX2_has ∈ tb := tl_2 100 rfl rfl
theorem lX0_64 : Cond.methodLink RX0 64 yX0_fateOf ∈ tb := tl_2 104 rfl rfl
theorem lX0_67 : Cond.methodLink RX0 67 yX2_answerOf ∈ tb := tl_2 108 rfl rfl
theorem lX2_50 : Cond.methodLink RX2 50 yX2_part ∈ tb := tl_2 112 rfl rfl
theorem lX0_71 : Cond.methodLink RX0 71 yX0_markFate ∈ tb := tl_2 116 rfl rfl
theorem lX0_74 : Cond.methodLink RX0 74 yX2_part ∈ tb := tl_2 120 rfl rfl
theorem lX0_77 : Cond.methodLink RX0 77 yX0_stepBehind ∈ tb := tl_2 121 rfl rfl
theorem lX0_81 : Cond.methodLink RX0 81 yX8_sixteenths ∈ tb := tl_2 125 rfl rfl
theorem lX8_11 : Cond.methodLink RX8 11 yJ9_min_7cf53 ∈ tb := tl_2 128 rfl rfl
theorem lX8_17 : Cond.methodLink RX8 17 yJ9_max_7cf53 ∈ tb := tl_2 129 rfl rfl
theorem lX0_86 : Cond.methodLink RX0 86 yX8_strongBehind ∈ tb := tl_2 130 rfl rfl
theorem lX0_89 : Cond.methodLink RX0 89 yX8_isWin ∈ tb := tl_2 133 rfl rfl
theorem lL_18 : Cond.methodLink RL 18 yX11_wipe ∈ tb := tl_2 136 rfl rfl
theorem lL_23 : Cond.methodLink RL 23 yX11_undo ∈ tb := tl_2 140 rfl rfl
theorem lL_27 : Cond.methodLink RL 27 yX11_fault ∈ tb := tl_2 144 rfl rfl
theorem lL_31 : Cond.methodLink RL 31 yX11_felon ∈ tb := tl_2 148 rfl rfl
theorem lX11_113 : Cond.methodLink RX11 113 yX2_has ∈ tb := tl_2 152 rfl rfl
theorem lX11_116 : Cond.methodLink RX11 116 yX2_part ∈ tb := tl_2 153 rfl rfl
theorem lL_35 : Cond.methodLink RL 35 yX11_name ∈ tb := tl_2 154 rfl rfl
theorem lX11_120 : Cond.methodLink RX11 120 yX4_whoAt ∈ tb := tl_2 158 rfl rfl
theorem lL_39 : Cond.methodLink RL 39 yX11_set ∈ tb := tl_2 159 rfl rfl
theorem lX11_124 : Cond.methodLink RX11 124 yX9_allows ∈ tb := tl_2 163 rfl rfl
theorem lX11_128 : Cond.methodLink RX11 128 yX9_change ∈ tb := tl_2 166 rfl rfl
theorem lL_43 : Cond.methodLink RL 43 yX11_comes ∈ tb := tl_2 170 rfl rfl
theorem lX11_135 : Cond.methodLink RX11 135 yX11_isEither ∈ tb := tl_2 174 rfl rfl
theorem lL_47 : Cond.methodLink RL 47 yX11_behind ∈ tb := tl_2 177 rfl rfl
theorem lX11_144 : Cond.methodLink RX11 144 yX11_isNumberOfNames ∈ tb := tl_2 181 rfl rfl
theorem lL_51 : Cond.methodLink RL 51 yX11_alive ∈ tb := tl_2 185 rfl rfl
theorem lX11_152 : Cond.methodLink RX11 152 yX11_longRefusal ∈ tb := tl_2 189 rfl rfl
theorem kX11_371 : Cond.constantLong RX11 371 (-9223372036854775808) ∈ tb := tl_2 192 rfl rfl
theorem lX11_162 : Cond.methodLink RX11 162 yX1_told ∈ tb := tl_2 193 rfl rfl
theorem lL_56 : Cond.methodLink RL 56 yX11_lives ∈ tb := tl_2 196 rfl rfl
theorem lX11_166 : Cond.methodLink RX11 166 yX0_livesAbove ∈ tb := tl_2 200 rfl rfl
theorem lX0_94 : Cond.methodLink RX0 94 yX0_hasAllWins ∈ tb := tl_2 204 rfl rfl
theorem lL_61 : Cond.methodLink RL 61 yX11_harm ∈ tb := tl_2 208 rfl rfl
theorem lL_65 : Cond.methodLink RL 65 yX11_worst ∈ tb := tl_2 212 rfl rfl
theorem lX11_177 : Cond.methodLink RX11 177 yX0_fewestSixteenths ∈ tb := tl_2 216 rfl rfl
theorem lL_70 : Cond.methodLink RL 70 yX11_fate ∈ tb := tl_2 220 rfl rfl
theorem lX11_181 : Cond.methodLink RX11 181 yX0_fateOf ∈ tb := tl_2 224 rfl rfl
theorem lL_74 : Cond.methodLink RL 74 yX11_order ∈ tb := tl_2 225 rfl rfl
theorem lX11_184 : Cond.methodLink RX11 184 yX5_makeOnce ∈ tb := tl_2 229 rfl rfl
theorem lX5_35 : Cond.methodLink RX5 35 yJ9_min_7cf53 ∈ tb := tl_2 233 rfl rfl
theorem lX5_49 : Cond.methodLink RX5 49 yJ9_max_7cf53 ∈ tb := tl_2 234 rfl rfl
theorem lX5_67 : Cond.methodLink RX5 67 yX2_answerOf ∈ tb := tl_2 235 rfl rfl
theorem lX5_70 : Cond.methodLink RX5 70 yX2_part ∈ tb := tl_2 236 rfl rfl
theorem lX5_73 : Cond.methodLink RX5 73 yX5_prepare ∈ tb := tl_2 237 rfl rfl
theorem lX5_90 : Cond.methodLink RX5 90 yX8_isWin ∈ tb := tl_3 1 rfl rfl
theorem lX5_96 : Cond.methodLink RX5 96 yX8_sixteenths ∈ tb := tl_3 2 rfl rfl
theorem lX5_100 : Cond.methodLink RX5 100 yX8_strongBehind ∈ tb := tl_3 3 rfl rfl
theorem lX5_77 : Cond.methodLink RX5 77 yX5_fillValues ∈ tb := tl_3 4 rfl rfl
theorem lX5_108 : Cond.methodLink RX5 108 yX5_winsOf ∈ tb := tl_3 8 rfl rfl
theorem lX5_102 : Cond.methodLink RX5 102 yJ6_bitCount_0f7a4 ∈ tb := tl_3 12 rfl rfl
theorem kJ6_265 : Cond.constant RJ6 265 (1431655765) ∈ tb := tl_3 15 rfl rfl
theorem kJ6_266 : Cond.constant RJ6 266 (858993459) ∈ tb := tl_3 16 rfl rfl
theorem kJ6_267 : Cond.constant RJ6 267 (252645135) ∈ tb := tl_3 17 rfl rfl
theorem lX5_111 : Cond.methodLink RX5 111 yX5_mostBehind ∈ tb := tl_3 18 rfl rfl
theorem lX5_115 : Cond.methodLink RX5 115 yX5_valueIfNext ∈ tb := tl_3 22 rfl rfl
theorem lX5_119 : Cond.methodLink RX5 119 yJ9_max_f86c9 ∈ tb := tl_3 26 rfl rfl
theorem lX5_87 : Cond.methodLink RX5 87 yX5_layRow ∈ tb := tl_3 29 rfl rfl
theorem lX5_122 : Cond.methodLink RX5 122 yX5_leastNext ∈ tb := tl_3 33 rfl rfl
theorem lL_78 : Cond.methodLink RL 78 yX11_best ∈ tb := tl_3 37 rfl rfl
theorem lL_82 : Cond.methodLink RL 82 yX11_price ∈ tb := tl_3 41 rfl rfl
theorem kX11_196 : Cond.constantLong RX11 196 (-1) ∈ tb := tl_3 45 rfl rfl
theorem lX11_198 : Cond.methodLink RX11 198 yX11_tryBribe ∈ tb := tl_3 46 rfl rfl
theorem lL_86 : Cond.methodLink RL 86 yX11_rule ∈ tb := tl_3 50 rfl rfl
theorem kX11_208 : Cond.constantLong RX11 208 (16) ∈ tb := tl_3 54 rfl rfl
theorem lL_90 : Cond.methodLink RL 90 yX11_chain ∈ tb := tl_3 55 rfl rfl
theorem lL_94 : Cond.methodLink RL 94 yX11_seen ∈ tb := tl_3 59 rfl rfl
theorem lX11_210 : Cond.methodLink RX11 210 yX7_allows ∈ tb := tl_3 63 rfl rfl
theorem lX11_211 : Cond.methodLink RX11 211 yX7_isFull ∈ tb := tl_3 66 rfl rfl
theorem lX11_212 : Cond.methodLink RX11 212 yX7_add ∈ tb := tl_3 70 rfl rfl
theorem lL_98 : Cond.methodLink RL 98 yX11_forget ∈ tb := tl_3 74 rfl rfl
theorem lL_102 : Cond.methodLink RL 102 yX11_read ∈ tb := tl_3 78 rfl rfl
theorem lX11_216 : Cond.methodLink RX11 216 yX11_isSheet ∈ tb := tl_3 82 rfl rfl
theorem lX11_223 : Cond.methodLink RX11 223 yX11_finding ∈ tb := tl_3 85 rfl rfl
theorem lL_106 : Cond.methodLink RL 106 yX11_bribes ∈ tb := tl_3 89 rfl rfl
theorem lX11_228 : Cond.methodLink RX11 228 yX7_comeOutBy ∈ tb := tl_3 93 rfl rfl
theorem lX7_22 : Cond.methodLink RX7 22 yX0_fateOf ∈ tb := tl_3 97 rfl rfl
theorem lL_110 : Cond.methodLink RL 110 yX11_kinds ∈ tb := tl_3 98 rfl rfl
theorem lX11_232 : Cond.methodLink RX11 232 yX2_putKind ∈ tb := tl_3 102 rfl rfl
theorem lX2_46 : Cond.methodLink RX2 46 yX2_has ∈ tb := tl_3 106 rfl rfl
theorem lL_114 : Cond.methodLink RL 114 yX11_ask ∈ tb := tl_3 107 rfl rfl
theorem lX11_235 : Cond.methodLink RX11 235 yX11_tallyFates ∈ tb := tl_3 111 rfl rfl
theorem lX11_239 : Cond.methodLink RX11 239 yX11_mostAlike ∈ tb := tl_3 115 rfl rfl
theorem lX11_381 : Cond.methodLink RX11 381 yJ9_max_7cf53 ∈ tb := tl_3 119 rfl rfl
theorem lL_118 : Cond.methodLink RL 118 yX11_gaols ∈ tb := tl_3 120 rfl rfl
theorem clX11_242 : Cond.classLink RX11 242 RX3 ∈ tb := tl_3 124 rfl rfl
theorem lX11_244 : Cond.methodLink RX11 244 yX3_init ∈ tb := tl_3 126 rfl rfl
theorem lX3_1 : Cond.methodLink RX3 1 objectInit ∈ tb := tl_3 129 rfl rfl
theorem fX3_7 : FL RX3 7 2 0 := ⟨_, _, _, rfl, by decide, rfl, tl_3 130 rfl rfl⟩
theorem lX11_245 : Cond.methodLink RX11 245 yX0_playTill ∈ tb := tl_3 134 rfl rfl
theorem lX0_98 : Cond.methodLink RX0 98 yX3_draw ∈ tb := tl_3 138 rfl rfl
theorem kX3_13 : Cond.constant RX3 13 (1103515245) ∈ tb := tl_3 142 rfl rfl
theorem lX11_253 : Cond.methodLink RX11 253 yX0_hasAllWins ∈ tb := tl_3 143 rfl rfl
theorem lL_123 : Cond.methodLink RL 123 yX11_sheet ∈ tb := tl_3 144 rfl rfl
theorem lX11_256 : Cond.methodLink RX11 256 yX11_isForm ∈ tb := tl_3 148 rfl rfl
theorem lX11_259 : Cond.methodLink RX11 259 yX6_renew ∈ tb := tl_3 151 rfl rfl
theorem lX6_23 : Cond.methodLink RX6 23 yJ9_min_7cf53 ∈ tb := tl_3 155 rfl rfl
theorem lX6_29 : Cond.methodLink RX6 29 yJ9_max_7cf53 ∈ tb := tl_3 156 rfl rfl
theorem lL_127 : Cond.methodLink RL 127 yX11_lose ∈ tb := tl_3 157 rfl rfl
theorem lL_131 : Cond.methodLink RL 131 yX11_lay ∈ tb := tl_3 161 rfl rfl
theorem lX11_262 : Cond.methodLink RX11 262 yX6_findingAt ∈ tb := tl_3 165 rfl rfl
theorem lX11_265 : Cond.methodLink RX11 265 yX6_put ∈ tb := tl_3 169 rfl rfl
theorem lL_136 : Cond.methodLink RL 136 yX11_get ∈ tb := tl_3 173 rfl rfl
theorem kX11_268 : Cond.constant RX11 268 (-2147483648) ∈ tb := tl_3 177 rfl rfl
theorem lL_140 : Cond.methodLink RL 140 yX11_copy ∈ tb := tl_3 178 rfl rfl
theorem lX11_275 : Cond.methodLink RX11 275 yX6_hasStretch ∈ tb := tl_3 182 rfl rfl
theorem lX11_278 : Cond.methodLink RX11 278 arraycopyName ∈ tb := tl_3 186 rfl rfl
theorem lL_145 : Cond.methodLink RL 145 yX11_write ∈ tb := tl_3 189 rfl rfl
theorem lX11_284 : Cond.methodLink RX11 284 yJ9_min_7cf53 ∈ tb := tl_3 193 rfl rfl
theorem lL_149 : Cond.methodLink RL 149 yX11_count ∈ tb := tl_3 194 rfl rfl
theorem lX11_289 : Cond.methodLink RX11 289 yX0_numberOfFights ∈ tb := tl_3 198 rfl rfl
theorem lX11_292 : Cond.methodLink RX11 292 yX0_numberNotVoid ∈ tb := tl_3 202 rfl rfl
theorem lL_153 : Cond.methodLink RL 153 yX11_digest ∈ tb := tl_3 206 rfl rfl
theorem kX11_295 : Cond.constantLong RX11 295 (17) ∈ tb := tl_3 210 rfl rfl
theorem kX11_297 : Cond.constantLong RX11 297 (31) ∈ tb := tl_3 211 rfl rfl
theorem lX11_299 : Cond.methodLink RX11 299 yX11_count ∈ tb := tl_3 212 rfl rfl
theorem lX11_302 : Cond.methodLink RX11 302 yX11_fault ∈ tb := tl_3 213 rfl rfl
theorem lX11_305 : Cond.methodLink RX11 305 yX11_digestOfFelons ∈ tb := tl_3 214 rfl rfl
theorem lX11_325 : Cond.methodLink RX11 325 yX11_felon ∈ tb := tl_3 218 rfl rfl
theorem lX11_328 : Cond.methodLink RX11 328 yX11_fate ∈ tb := tl_3 219 rfl rfl
theorem lX11_331 : Cond.methodLink RX11 331 yX11_chain ∈ tb := tl_3 220 rfl rfl
theorem lX11_334 : Cond.methodLink RX11 334 yX11_kinds ∈ tb := tl_3 221 rfl rfl
theorem lX11_309 : Cond.methodLink RX11 309 yX11_digestOfNames ∈ tb := tl_3 222 rfl rfl
theorem lX11_337 : Cond.methodLink RX11 337 yX11_name ∈ tb := tl_3 226 rfl rfl
theorem lX11_340 : Cond.methodLink RX11 340 yX11_comes ∈ tb := tl_3 227 rfl rfl
theorem lX11_343 : Cond.methodLink RX11 343 yX11_behind ∈ tb := tl_3 228 rfl rfl
theorem lX11_346 : Cond.methodLink RX11 346 yX11_alive ∈ tb := tl_3 229 rfl rfl
theorem lX11_312 : Cond.methodLink RX11 312 yX11_digestOfPlans ∈ tb := tl_3 230 rfl rfl
theorem lX11_350 : Cond.methodLink RX11 350 yX11_lives ∈ tb := tl_3 234 rfl rfl
theorem lX11_353 : Cond.methodLink RX11 353 yX11_harm ∈ tb := tl_3 235 rfl rfl
theorem lX11_356 : Cond.methodLink RX11 356 yX11_worst ∈ tb := tl_3 236 rfl rfl
theorem lX11_359 : Cond.methodLink RX11 359 yX11_order ∈ tb := tl_3 237 rfl rfl
theorem lX11_362 : Cond.methodLink RX11 362 yX11_best ∈ tb := tl_3 238 rfl rfl
theorem lX11_365 : Cond.methodLink RX11 365 yX11_price ∈ tb := tl_3 239 rfl rfl
theorem lX11_368 : Cond.methodLink RX11 368 yX11_rule ∈ tb := tl_4 0 rfl rfl
theorem lX11_315 : Cond.methodLink RX11 315 yX11_bribes ∈ tb := tl_4 1 rfl rfl
theorem lX11_318 : Cond.methodLink RX11 318 yX11_ask ∈ tb := tl_4 2 rfl rfl
theorem lX11_321 : Cond.methodLink RX11 321 yX11_gaols ∈ tb := tl_4 3 rfl rfl
theorem clL_10 : Cond.classLink RL 10 RX12 ∈ tb := tl_4 4 rfl rfl
theorem lL_12 : Cond.methodLink RL 12 yX12_init ∈ tb := tl_4 6 rfl rfl
theorem lX12_1 : Cond.methodLink RX12 1 objectInit ∈ tb := tl_4 9 rfl rfl
theorem fX12_7 : FL RX12 7 10 0 := ⟨_, _, _, rfl, by decide, rfl, tl_4 10 rfl rfl⟩
theorem fX12_13 : FL RX12 13 10 1 := ⟨_, _, _, rfl, by decide, rfl, tl_4 11 rfl rfl⟩
theorem fX12_16 : FL RX12 16 10 2 := ⟨_, _, _, rfl, by decide, rfl, tl_4 12 rfl rfl⟩
theorem fX12_19 : FL RX12 19 10 3 := ⟨_, _, _, rfl, by decide, rfl, tl_4 13 rfl rfl⟩
theorem fX12_77 : FL RX12 77 10 4 := ⟨_, _, _, rfl, by decide, rfl, tl_4 14 rfl rfl⟩
theorem fX12_22 : FL RX12 22 10 5 := ⟨_, _, _, rfl, by decide, rfl, tl_4 15 rfl rfl⟩
theorem fX12_25 : FL RX12 25 10 6 := ⟨_, _, _, rfl, by decide, rfl, tl_4 16 rfl rfl⟩
theorem fX12_112 : FL RX12 112 10 7 := ⟨_, _, _, rfl, by decide, rfl, tl_4 17 rfl rfl⟩
theorem fX12_28 : FL RX12 28 10 8 := ⟨_, _, _, rfl, by decide, rfl, tl_4 18 rfl rfl⟩
theorem fX12_118 : FL RX12 118 10 9 := ⟨_, _, _, rfl, by decide, rfl, tl_4 19 rfl rfl⟩
theorem fX12_31 : FL RX12 31 10 10 := ⟨_, _, _, rfl, by decide, rfl, tl_4 20 rfl rfl⟩
theorem fX12_34 : FL RX12 34 10 11 := ⟨_, _, _, rfl, by decide, rfl, tl_4 21 rfl rfl⟩
theorem fX12_37 : FL RX12 37 10 12 := ⟨_, _, _, rfl, by decide, rfl, tl_4 22 rfl rfl⟩
theorem fX12_40 : FL RX12 40 10 13 := ⟨_, _, _, rfl, by decide, rfl, tl_4 23 rfl rfl⟩
theorem fX12_43 : FL RX12 43 10 14 := ⟨_, _, _, rfl, by decide, rfl, tl_4 24 rfl rfl⟩
theorem fX12_46 : FL RX12 46 10 15 := ⟨_, _, _, rfl, by decide, rfl, tl_4 25 rfl rfl⟩
theorem fX12_49 : FL RX12 49 10 16 := ⟨_, _, _, rfl, by decide, rfl, tl_4 26 rfl rfl⟩
theorem fX12_52 : FL RX12 52 10 17 := ⟨_, _, _, rfl, by decide, rfl, tl_4 27 rfl rfl⟩
theorem fX12_55 : FL RX12 55 10 18 := ⟨_, _, _, rfl, by decide, rfl, tl_4 28 rfl rfl⟩
theorem fX12_58 : FL RX12 58 10 19 := ⟨_, _, _, rfl, by decide, rfl, tl_4 29 rfl rfl⟩
theorem fX12_62 : FL RX12 62 10 20 := ⟨_, _, _, rfl, by decide, rfl, tl_4 30 rfl rfl⟩
theorem fX12_210 : FL RX12 210 10 21 := ⟨_, _, _, rfl, by decide, rfl, tl_4 31 rfl rfl⟩
theorem fX12_206 : FL RX12 206 10 22 := ⟨_, _, _, rfl, by decide, rfl, tl_4 32 rfl rfl⟩
theorem fX12_240 : FL RX12 240 10 23 := ⟨_, _, _, rfl, by decide, rfl, tl_4 33 rfl rfl⟩
theorem fX12_65 : FL RX12 65 10 24 := ⟨_, _, _, rfl, by decide, rfl, tl_4 34 rfl rfl⟩
theorem fX12_68 : FL RX12 68 10 25 := ⟨_, _, _, rfl, by decide, rfl, tl_4 35 rfl rfl⟩
theorem fX12_260 : FL RX12 260 10 26 := ⟨_, _, _, rfl, by decide, rfl, tl_4 36 rfl rfl⟩
theorem lL_126 : Cond.methodLink RL 126 yX12_sheet ∈ tb := tl_4 92 rfl rfl
theorem lX12_83 : Cond.methodLink RX12 83 yX12_isSheet ∈ tb := tl_4 96 rfl rfl
theorem kX12_81 : Cond.constantLong RX12 81 (3) ∈ tb := tl_4 99 rfl rfl
theorem lX12_73 : Cond.methodLink RX12 73 yX12_in ∈ tb := tl_4 100 rfl rfl
theorem kX12_87 : Cond.constantLong RX12 87 (2) ∈ tb := tl_4 103 rfl rfl
theorem lX12_89 : Cond.methodLink RX12 89 yX12_finds ∈ tb := tl_4 104 rfl rfl
theorem lL_130 : Cond.methodLink RL 130 yX12_lose ∈ tb := tl_4 108 rfl rfl
theorem lL_135 : Cond.methodLink RL 135 yX12_lay ∈ tb := tl_4 112 rfl rfl
theorem lX12_93 : Cond.methodLink RX12 93 yX12_lacks ∈ tb := tl_4 116 rfl rfl
theorem lX12_97 : Cond.methodLink RX12 97 yX12_cut ∈ tb := tl_4 120 rfl rfl
theorem lL_139 : Cond.methodLink RL 139 yX12_get ∈ tb := tl_4 123 rfl rfl
theorem kX12_101 : Cond.constant RX12 101 (-2147483648) ∈ tb := tl_4 127 rfl rfl
theorem lL_144 : Cond.methodLink RL 144 yX12_copy ∈ tb := tl_4 128 rfl rfl
theorem lL_17 : Cond.methodLink RL 17 yX12_type ∈ tb := tl_4 132 rfl rfl
theorem lX12_102 : Cond.methodLink RX12 102 yX12_isTwo ∈ tb := tl_4 136 rfl rfl
theorem kX12_105 : Cond.constantLong RX12 105 (255) ∈ tb := tl_4 139 rfl rfl
theorem lL_22 : Cond.methodLink RL 22 yX12_wipe ∈ tb := tl_4 140 rfl rfl
theorem lL_26 : Cond.methodLink RL 26 yX12_undo ∈ tb := tl_4 144 rfl rfl
theorem lL_30 : Cond.methodLink RL 30 yX12_fault ∈ tb := tl_4 148 rfl rfl
theorem lX12_125 : Cond.methodLink RX12 125 yX12_readsFelons ∈ tb := tl_4 152 rfl rfl
theorem lX12_115 : Cond.methodLink RX12 115 yX12_felonOf ∈ tb := tl_4 156 rfl rfl
theorem lX12_109 : Cond.methodLink RX12 109 yX12_figureOf ∈ tb := tl_4 159 rfl rfl
theorem kX12_107 : Cond.constantLong RX12 107 (48) ∈ tb := tl_4 162 rfl rfl
theorem lX12_129 : Cond.methodLink RX12 129 yX12_readsNames ∈ tb := tl_4 163 rfl rfl
theorem kX12_121 : Cond.constantLong RX12 121 (97) ∈ tb := tl_4 167 rfl rfl
theorem kX12_123 : Cond.constantLong RX12 123 (104) ∈ tb := tl_4 168 rfl rfl
theorem lL_34 : Cond.methodLink RL 34 yX12_felon ∈ tb := tl_4 169 rfl rfl
theorem lX12_132 : Cond.methodLink RX12 132 yX12_isFelon ∈ tb := tl_4 173 rfl rfl
theorem kX12_135 : Cond.constantLong RX12 135 (4) ∈ tb := tl_4 177 rfl rfl
theorem lL_38 : Cond.methodLink RL 38 yX12_name ∈ tb := tl_4 178 rfl rfl
theorem kX12_137 : Cond.constantLong RX12 137 (11) ∈ tb := tl_4 182 rfl rfl
theorem lL_42 : Cond.methodLink RL 42 yX12_set ∈ tb := tl_4 183 rfl rfl
theorem kX12_139 : Cond.constantLong RX12 139 (8) ∈ tb := tl_4 187 rfl rfl
theorem kX12_141 : Cond.constantLong RX12 141 (9) ∈ tb := tl_4 188 rfl rfl
theorem lL_46 : Cond.methodLink RL 46 yX12_comes ∈ tb := tl_4 189 rfl rfl
theorem lX12_165 : Cond.methodLink RX12 165 yX12_find ∈ tb := tl_4 193 rfl rfl
theorem lX12_162 : Cond.methodLink RX12 162 yX12_goes ∈ tb := tl_4 197 rfl rfl
theorem lX12_149 : Cond.methodLink RX12 149 yX12_isIn ∈ tb := tl_4 201 rfl rfl
theorem lX12_153 : Cond.methodLink RX12 153 yX12_endOf ∈ tb := tl_4 204 rfl rfl
theorem lX12_156 : Cond.methodLink RX12 156 yX12_winsBy ∈ tb := tl_4 208 rfl rfl
theorem lX12_143 : Cond.methodLink RX12 143 yX12_greater ∈ tb := tl_4 212 rfl rfl
theorem lX12_146 : Cond.methodLink RX12 146 yX12_lesser ∈ tb := tl_4 215 rfl rfl
theorem lX12_159 : Cond.methodLink RX12 159 yX12_strongBehind ∈ tb := tl_4 218 rfl rfl
theorem lL_50 : Cond.methodLink RL 50 yX12_behind ∈ tb := tl_4 222 rfl rfl
theorem lX12_168 : Cond.methodLink RX12 168 yX12_behindOf ∈ tb := tl_4 226 rfl rfl
theorem lL_55 : Cond.methodLink RL 55 yX12_alive ∈ tb := tl_4 230 rfl rfl
theorem lX12_177 : Cond.methodLink RX12 177 yX12_aliveOf ∈ tb := tl_4 234 rfl rfl
theorem lX12_181 : Cond.methodLink RX12 181 yX12_tells ∈ tb := tl_4 238 rfl rfl
theorem kX12_171 : Cond.constantLong RX12 171 (4294967296) ∈ tb := tl_5 1 rfl rfl
theorem lX12_173 : Cond.methodLink RX12 173 yX12_part ∈ tb := tl_5 2 rfl rfl
theorem lX12_185 : Cond.methodLink RX12 185 yX12_no ∈ tb := tl_5 5 rfl rfl
theorem kX12_71 : Cond.constantLong RX12 71 (-9223372036854775808) ∈ tb := tl_5 8 rfl rfl
theorem lL_60 : Cond.methodLink RL 60 yX12_lives ∈ tb := tl_5 9 rfl rfl
theorem lX12_188 : Cond.methodLink RX12 188 yX12_livesNow ∈ tb := tl_5 13 rfl rfl
theorem lL_64 : Cond.methodLink RL 64 yX12_harm ∈ tb := tl_5 17 rfl rfl
theorem lX12_195 : Cond.methodLink RX12 195 yX12_harmNow ∈ tb := tl_5 21 rfl rfl
theorem lX12_192 : Cond.methodLink RX12 192 yX12_isHarmed ∈ tb := tl_5 25 rfl rfl
theorem lL_69 : Cond.methodLink RL 69 yX12_worst ∈ tb := tl_5 29 rfl rfl
theorem lX12_198 : Cond.methodLink RX12 198 yX12_worstNow ∈ tb := tl_5 33 rfl rfl
theorem lL_73 : Cond.methodLink RL 73 yX12_fate ∈ tb := tl_5 37 rfl rfl
theorem lX12_201 : Cond.methodLink RX12 201 yX12_fateOf ∈ tb := tl_5 41 rfl rfl
theorem lL_77 : Cond.methodLink RL 77 yX12_order ∈ tb := tl_5 45 rfl rfl
theorem kX12_221 : Cond.constantLong RX12 221 (-1) ∈ tb := tl_5 49 rfl rfl
theorem kX12_223 : Cond.constantLong RX12 223 (7) ∈ tb := tl_5 50 rfl rfl
theorem lX12_225 : Cond.methodLink RX12 225 yX12_findOrder ∈ tb := tl_5 51 rfl rfl
theorem lX12_213 : Cond.methodLink RX12 213 yX12_adds ∈ tb := tl_5 55 rfl rfl
theorem kX12_204 : Cond.constantLong RX12 204 (16) ∈ tb := tl_5 59 rfl rfl
theorem lX12_217 : Cond.methodLink RX12 217 yX12_keeps ∈ tb := tl_5 60 rfl rfl
theorem lX12_228 : Cond.methodLink RX12 228 yX12_orderBy ∈ tb := tl_5 64 rfl rfl
theorem lL_81 : Cond.methodLink RL 81 yX12_best ∈ tb := tl_5 68 rfl rfl
theorem lL_85 : Cond.methodLink RL 85 yX12_price ∈ tb := tl_5 72 rfl rfl
theorem lX12_231 : Cond.methodLink RX12 231 yX12_priceNow ∈ tb := tl_5 76 rfl rfl
theorem lL_89 : Cond.methodLink RL 89 yX12_rule ∈ tb := tl_5 80 rfl rfl
theorem lX12_234 : Cond.methodLink RX12 234 yX12_ruleOf ∈ tb := tl_5 84 rfl rfl
theorem lL_93 : Cond.methodLink RL 93 yX12_chain ∈ tb := tl_5 88 rfl rfl
theorem lX12_237 : Cond.methodLink RX12 237 yX12_chainOf ∈ tb := tl_5 92 rfl rfl
theorem lL_97 : Cond.methodLink RL 97 yX12_seen ∈ tb := tl_5 96 rfl rfl
theorem lL_101 : Cond.methodLink RL 101 yX12_forget ∈ tb := tl_5 100 rfl rfl
theorem lL_105 : Cond.methodLink RL 105 yX12_read ∈ tb := tl_5 104 rfl rfl
theorem lX12_243 : Cond.methodLink RX12 243 yX12_seen ∈ tb := tl_5 108 rfl rfl
theorem lL_109 : Cond.methodLink RL 109 yX12_bribes ∈ tb := tl_5 109 rfl rfl
theorem lX12_250 : Cond.methodLink RX12 250 yX12_bribesNow ∈ tb := tl_5 113 rfl rfl
theorem lX12_246 : Cond.methodLink RX12 246 yX12_isSeen ∈ tb := tl_5 117 rfl rfl
theorem lL_113 : Cond.methodLink RL 113 yX12_kinds ∈ tb := tl_5 121 rfl rfl
theorem lX12_253 : Cond.methodLink RX12 253 yX12_kindsOf ∈ tb := tl_5 125 rfl rfl
theorem lL_117 : Cond.methodLink RL 117 yX12_ask ∈ tb := tl_5 129 rfl rfl
theorem lX12_256 : Cond.methodLink RX12 256 yX12_askNow ∈ tb := tl_5 133 rfl rfl
theorem lL_122 : Cond.methodLink RL 122 yX12_gaols ∈ tb := tl_5 137 rfl rfl
theorem kX12_266 : Cond.constantLong RX12 266 (99) ∈ tb := tl_5 141 rfl rfl
theorem lX12_268 : Cond.methodLink RX12 268 yX12_gaolsOf ∈ tb := tl_5 142 rfl rfl
theorem lX12_263 : Cond.methodLink RX12 263 yX12_lot ∈ tb := tl_5 146 rfl rfl
theorem kX12_259 : Cond.constant RX12 259 (1103515245) ∈ tb := tl_5 150 rfl rfl
theorem lL_148 : Cond.methodLink RL 148 yX12_write ∈ tb := tl_5 151 rfl rfl
theorem lL_152 : Cond.methodLink RL 152 yX12_count ∈ tb := tl_5 155 rfl rfl
theorem lX12_271 : Cond.methodLink RX12 271 yX12_fights ∈ tb := tl_5 159 rfl rfl
theorem lX12_274 : Cond.methodLink RX12 274 yX12_named ∈ tb := tl_5 163 rfl rfl
theorem lL_157 : Cond.methodLink RL 157 yX12_digest ∈ tb := tl_5 167 rfl rfl
theorem kX12_279 : Cond.constantLong RX12 279 (17) ∈ tb := tl_5 171 rfl rfl
theorem kX12_277 : Cond.constantLong RX12 277 (31) ∈ tb := tl_5 172 rfl rfl
theorem lX12_281 : Cond.methodLink RX12 281 yX12_count ∈ tb := tl_5 173 rfl rfl
theorem lX12_284 : Cond.methodLink RX12 284 yX12_tellsBoth ∈ tb := tl_5 174 rfl rfl
def MX0_init : MD := (yX0_init, cX0_init, 1, none, rmK 1 7 84)
theorem bX0_init : CB MX0_init 0 := ⟨by decide +kernel, by decide +kernel, tl_1 109 rfl rfl, in_X0⟩
theorem sX0_init : CI MX0_init 0 := ⟨bX0_init, tl_1 108 rfl rfl, rfl⟩
def MX0_setOut : MD := (yX0_setOut, cX0_setOut, 4, none, rmK 0 0 0)
theorem bX0_setOut : CB MX0_setOut 2 := ⟨by decide +kernel, by decide +kernel, tl_2 0 rfl rfl, in_X0⟩
theorem sX0_setOut : CV MX0_setOut 2 := ⟨bX0_setOut, tl_1 238 rfl rfl, tl_1 239 rfl rfl⟩
def MX0_walk : MD := (yX0_walk, cX0_walk, 9, none, rmK 3 0 0)
theorem bX0_walk : CB MX0_walk 5 := ⟨by decide +kernel, by decide +kernel, tl_2 94 rfl rfl, in_X0⟩
theorem sX0_walk : CV MX0_walk 5 := ⟨bX0_walk, tl_2 92 rfl rfl, tl_2 93 rfl rfl⟩
def MX0_markFate : MD := (yX0_markFate, cX0_markFate, 3, none, rmK 0 0 0)
theorem bX0_markFate : CB MX0_markFate 2 := ⟨by decide +kernel, by decide +kernel, tl_2 119 rfl rfl, in_X0⟩
theorem sX0_markFate : CV MX0_markFate 2 := ⟨bX0_markFate, tl_2 118 rfl rfl, tl_0 3 rfl rfl⟩
def MX0_stepBehind : MD := (yX0_stepBehind, cX0_stepBehind, 5, none, rmK 2 0 0)
theorem bX0_stepBehind : CB MX0_stepBehind 3 := ⟨by decide +kernel, by decide +kernel, tl_2 124 rfl rfl, in_X0⟩
theorem sX0_stepBehind : CV MX0_stepBehind 3 := ⟨bX0_stepBehind, tl_2 123 rfl rfl, tl_0 4 rfl rfl⟩
def MX0_fateOf : MD := (yX0_fateOf, cX0_fateOf, 2, (some (FieldType.int)), rmK 0 0 0)
theorem bX0_fateOf : CB MX0_fateOf 1 := ⟨by decide +kernel, by decide +kernel, tl_2 107 rfl rfl, in_X0⟩
theorem sX0_fateOf : CV MX0_fateOf 1 := ⟨bX0_fateOf, tl_2 105 rfl rfl, tl_2 106 rfl rfl⟩
def MX0_hasAllWins : MD := (yX0_hasAllWins, cX0_hasAllWins, 1, (some (FieldType.boolean)), rmK 0 0 0)
theorem bX0_hasAllWins : CB MX0_hasAllWins 0 := ⟨by decide +kernel, by decide +kernel, tl_2 207 rfl rfl, in_X0⟩
theorem sX0_hasAllWins : CV MX0_hasAllWins 0 := ⟨bX0_hasAllWins, tl_2 205 rfl rfl, tl_2 206 rfl rfl⟩
def MX0_livesAbove : MD := (yX0_livesAbove, cX0_livesAbove, 1, (some (FieldType.long)), rmK 1 0 0)
theorem bX0_livesAbove : CB MX0_livesAbove 0 := ⟨by decide +kernel, by decide +kernel, tl_2 203 rfl rfl, in_X0⟩
theorem sX0_livesAbove : CV MX0_livesAbove 0 := ⟨bX0_livesAbove, tl_2 201 rfl rfl, tl_2 202 rfl rfl⟩
def MX0_fewestSixteenths : MD := (yX0_fewestSixteenths, cX0_fewestSixteenths, 4, (some (FieldType.int)), rmK 0 0 0)
theorem bX0_fewestSixteenths : CB MX0_fewestSixteenths 0 := ⟨by decide +kernel, by decide +kernel, tl_2 219 rfl rfl, in_X0⟩
theorem sX0_fewestSixteenths : CV MX0_fewestSixteenths 0 := ⟨bX0_fewestSixteenths, tl_2 217 rfl rfl, tl_2 218 rfl rfl⟩
def MX0_numberOfFights : MD := (yX0_numberOfFights, cX0_numberOfFights, 3, (some (FieldType.int)), rmK 0 0 0)
theorem bX0_numberOfFights : CB MX0_numberOfFights 0 := ⟨by decide +kernel, by decide +kernel, tl_3 201 rfl rfl, in_X0⟩
theorem sX0_numberOfFights : CV MX0_numberOfFights 0 := ⟨bX0_numberOfFights, tl_3 199 rfl rfl, tl_3 200 rfl rfl⟩
def MX0_numberNotVoid : MD := (yX0_numberNotVoid, cX0_numberNotVoid, 4, (some (FieldType.int)), rmK 1 0 0)
theorem bX0_numberNotVoid : CB MX0_numberNotVoid 1 := ⟨by decide +kernel, by decide +kernel, tl_3 205 rfl rfl, in_X0⟩
theorem sX0_numberNotVoid : CV MX0_numberNotVoid 1 := ⟨bX0_numberNotVoid, tl_3 203 rfl rfl, tl_3 204 rfl rfl⟩
def MX0_playTill : MD := (yX0_playTill, cX0_playTill, 3, (some (FieldType.int)), rmK 1 0 0)
theorem bX0_playTill : CB MX0_playTill 1 := ⟨by decide +kernel, by decide +kernel, tl_3 137 rfl rfl, in_X0⟩
theorem sX0_playTill : CV MX0_playTill 1 := ⟨bX0_playTill, tl_3 135 rfl rfl, tl_3 136 rfl rfl⟩
def MX1_told : MD := (yX1_told, cX1_told, 7, (some (FieldType.long)), rmK 0 0 0)
theorem bX1_told : CB MX1_told 3 := ⟨by decide +kernel, by decide +kernel, tl_2 195 rfl rfl, in_X1⟩
theorem sX1_told : CS MX1_told 3 := ⟨bX1_told, tl_2 194 rfl rfl⟩
def MX2_init : MD := (yX2_init, cX2_init, 1, none, rmK 1 1 40)
theorem bX2_init : CB MX2_init 0 := ⟨by decide +kernel, by decide +kernel, tl_1 49 rfl rfl, in_X2⟩
theorem sX2_init : CI MX2_init 0 := ⟨bX2_init, tl_1 48 rfl rfl, rfl⟩
def MX2_parse : MD := (yX2_parse, cX2_parse, 5, none, rmK 3 0 0)
theorem bX2_parse : CB MX2_parse 1 := ⟨by decide +kernel, by decide +kernel, tl_2 64 rfl rfl, in_X2⟩
theorem sX2_parse : CV MX2_parse 1 := ⟨bX2_parse, tl_2 62 rfl rfl, tl_2 63 rfl rfl⟩
def MX2_placeOfFault : MD := (yX2_placeOfFault, cX2_placeOfFault, 2, (some (FieldType.int)), rmK 2 0 0)
theorem bX2_placeOfFault : CB MX2_placeOfFault 1 := ⟨by decide +kernel, by decide +kernel, tl_2 67 rfl rfl, in_X2⟩
theorem sX2_placeOfFault : CS MX2_placeOfFault 1 := ⟨bX2_placeOfFault, tl_2 66 rfl rfl⟩
def MX2_fits : MD := (yX2_fits, cX2_fits, 2, (some (FieldType.boolean)), rmK 1 0 0)
theorem bX2_fits : CB MX2_fits 2 := ⟨by decide +kernel, by decide +kernel, tl_2 74 rfl rfl, in_X2⟩
theorem sX2_fits : CS MX2_fits 2 := ⟨bX2_fits, tl_2 73 rfl rfl⟩
def MX2_kindOf : MD := (yX2_kindOf, cX2_kindOf, 1, (some (FieldType.int)), rmK 0 0 0)
theorem bX2_kindOf : CB MX2_kindOf 1 := ⟨by decide +kernel, by decide +kernel, tl_2 77 rfl rfl, in_X2⟩
theorem sX2_kindOf : CS MX2_kindOf 1 := ⟨bX2_kindOf, tl_2 76 rfl rfl⟩
def MX2_has : MD := (yX2_has, cX2_has, 2, (some (FieldType.boolean)), rmK 0 0 0)
theorem bX2_has : CB MX2_has 1 := ⟨by decide +kernel, by decide +kernel, tl_2 103 rfl rfl, in_X2⟩
theorem sX2_has : CV MX2_has 1 := ⟨bX2_has, tl_2 101 rfl rfl, tl_2 102 rfl rfl⟩
def MX2_part : MD := (yX2_part, cX2_part, 4, (some (FieldType.int)), rmK 0 0 0)
theorem bX2_part : CB MX2_part 2 := ⟨by decide +kernel, by decide +kernel, tl_2 115 rfl rfl, in_X2⟩
theorem sX2_part : CV MX2_part 2 := ⟨bX2_part, tl_2 113 rfl rfl, tl_2 114 rfl rfl⟩
def MX2_putKind : MD := (yX2_putKind, cX2_putKind, 3, none, rmK 1 0 0)
theorem bX2_putKind : CB MX2_putKind 2 := ⟨by decide +kernel, by decide +kernel, tl_3 105 rfl rfl, in_X2⟩
theorem sX2_putKind : CV MX2_putKind 2 := ⟨bX2_putKind, tl_3 103 rfl rfl, tl_3 104 rfl rfl⟩
def MX2_answerOf : MD := (yX2_answerOf, cX2_answerOf, 4, (some (FieldType.int)), rmK 1 0 0)
theorem bX2_answerOf : CB MX2_answerOf 2 := ⟨by decide +kernel, by decide +kernel, tl_2 111 rfl rfl, in_X2⟩
theorem sX2_answerOf : CV MX2_answerOf 2 := ⟨bX2_answerOf, tl_2 109 rfl rfl, tl_2 110 rfl rfl⟩
def MX3_init : MD := (yX3_init, cX3_init, 2, none, rmK 1 0 0)
theorem bX3_init : CB MX3_init 1 := ⟨by decide +kernel, by decide +kernel, tl_3 128 rfl rfl, in_X3⟩
theorem sX3_init : CI MX3_init 1 := ⟨bX3_init, tl_3 127 rfl rfl, rfl⟩
def MX3_draw : MD := (yX3_draw, cX3_draw, 2, (some (FieldType.int)), rmK 0 0 0)
theorem bX3_draw : CB MX3_draw 1 := ⟨by decide +kernel, by decide +kernel, tl_3 141 rfl rfl, in_X3⟩
theorem sX3_draw : CV MX3_draw 1 := ⟨bX3_draw, tl_3 139 rfl rfl, tl_3 140 rfl rfl⟩
def MX4_init : MD := (yX4_init, cX4_init, 1, none, rmK 1 1 12)
theorem bX4_init : CB MX4_init 0 := ⟨by decide +kernel, by decide +kernel, tl_1 68 rfl rfl, in_X4⟩
theorem sX4_init : CI MX4_init 0 := ⟨bX4_init, tl_1 67 rfl rfl, rfl⟩
def MX4_parse : MD := (yX4_parse, cX4_parse, 4, none, rmK 1 0 0)
theorem bX4_parse : CB MX4_parse 1 := ⟨by decide +kernel, by decide +kernel, tl_2 84 rfl rfl, in_X4⟩
theorem sX4_parse : CV MX4_parse 1 := ⟨bX4_parse, tl_2 82 rfl rfl, tl_2 83 rfl rfl⟩
def MX4_whoAt : MD := (yX4_whoAt, cX4_whoAt, 2, (some (FieldType.int)), rmK 0 0 0)
theorem bX4_whoAt : CB MX4_whoAt 1 := ⟨by decide +kernel, by decide +kernel, tl_2 99 rfl rfl, in_X4⟩
theorem sX4_whoAt : CV MX4_whoAt 1 := ⟨bX4_whoAt, tl_2 97 rfl rfl, tl_2 98 rfl rfl⟩
def MX5_init : MD := (yX5_init, cX5_init, 1, none, rmK 1 4 2728)
theorem bX5_init : CB MX5_init 0 := ⟨by decide +kernel, by decide +kernel, tl_1 156 rfl rfl, in_X5⟩
theorem sX5_init : CI MX5_init 0 := ⟨bX5_init, tl_1 155 rfl rfl, rfl⟩
def MX5_makeOnce : MD := (yX5_makeOnce, cX5_makeOnce, 4, none, rmK 3 0 0)
theorem bX5_makeOnce : CB MX5_makeOnce 2 := ⟨by decide +kernel, by decide +kernel, tl_2 232 rfl rfl, in_X5⟩
theorem sX5_makeOnce : CV MX5_makeOnce 2 := ⟨bX5_makeOnce, tl_2 230 rfl rfl, tl_2 231 rfl rfl⟩
def MX5_prepare : MD := (yX5_prepare, cX5_prepare, 7, none, rmK 2 0 0)
theorem bX5_prepare : CB MX5_prepare 3 := ⟨by decide +kernel, by decide +kernel, tl_3 0 rfl rfl, in_X5⟩
theorem sX5_prepare : CV MX5_prepare 3 := ⟨bX5_prepare, tl_2 239 rfl rfl, tl_0 6 rfl rfl⟩
def MX5_winsOf : MD := (yX5_winsOf, cX5_winsOf, 2, (some (FieldType.int)), rmK 1 0 0)
theorem bX5_winsOf : CB MX5_winsOf 1 := ⟨by decide +kernel, by decide +kernel, tl_3 11 rfl rfl, in_X5⟩
theorem sX5_winsOf : CV MX5_winsOf 1 := ⟨bX5_winsOf, tl_3 10 rfl rfl, tl_0 8 rfl rfl⟩
def MX5_fillValues : MD := (yX5_fillValues, cX5_fillValues, 4, none, rmK 2 0 0)
theorem bX5_fillValues : CB MX5_fillValues 0 := ⟨by decide +kernel, by decide +kernel, tl_3 7 rfl rfl, in_X5⟩
theorem sX5_fillValues : CV MX5_fillValues 0 := ⟨bX5_fillValues, tl_3 6 rfl rfl, tl_0 7 rfl rfl⟩
def MX5_mostBehind : MD := (yX5_mostBehind, cX5_mostBehind, 6, (some (FieldType.long)), rmK 1 0 0)
theorem bX5_mostBehind : CB MX5_mostBehind 2 := ⟨by decide +kernel, by decide +kernel, tl_3 21 rfl rfl, in_X5⟩
theorem sX5_mostBehind : CV MX5_mostBehind 2 := ⟨bX5_mostBehind, tl_3 20 rfl rfl, tl_0 9 rfl rfl⟩
def MX5_valueIfNext : MD := (yX5_valueIfNext, cX5_valueIfNext, 5, (some (FieldType.long)), rmK 0 0 0)
theorem bX5_valueIfNext : CB MX5_valueIfNext 3 := ⟨by decide +kernel, by decide +kernel, tl_3 25 rfl rfl, in_X5⟩
theorem sX5_valueIfNext : CV MX5_valueIfNext 3 := ⟨bX5_valueIfNext, tl_3 24 rfl rfl, tl_0 10 rfl rfl⟩
def MX5_layRow : MD := (yX5_layRow, cX5_layRow, 5, none, rmK 2 0 0)
theorem bX5_layRow : CB MX5_layRow 0 := ⟨by decide +kernel, by decide +kernel, tl_3 32 rfl rfl, in_X5⟩
theorem sX5_layRow : CV MX5_layRow 0 := ⟨bX5_layRow, tl_3 31 rfl rfl, tl_0 11 rfl rfl⟩
def MX5_leastNext : MD := (yX5_leastNext, cX5_leastNext, 6, (some (FieldType.int)), rmK 1 0 0)
theorem bX5_leastNext : CB MX5_leastNext 2 := ⟨by decide +kernel, by decide +kernel, tl_3 36 rfl rfl, in_X5⟩
theorem sX5_leastNext : CV MX5_leastNext 2 := ⟨bX5_leastNext, tl_3 35 rfl rfl, tl_0 12 rfl rfl⟩
def MX6_init : MD := (yX6_init, cX6_init, 1, none, rmK 1 1 60)
theorem bX6_init : CB MX6_init 0 := ⟨by decide +kernel, by decide +kernel, tl_1 218 rfl rfl, in_X6⟩
theorem sX6_init : CI MX6_init 0 := ⟨bX6_init, tl_1 217 rfl rfl, rfl⟩
def MX6_renew : MD := (yX6_renew, cX6_renew, 4, none, rmK 1 0 0)
theorem bX6_renew : CB MX6_renew 2 := ⟨by decide +kernel, by decide +kernel, tl_3 154 rfl rfl, in_X6⟩
theorem sX6_renew : CV MX6_renew 2 := ⟨bX6_renew, tl_3 152 rfl rfl, tl_3 153 rfl rfl⟩
def MX6_findingAt : MD := (yX6_findingAt, cX6_findingAt, 3, (some (FieldType.int)), rmK 0 0 0)
theorem bX6_findingAt : CB MX6_findingAt 2 := ⟨by decide +kernel, by decide +kernel, tl_3 168 rfl rfl, in_X6⟩
theorem sX6_findingAt : CV MX6_findingAt 2 := ⟨bX6_findingAt, tl_3 166 rfl rfl, tl_3 167 rfl rfl⟩
def MX6_put : MD := (yX6_put, cX6_put, 3, none, rmK 0 0 0)
theorem bX6_put : CB MX6_put 2 := ⟨by decide +kernel, by decide +kernel, tl_3 172 rfl rfl, in_X6⟩
theorem sX6_put : CV MX6_put 2 := ⟨bX6_put, tl_3 170 rfl rfl, tl_3 171 rfl rfl⟩
def MX6_hasStretch : MD := (yX6_hasStretch, cX6_hasStretch, 3, (some (FieldType.boolean)), rmK 0 0 0)
theorem bX6_hasStretch : CB MX6_hasStretch 2 := ⟨by decide +kernel, by decide +kernel, tl_3 185 rfl rfl, in_X6⟩
theorem sX6_hasStretch : CV MX6_hasStretch 2 := ⟨bX6_hasStretch, tl_3 183 rfl rfl, tl_3 184 rfl rfl⟩
def MX7_init : MD := (yX7_init, cX7_init, 1, none, rmK 1 2 16)
theorem bX7_init : CB MX7_init 0 := ⟨by decide +kernel, by decide +kernel, tl_1 200 rfl rfl, in_X7⟩
theorem sX7_init : CI MX7_init 0 := ⟨bX7_init, tl_1 199 rfl rfl, rfl⟩
def MX7_allows : MD := (yX7_allows, cX7_allows, 2, (some (FieldType.boolean)), rmK 0 0 0)
theorem bX7_allows : CB MX7_allows 2 := ⟨by decide +kernel, by decide +kernel, tl_3 65 rfl rfl, in_X7⟩
theorem sX7_allows : CS MX7_allows 2 := ⟨bX7_allows, tl_3 64 rfl rfl⟩
def MX7_isFull : MD := (yX7_isFull, cX7_isFull, 1, (some (FieldType.boolean)), rmK 0 0 0)
theorem bX7_isFull : CB MX7_isFull 0 := ⟨by decide +kernel, by decide +kernel, tl_3 69 rfl rfl, in_X7⟩
theorem sX7_isFull : CV MX7_isFull 0 := ⟨bX7_isFull, tl_3 67 rfl rfl, tl_3 68 rfl rfl⟩
def MX7_add : MD := (yX7_add, cX7_add, 3, none, rmK 0 0 0)
theorem bX7_add : CB MX7_add 2 := ⟨by decide +kernel, by decide +kernel, tl_3 73 rfl rfl, in_X7⟩
theorem sX7_add : CV MX7_add 2 := ⟨bX7_add, tl_3 71 rfl rfl, tl_3 72 rfl rfl⟩
def MX7_comeOutBy : MD := (yX7_comeOutBy, cX7_comeOutBy, 3, (some (FieldType.boolean)), rmK 1 0 0)
theorem bX7_comeOutBy : CB MX7_comeOutBy 1 := ⟨by decide +kernel, by decide +kernel, tl_3 96 rfl rfl, in_X7⟩
theorem sX7_comeOutBy : CV MX7_comeOutBy 1 := ⟨bX7_comeOutBy, tl_3 94 rfl rfl, tl_3 95 rfl rfl⟩
def MX8_isWin : MD := (yX8_isWin, cX8_isWin, 1, (some (FieldType.boolean)), rmK 0 0 0)
theorem bX8_isWin : CB MX8_isWin 1 := ⟨by decide +kernel, by decide +kernel, tl_2 135 rfl rfl, in_X8⟩
theorem sX8_isWin : CS MX8_isWin 1 := ⟨bX8_isWin, tl_2 134 rfl rfl⟩
def MX8_sixteenths : MD := (yX8_sixteenths, cX8_sixteenths, 3, (some (FieldType.int)), rmK 1 0 0)
theorem bX8_sixteenths : CB MX8_sixteenths 3 := ⟨by decide +kernel, by decide +kernel, tl_2 127 rfl rfl, in_X8⟩
theorem sX8_sixteenths : CS MX8_sixteenths 3 := ⟨bX8_sixteenths, tl_2 126 rfl rfl⟩
def MX8_strongBehind : MD := (yX8_strongBehind, cX8_strongBehind, 4, (some (FieldType.int)), rmK 0 0 0)
theorem bX8_strongBehind : CB MX8_strongBehind 3 := ⟨by decide +kernel, by decide +kernel, tl_2 132 rfl rfl, in_X8⟩
theorem sX8_strongBehind : CS MX8_strongBehind 3 := ⟨bX8_strongBehind, tl_2 131 rfl rfl⟩
def MX9_init : MD := (yX9_init, cX9_init, 1, none, rmK 1 0 0)
theorem bX9_init : CB MX9_init 0 := ⟨by decide +kernel, by decide +kernel, tl_1 87 rfl rfl, in_X9⟩
theorem sX9_init : CI MX9_init 0 := ⟨bX9_init, tl_1 86 rfl rfl, rfl⟩
def MX9_allows : MD := (yX9_allows, cX9_allows, 2, (some (FieldType.boolean)), rmK 0 0 0)
theorem bX9_allows : CB MX9_allows 2 := ⟨by decide +kernel, by decide +kernel, tl_2 165 rfl rfl, in_X9⟩
theorem sX9_allows : CS MX9_allows 2 := ⟨bX9_allows, tl_2 164 rfl rfl⟩
def MX9_change : MD := (yX9_change, cX9_change, 4, (some (FieldType.int)), rmK 0 0 0)
theorem bX9_change : CB MX9_change 2 := ⟨by decide +kernel, by decide +kernel, tl_2 169 rfl rfl, in_X9⟩
theorem sX9_change : CV MX9_change 2 := ⟨bX9_change, tl_2 167 rfl rfl, tl_2 168 rfl rfl⟩
def MX10_init : MD := (yX10_init, cX10_init, 2, none, rmK 1 1 47)
theorem bX10_init : CB MX10_init 1 := ⟨by decide +kernel, by decide +kernel, tl_1 29 rfl rfl, in_X10⟩
theorem sX10_init : CI MX10_init 1 := ⟨bX10_init, tl_1 28 rfl rfl, rfl⟩
def MX10_isFull : MD := (yX10_isFull, cX10_isFull, 1, (some (FieldType.boolean)), rmK 0 0 0)
theorem bX10_isFull : CB MX10_isFull 0 := ⟨by decide +kernel, by decide +kernel, tl_2 52 rfl rfl, in_X10⟩
theorem sX10_isFull : CV MX10_isFull 0 := ⟨bX10_isFull, tl_2 50 rfl rfl, tl_2 51 rfl rfl⟩
def MX10_push : MD := (yX10_push, cX10_push, 2, none, rmK 0 0 0)
theorem bX10_push : CB MX10_push 1 := ⟨by decide +kernel, by decide +kernel, tl_2 56 rfl rfl, in_X10⟩
theorem sX10_push : CV MX10_push 1 := ⟨bX10_push, tl_2 54 rfl rfl, tl_2 55 rfl rfl⟩
def MX10_byteAt : MD := (yX10_byteAt, cX10_byteAt, 2, (some (FieldType.int)), rmK 0 0 0)
theorem bX10_byteAt : CB MX10_byteAt 1 := ⟨by decide +kernel, by decide +kernel, tl_2 71 rfl rfl, in_X10⟩
theorem sX10_byteAt : CV MX10_byteAt 1 := ⟨bX10_byteAt, tl_2 69 rfl rfl, tl_2 70 rfl rfl⟩
def MX11_init : MD := (yX11_init, cX11_init, 2, none, rmK 2 43 3413)
theorem bX11_init : CB MX11_init 0 := ⟨by decide +kernel, by decide +kernel, tl_1 21 rfl rfl, in_X11⟩
theorem sX11_init : CI MX11_init 0 := ⟨bX11_init, tl_1 20 rfl rfl, rfl⟩
def MX11_type : MD := (yX11_type, cX11_type, 4, (some (FieldType.int)), rmK 6 0 0)
theorem bX11_type : CB MX11_type 2 := ⟨by decide +kernel, by decide +kernel, tl_2 41 rfl rfl, in_X11⟩
theorem sX11_type : CV MX11_type 2 := ⟨bX11_type, tl_2 39 rfl rfl, tl_2 40 rfl rfl⟩
def MX11_wipe : MD := (yX11_wipe, cX11_wipe, 4, (some (FieldType.int)), rmK 6 0 0)
theorem bX11_wipe : CB MX11_wipe 1 := ⟨by decide +kernel, by decide +kernel, tl_2 139 rfl rfl, in_X11⟩
theorem sX11_wipe : CV MX11_wipe 1 := ⟨bX11_wipe, tl_2 137 rfl rfl, tl_2 138 rfl rfl⟩
def MX11_undo : MD := (yX11_undo, cX11_undo, 3, (some (FieldType.int)), rmK 6 0 0)
theorem bX11_undo : CB MX11_undo 1 := ⟨by decide +kernel, by decide +kernel, tl_2 143 rfl rfl, in_X11⟩
theorem sX11_undo : CV MX11_undo 1 := ⟨bX11_undo, tl_2 141 rfl rfl, tl_2 142 rfl rfl⟩
def MX11_fault : MD := (yX11_fault, cX11_fault, 2, (some (FieldType.int)), rmK 1 0 0)
theorem bX11_fault : CB MX11_fault 1 := ⟨by decide +kernel, by decide +kernel, tl_2 147 rfl rfl, in_X11⟩
theorem sX11_fault : CV MX11_fault 1 := ⟨bX11_fault, tl_2 145 rfl rfl, tl_2 146 rfl rfl⟩
def MX11_felon : MD := (yX11_felon, cX11_felon, 3, (some (FieldType.int)), rmK 1 0 0)
theorem bX11_felon : CB MX11_felon 2 := ⟨by decide +kernel, by decide +kernel, tl_2 151 rfl rfl, in_X11⟩
theorem sX11_felon : CV MX11_felon 2 := ⟨bX11_felon, tl_2 149 rfl rfl, tl_2 150 rfl rfl⟩
def MX11_name : MD := (yX11_name, cX11_name, 2, (some (FieldType.int)), rmK 1 0 0)
theorem bX11_name : CB MX11_name 1 := ⟨by decide +kernel, by decide +kernel, tl_2 157 rfl rfl, in_X11⟩
theorem sX11_name : CV MX11_name 1 := ⟨bX11_name, tl_2 155 rfl rfl, tl_2 156 rfl rfl⟩
def MX11_set : MD := (yX11_set, cX11_set, 4, (some (FieldType.int)), rmK 5 0 0)
theorem bX11_set : CB MX11_set 2 := ⟨by decide +kernel, by decide +kernel, tl_2 162 rfl rfl, in_X11⟩
theorem sX11_set : CV MX11_set 2 := ⟨bX11_set, tl_2 160 rfl rfl, tl_2 161 rfl rfl⟩
def MX11_comes : MD := (yX11_comes, cX11_comes, 3, (some (FieldType.int)), rmK 1 0 0)
theorem bX11_comes : CB MX11_comes 2 := ⟨by decide +kernel, by decide +kernel, tl_2 173 rfl rfl, in_X11⟩
theorem sX11_comes : CV MX11_comes 2 := ⟨bX11_comes, tl_2 171 rfl rfl, tl_2 172 rfl rfl⟩
def MX11_behind : MD := (yX11_behind, cX11_behind, 3, (some (FieldType.int)), rmK 1 0 0)
theorem bX11_behind : CB MX11_behind 2 := ⟨by decide +kernel, by decide +kernel, tl_2 180 rfl rfl, in_X11⟩
theorem sX11_behind : CV MX11_behind 2 := ⟨bX11_behind, tl_2 178 rfl rfl, tl_2 179 rfl rfl⟩
def MX11_alive : MD := (yX11_alive, cX11_alive, 3, (some (FieldType.long)), rmK 1 0 0)
theorem bX11_alive : CB MX11_alive 2 := ⟨by decide +kernel, by decide +kernel, tl_2 188 rfl rfl, in_X11⟩
theorem sX11_alive : CV MX11_alive 2 := ⟨bX11_alive, tl_2 186 rfl rfl, tl_2 187 rfl rfl⟩
def MX11_lives : MD := (yX11_lives, cX11_lives, 2, (some (FieldType.long)), rmK 2 0 0)
theorem bX11_lives : CB MX11_lives 1 := ⟨by decide +kernel, by decide +kernel, tl_2 199 rfl rfl, in_X11⟩
theorem sX11_lives : CV MX11_lives 1 := ⟨bX11_lives, tl_2 197 rfl rfl, tl_2 198 rfl rfl⟩
def MX11_harm : MD := (yX11_harm, cX11_harm, 2, (some (FieldType.long)), rmK 1 0 0)
theorem bX11_harm : CB MX11_harm 1 := ⟨by decide +kernel, by decide +kernel, tl_2 211 rfl rfl, in_X11⟩
theorem sX11_harm : CV MX11_harm 1 := ⟨bX11_harm, tl_2 209 rfl rfl, tl_2 210 rfl rfl⟩
def MX11_worst : MD := (yX11_worst, cX11_worst, 1, (some (FieldType.int)), rmK 1 0 0)
theorem bX11_worst : CB MX11_worst 0 := ⟨by decide +kernel, by decide +kernel, tl_2 215 rfl rfl, in_X11⟩
theorem sX11_worst : CV MX11_worst 0 := ⟨bX11_worst, tl_2 213 rfl rfl, tl_2 214 rfl rfl⟩
def MX11_fate : MD := (yX11_fate, cX11_fate, 2, (some (FieldType.int)), rmK 1 0 0)
theorem bX11_fate : CB MX11_fate 1 := ⟨by decide +kernel, by decide +kernel, tl_2 223 rfl rfl, in_X11⟩
theorem sX11_fate : CV MX11_fate 1 := ⟨bX11_fate, tl_2 221 rfl rfl, tl_2 222 rfl rfl⟩
def MX11_order : MD := (yX11_order, cX11_order, 2, (some (FieldType.int)), rmK 4 0 0)
theorem bX11_order : CB MX11_order 1 := ⟨by decide +kernel, by decide +kernel, tl_2 228 rfl rfl, in_X11⟩
theorem sX11_order : CV MX11_order 1 := ⟨bX11_order, tl_2 226 rfl rfl, tl_2 227 rfl rfl⟩
def MX11_best : MD := (yX11_best, cX11_best, 2, (some (FieldType.long)), rmK 4 0 0)
theorem bX11_best : CB MX11_best 1 := ⟨by decide +kernel, by decide +kernel, tl_3 40 rfl rfl, in_X11⟩
theorem sX11_best : CV MX11_best 1 := ⟨bX11_best, tl_3 38 rfl rfl, tl_3 39 rfl rfl⟩
def MX11_price : MD := (yX11_price, cX11_price, 5, (some (FieldType.int)), rmK 5 0 0)
theorem bX11_price : CB MX11_price 0 := ⟨by decide +kernel, by decide +kernel, tl_3 44 rfl rfl, in_X11⟩
theorem sX11_price : CV MX11_price 0 := ⟨bX11_price, tl_3 42 rfl rfl, tl_3 43 rfl rfl⟩
def MX11_rule : MD := (yX11_rule, cX11_rule, 5, (some (FieldType.int)), rmK 4 0 0)
theorem bX11_rule : CB MX11_rule 1 := ⟨by decide +kernel, by decide +kernel, tl_3 53 rfl rfl, in_X11⟩
theorem sX11_rule : CV MX11_rule 1 := ⟨bX11_rule, tl_3 51 rfl rfl, tl_3 52 rfl rfl⟩
def MX11_chain : MD := (yX11_chain, cX11_chain, 5, (some (FieldType.int)), rmK 1 0 0)
theorem bX11_chain : CB MX11_chain 1 := ⟨by decide +kernel, by decide +kernel, tl_3 58 rfl rfl, in_X11⟩
theorem sX11_chain : CV MX11_chain 1 := ⟨bX11_chain, tl_3 56 rfl rfl, tl_3 57 rfl rfl⟩
def MX11_seen : MD := (yX11_seen, cX11_seen, 3, (some (FieldType.int)), rmK 1 0 0)
theorem bX11_seen : CB MX11_seen 2 := ⟨by decide +kernel, by decide +kernel, tl_3 62 rfl rfl, in_X11⟩
theorem sX11_seen : CV MX11_seen 2 := ⟨bX11_seen, tl_3 60 rfl rfl, tl_3 61 rfl rfl⟩
def MX11_forget : MD := (yX11_forget, cX11_forget, 2, (some (FieldType.int)), rmK 0 0 0)
theorem bX11_forget : CB MX11_forget 0 := ⟨by decide +kernel, by decide +kernel, tl_3 77 rfl rfl, in_X11⟩
theorem sX11_forget : CV MX11_forget 0 := ⟨bX11_forget, tl_3 75 rfl rfl, tl_3 76 rfl rfl⟩
def MX11_read : MD := (yX11_read, cX11_read, 7, (some (FieldType.int)), rmK 1 0 0)
theorem bX11_read : CB MX11_read 1 := ⟨by decide +kernel, by decide +kernel, tl_3 81 rfl rfl, in_X11⟩
theorem sX11_read : CV MX11_read 1 := ⟨bX11_read, tl_3 79 rfl rfl, tl_3 80 rfl rfl⟩
def MX11_bribes : MD := (yX11_bribes, cX11_bribes, 3, (some (FieldType.int)), rmK 5 0 0)
theorem bX11_bribes : CB MX11_bribes 0 := ⟨by decide +kernel, by decide +kernel, tl_3 92 rfl rfl, in_X11⟩
theorem sX11_bribes : CV MX11_bribes 0 := ⟨bX11_bribes, tl_3 90 rfl rfl, tl_3 91 rfl rfl⟩
def MX11_kinds : MD := (yX11_kinds, cX11_kinds, 5, (some (FieldType.int)), rmK 5 0 0)
theorem bX11_kinds : CB MX11_kinds 1 := ⟨by decide +kernel, by decide +kernel, tl_3 101 rfl rfl, in_X11⟩
theorem sX11_kinds : CV MX11_kinds 1 := ⟨bX11_kinds, tl_3 99 rfl rfl, tl_3 100 rfl rfl⟩
def MX11_ask : MD := (yX11_ask, cX11_ask, 5, (some (FieldType.int)), rmK 6 0 0)
theorem bX11_ask : CB MX11_ask 0 := ⟨by decide +kernel, by decide +kernel, tl_3 110 rfl rfl, in_X11⟩
theorem sX11_ask : CV MX11_ask 0 := ⟨bX11_ask, tl_3 108 rfl rfl, tl_3 109 rfl rfl⟩
def MX11_gaols : MD := (yX11_gaols, cX11_gaols, 9, (some (FieldType.int)), rmK 2 1 1)
theorem bX11_gaols : CB MX11_gaols 3 := ⟨by decide +kernel, by decide +kernel, tl_3 123 rfl rfl, in_X11⟩
theorem sX11_gaols : CV MX11_gaols 3 := ⟨bX11_gaols, tl_3 121 rfl rfl, tl_3 122 rfl rfl⟩
def MX11_sheet : MD := (yX11_sheet, cX11_sheet, 4, (some (FieldType.int)), rmK 2 0 0)
theorem bX11_sheet : CB MX11_sheet 3 := ⟨by decide +kernel, by decide +kernel, tl_3 147 rfl rfl, in_X11⟩
theorem sX11_sheet : CV MX11_sheet 3 := ⟨bX11_sheet, tl_3 145 rfl rfl, tl_3 146 rfl rfl⟩
def MX11_lose : MD := (yX11_lose, cX11_lose, 2, (some (FieldType.int)), rmK 1 0 0)
theorem bX11_lose : CB MX11_lose 1 := ⟨by decide +kernel, by decide +kernel, tl_3 160 rfl rfl, in_X11⟩
theorem sX11_lose : CV MX11_lose 1 := ⟨bX11_lose, tl_3 158 rfl rfl, tl_3 159 rfl rfl⟩
def MX11_lay : MD := (yX11_lay, cX11_lay, 6, (some (FieldType.int)), rmK 1 0 0)
theorem bX11_lay : CB MX11_lay 4 := ⟨by decide +kernel, by decide +kernel, tl_3 164 rfl rfl, in_X11⟩
theorem sX11_lay : CV MX11_lay 4 := ⟨bX11_lay, tl_3 162 rfl rfl, tl_3 163 rfl rfl⟩
def MX11_get : MD := (yX11_get, cX11_get, 5, (some (FieldType.int)), rmK 1 0 0)
theorem bX11_get : CB MX11_get 3 := ⟨by decide +kernel, by decide +kernel, tl_3 176 rfl rfl, in_X11⟩
theorem sX11_get : CV MX11_get 3 := ⟨bX11_get, tl_3 174 rfl rfl, tl_3 175 rfl rfl⟩
def MX11_copy : MD := (yX11_copy, cX11_copy, 8, (some (FieldType.int)), rmK 1 0 0)
theorem bX11_copy : CB MX11_copy 5 := ⟨by decide +kernel, by decide +kernel, tl_3 181 rfl rfl, in_X11⟩
theorem sX11_copy : CV MX11_copy 5 := ⟨bX11_copy, tl_3 179 rfl rfl, tl_3 180 rfl rfl⟩
def MX11_write : MD := (yX11_write, cX11_write, 5, (some (FieldType.int)), rmK 1 0 0)
theorem bX11_write : CB MX11_write 1 := ⟨by decide +kernel, by decide +kernel, tl_3 192 rfl rfl, in_X11⟩
theorem sX11_write : CV MX11_write 1 := ⟨bX11_write, tl_3 190 rfl rfl, tl_3 191 rfl rfl⟩
def MX11_count : MD := (yX11_count, cX11_count, 2, (some (FieldType.int)), rmK 2 0 0)
theorem bX11_count : CB MX11_count 1 := ⟨by decide +kernel, by decide +kernel, tl_3 197 rfl rfl, in_X11⟩
theorem sX11_count : CV MX11_count 1 := ⟨bX11_count, tl_3 195 rfl rfl, tl_3 196 rfl rfl⟩
def MX11_digest : MD := (yX11_digest, cX11_digest, 4, (some (FieldType.long)), rmK 7 2 2)
theorem bX11_digest : CB MX11_digest 0 := ⟨by decide +kernel, by decide +kernel, tl_3 209 rfl rfl, in_X11⟩
theorem sX11_digest : CV MX11_digest 0 := ⟨bX11_digest, tl_3 207 rfl rfl, tl_3 208 rfl rfl⟩
def MX11_digestOfFelons : MD := (yX11_digestOfFelons, cX11_digestOfFelons, 7, (some (FieldType.long)), rmK 6 0 0)
theorem bX11_digestOfFelons : CB MX11_digestOfFelons 1 := ⟨by decide +kernel, by decide +kernel, tl_3 217 rfl rfl, in_X11⟩
theorem sX11_digestOfFelons : CV MX11_digestOfFelons 1 := ⟨bX11_digestOfFelons, tl_3 216 rfl rfl, tl_0 17 rfl rfl⟩
def MX11_digestOfNames : MD := (yX11_digestOfNames, cX11_digestOfNames, 6, (some (FieldType.long)), rmK 2 0 0)
theorem bX11_digestOfNames : CB MX11_digestOfNames 1 := ⟨by decide +kernel, by decide +kernel, tl_3 225 rfl rfl, in_X11⟩
theorem sX11_digestOfNames : CV MX11_digestOfNames 1 := ⟨bX11_digestOfNames, tl_3 224 rfl rfl, tl_0 18 rfl rfl⟩
def MX11_digestOfPlans : MD := (yX11_digestOfPlans, cX11_digestOfPlans, 5, (some (FieldType.long)), rmK 6 0 0)
theorem bX11_digestOfPlans : CB MX11_digestOfPlans 1 := ⟨by decide +kernel, by decide +kernel, tl_3 233 rfl rfl, in_X11⟩
theorem sX11_digestOfPlans : CV MX11_digestOfPlans 1 := ⟨bX11_digestOfPlans, tl_3 232 rfl rfl, tl_0 19 rfl rfl⟩
def MX11_isText : MD := (yX11_isText, cX11_isText, 1, (some (FieldType.boolean)), rmK 0 0 0)
theorem bX11_isText : CB MX11_isText 1 := ⟨by decide +kernel, by decide +kernel, tl_2 44 rfl rfl, in_X11⟩
theorem sX11_isText : CS MX11_isText 1 := ⟨bX11_isText, tl_2 43 rfl rfl⟩
def MX11_isEither : MD := (yX11_isEither, cX11_isEither, 1, (some (FieldType.boolean)), rmK 0 0 0)
theorem bX11_isEither : CB MX11_isEither 1 := ⟨by decide +kernel, by decide +kernel, tl_2 176 rfl rfl, in_X11⟩
theorem sX11_isEither : CS MX11_isEither 1 := ⟨bX11_isEither, tl_2 175 rfl rfl⟩
def MX11_isSheet : MD := (yX11_isSheet, cX11_isSheet, 1, (some (FieldType.boolean)), rmK 0 0 0)
theorem bX11_isSheet : CB MX11_isSheet 1 := ⟨by decide +kernel, by decide +kernel, tl_3 84 rfl rfl, in_X11⟩
theorem sX11_isSheet : CS MX11_isSheet 1 := ⟨bX11_isSheet, tl_3 83 rfl rfl⟩
def MX11_isForm : MD := (yX11_isForm, cX11_isForm, 1, (some (FieldType.boolean)), rmK 0 0 0)
theorem bX11_isForm : CB MX11_isForm 1 := ⟨by decide +kernel, by decide +kernel, tl_3 150 rfl rfl, in_X11⟩
theorem sX11_isForm : CS MX11_isForm 1 := ⟨bX11_isForm, tl_3 149 rfl rfl⟩
def MX11_longRefusal : MD := (yX11_longRefusal, cX11_longRefusal, 1, (some (FieldType.long)), rmK 0 0 0)
theorem bX11_longRefusal : CB MX11_longRefusal 1 := ⟨by decide +kernel, by decide +kernel, tl_2 191 rfl rfl, in_X11⟩
theorem sX11_longRefusal : CS MX11_longRefusal 1 := ⟨bX11_longRefusal, tl_2 190 rfl rfl⟩
def MX11_isNumberOfNames : MD := (yX11_isNumberOfNames, cX11_isNumberOfNames, 2, (some (FieldType.boolean)), rmK 0 0 0)
theorem bX11_isNumberOfNames : CB MX11_isNumberOfNames 1 := ⟨by decide +kernel, by decide +kernel, tl_2 184 rfl rfl, in_X11⟩
theorem sX11_isNumberOfNames : CV MX11_isNumberOfNames 1 := ⟨bX11_isNumberOfNames, tl_2 183 rfl rfl, tl_0 5 rfl rfl⟩
def MX11_textOf : MD := (yX11_textOf, cX11_textOf, 2, (some ((FieldType.object "ApproverWins$Text"))), rmK 0 0 0)
theorem bX11_textOf : CB MX11_textOf 1 := ⟨by decide +kernel, by decide +kernel, tl_2 48 rfl rfl, in_X11⟩
theorem sX11_textOf : CV MX11_textOf 1 := ⟨bX11_textOf, tl_2 47 rfl rfl, tl_0 0 rfl rfl⟩
def MX11_finding : MD := (yX11_finding, cX11_finding, 2, (some (FieldType.int)), rmK 0 0 0)
theorem bX11_finding : CB MX11_finding 1 := ⟨by decide +kernel, by decide +kernel, tl_3 88 rfl rfl, in_X11⟩
theorem sX11_finding : CV MX11_finding 1 := ⟨bX11_finding, tl_3 87 rfl rfl, tl_0 14 rfl rfl⟩
def MX11_readAnew : MD := (yX11_readAnew, cX11_readAnew, 2, none, rmK 5 0 0)
theorem bX11_readAnew : CB MX11_readAnew 1 := ⟨by decide +kernel, by decide +kernel, tl_2 60 rfl rfl, in_X11⟩
theorem sX11_readAnew : CV MX11_readAnew 1 := ⟨bX11_readAnew, tl_2 59 rfl rfl, tl_0 1 rfl rfl⟩
def MX11_reckonAnew : MD := (yX11_reckonAnew, cX11_reckonAnew, 1, none, rmK 4 0 0)
theorem bX11_reckonAnew : CB MX11_reckonAnew 0 := ⟨by decide +kernel, by decide +kernel, tl_2 90 rfl rfl, in_X11⟩
theorem sX11_reckonAnew : CV MX11_reckonAnew 0 := ⟨bX11_reckonAnew, tl_2 89 rfl rfl, tl_0 2 rfl rfl⟩
def MX11_tryBribe : MD := (yX11_tryBribe, cX11_tryBribe, 2, none, rmK 4 0 0)
theorem bX11_tryBribe : CB MX11_tryBribe 1 := ⟨by decide +kernel, by decide +kernel, tl_3 49 rfl rfl, in_X11⟩
theorem sX11_tryBribe : CV MX11_tryBribe 1 := ⟨bX11_tryBribe, tl_3 48 rfl rfl, tl_0 13 rfl rfl⟩
def MX11_tallyFates : MD := (yX11_tallyFates, cX11_tallyFates, 3, none, rmK 5 0 0)
theorem bX11_tallyFates : CB MX11_tallyFates 0 := ⟨by decide +kernel, by decide +kernel, tl_3 114 rfl rfl, in_X11⟩
theorem sX11_tallyFates : CV MX11_tallyFates 0 := ⟨bX11_tallyFates, tl_3 113 rfl rfl, tl_0 15 rfl rfl⟩
def MX11_mostAlike : MD := (yX11_mostAlike, cX11_mostAlike, 4, (some (FieldType.int)), rmK 1 0 0)
theorem bX11_mostAlike : CB MX11_mostAlike 1 := ⟨by decide +kernel, by decide +kernel, tl_3 118 rfl rfl, in_X11⟩
theorem sX11_mostAlike : CV MX11_mostAlike 1 := ⟨bX11_mostAlike, tl_3 117 rfl rfl, tl_0 16 rfl rfl⟩
def MX12_init : MD := (yX12_init, cX12_init, 2, none, rmK 1 20 622)
theorem bX12_init : CB MX12_init 0 := ⟨by decide +kernel, by decide +kernel, tl_4 8 rfl rfl, in_X12⟩
theorem sX12_init : CI MX12_init 0 := ⟨bX12_init, tl_4 7 rfl rfl, rfl⟩
def MX12_in : MD := (yX12_in, cX12_in, 6, (some (FieldType.boolean)), rmK 0 0 0)
theorem bX12_in : CB MX12_in 3 := ⟨by decide +kernel, by decide +kernel, tl_4 102 rfl rfl, in_X12⟩
theorem sX12_in : CS MX12_in 3 := ⟨bX12_in, tl_4 101 rfl rfl⟩
def MX12_no : MD := (yX12_no, cX12_no, 1, (some (FieldType.long)), rmK 0 0 0)
theorem bX12_no : CB MX12_no 1 := ⟨by decide +kernel, by decide +kernel, tl_5 7 rfl rfl, in_X12⟩
theorem sX12_no : CS MX12_no 1 := ⟨bX12_no, tl_5 6 rfl rfl⟩
def MX12_isTwo : MD := (yX12_isTwo, cX12_isTwo, 1, (some (FieldType.boolean)), rmK 1 0 0)
theorem bX12_isTwo : CB MX12_isTwo 1 := ⟨by decide +kernel, by decide +kernel, tl_4 138 rfl rfl, in_X12⟩
theorem sX12_isTwo : CS MX12_isTwo 1 := ⟨bX12_isTwo, tl_4 137 rfl rfl⟩
def MX12_isIn : MD := (yX12_isIn, cX12_isIn, 2, (some (FieldType.boolean)), rmK 0 0 0)
theorem bX12_isIn : CB MX12_isIn 2 := ⟨by decide +kernel, by decide +kernel, tl_4 203 rfl rfl, in_X12⟩
theorem sX12_isIn : CS MX12_isIn 2 := ⟨bX12_isIn, tl_4 202 rfl rfl⟩
def MX12_lesser : MD := (yX12_lesser, cX12_lesser, 2, (some (FieldType.int)), rmK 0 0 0)
theorem bX12_lesser : CB MX12_lesser 2 := ⟨by decide +kernel, by decide +kernel, tl_4 217 rfl rfl, in_X12⟩
theorem sX12_lesser : CS MX12_lesser 2 := ⟨bX12_lesser, tl_4 216 rfl rfl⟩
def MX12_greater : MD := (yX12_greater, cX12_greater, 2, (some (FieldType.int)), rmK 0 0 0)
theorem bX12_greater : CB MX12_greater 2 := ⟨by decide +kernel, by decide +kernel, tl_4 214 rfl rfl, in_X12⟩
theorem sX12_greater : CS MX12_greater 2 := ⟨bX12_greater, tl_4 213 rfl rfl⟩
def MX12_part : MD := (yX12_part, cX12_part, 11, (some (FieldType.long)), rmK 0 0 0)
theorem bX12_part : CB MX12_part 3 := ⟨by decide +kernel, by decide +kernel, tl_5 4 rfl rfl, in_X12⟩
theorem sX12_part : CS MX12_part 3 := ⟨bX12_part, tl_5 3 rfl rfl⟩
def MX12_finds : MD := (yX12_finds, cX12_finds, 2, (some (FieldType.int)), rmK 0 0 0)
theorem bX12_finds : CB MX12_finds 1 := ⟨by decide +kernel, by decide +kernel, tl_4 107 rfl rfl, in_X12⟩
theorem sX12_finds : CV MX12_finds 1 := ⟨bX12_finds, tl_4 106 rfl rfl, tl_0 20 rfl rfl⟩
def MX12_isSheet : MD := (yX12_isSheet, cX12_isSheet, 1, (some (FieldType.boolean)), rmK 1 0 0)
theorem bX12_isSheet : CB MX12_isSheet 1 := ⟨by decide +kernel, by decide +kernel, tl_4 98 rfl rfl, in_X12⟩
theorem sX12_isSheet : CS MX12_isSheet 1 := ⟨bX12_isSheet, tl_4 97 rfl rfl⟩
def MX12_sheet : MD := (yX12_sheet, cX12_sheet, 5, (some (FieldType.int)), rmK 2 0 0)
theorem bX12_sheet : CB MX12_sheet 3 := ⟨by decide +kernel, by decide +kernel, tl_4 95 rfl rfl, in_X12⟩
theorem sX12_sheet : CV MX12_sheet 3 := ⟨bX12_sheet, tl_4 93 rfl rfl, tl_4 94 rfl rfl⟩
def MX12_lose : MD := (yX12_lose, cX12_lose, 2, (some (FieldType.int)), rmK 2 0 0)
theorem bX12_lose : CB MX12_lose 1 := ⟨by decide +kernel, by decide +kernel, tl_4 111 rfl rfl, in_X12⟩
theorem sX12_lose : CV MX12_lose 1 := ⟨bX12_lose, tl_4 109 rfl rfl, tl_4 110 rfl rfl⟩
def MX12_lacks : MD := (yX12_lacks, cX12_lacks, 4, (some (FieldType.int)), rmK 1 0 0)
theorem bX12_lacks : CB MX12_lacks 3 := ⟨by decide +kernel, by decide +kernel, tl_4 119 rfl rfl, in_X12⟩
theorem sX12_lacks : CV MX12_lacks 3 := ⟨bX12_lacks, tl_4 118 rfl rfl, tl_0 21 rfl rfl⟩
def MX12_cut : MD := (yX12_cut, cX12_cut, 2, (some (FieldType.int)), rmK 0 0 0)
theorem bX12_cut : CB MX12_cut 2 := ⟨by decide +kernel, by decide +kernel, tl_4 122 rfl rfl, in_X12⟩
theorem sX12_cut : CS MX12_cut 2 := ⟨bX12_cut, tl_4 121 rfl rfl⟩
def MX12_lay : MD := (yX12_lay, cX12_lay, 6, (some (FieldType.int)), rmK 2 0 0)
theorem bX12_lay : CB MX12_lay 4 := ⟨by decide +kernel, by decide +kernel, tl_4 115 rfl rfl, in_X12⟩
theorem sX12_lay : CV MX12_lay 4 := ⟨bX12_lay, tl_4 113 rfl rfl, tl_4 114 rfl rfl⟩
def MX12_get : MD := (yX12_get, cX12_get, 4, (some (FieldType.int)), rmK 2 0 0)
theorem bX12_get : CB MX12_get 3 := ⟨by decide +kernel, by decide +kernel, tl_4 126 rfl rfl, in_X12⟩
theorem sX12_get : CV MX12_get 3 := ⟨bX12_get, tl_4 124 rfl rfl, tl_4 125 rfl rfl⟩
def MX12_copy : MD := (yX12_copy, cX12_copy, 7, (some (FieldType.int)), rmK 2 0 0)
theorem bX12_copy : CB MX12_copy 5 := ⟨by decide +kernel, by decide +kernel, tl_4 131 rfl rfl, in_X12⟩
theorem sX12_copy : CV MX12_copy 5 := ⟨bX12_copy, tl_4 129 rfl rfl, tl_4 130 rfl rfl⟩
def MX12_type : MD := (yX12_type, cX12_type, 3, (some (FieldType.int)), rmK 2 0 0)
theorem bX12_type : CB MX12_type 2 := ⟨by decide +kernel, by decide +kernel, tl_4 135 rfl rfl, in_X12⟩
theorem sX12_type : CV MX12_type 2 := ⟨bX12_type, tl_4 133 rfl rfl, tl_4 134 rfl rfl⟩
def MX12_wipe : MD := (yX12_wipe, cX12_wipe, 3, (some (FieldType.int)), rmK 2 0 0)
theorem bX12_wipe : CB MX12_wipe 1 := ⟨by decide +kernel, by decide +kernel, tl_4 143 rfl rfl, in_X12⟩
theorem sX12_wipe : CV MX12_wipe 1 := ⟨bX12_wipe, tl_4 141 rfl rfl, tl_4 142 rfl rfl⟩
def MX12_undo : MD := (yX12_undo, cX12_undo, 2, (some (FieldType.int)), rmK 2 0 0)
theorem bX12_undo : CB MX12_undo 1 := ⟨by decide +kernel, by decide +kernel, tl_4 147 rfl rfl, in_X12⟩
theorem sX12_undo : CV MX12_undo 1 := ⟨bX12_undo, tl_4 145 rfl rfl, tl_4 146 rfl rfl⟩
def MX12_figureOf : MD := (yX12_figureOf, cX12_figureOf, 2, (some (FieldType.int)), rmK 1 0 0)
theorem bX12_figureOf : CB MX12_figureOf 2 := ⟨by decide +kernel, by decide +kernel, tl_4 161 rfl rfl, in_X12⟩
theorem sX12_figureOf : CS MX12_figureOf 2 := ⟨bX12_figureOf, tl_4 160 rfl rfl⟩
def MX12_felonOf : MD := (yX12_felonOf, cX12_felonOf, 2, (some (FieldType.int)), rmK 2 0 0)
theorem bX12_felonOf : CB MX12_felonOf 2 := ⟨by decide +kernel, by decide +kernel, tl_4 158 rfl rfl, in_X12⟩
theorem sX12_felonOf : CS MX12_felonOf 2 := ⟨bX12_felonOf, tl_4 157 rfl rfl⟩
def MX12_readsFelons : MD := (yX12_readsFelons, cX12_readsFelons, 5, (some (FieldType.int)), rmK 3 0 0)
theorem bX12_readsFelons : CB MX12_readsFelons 0 := ⟨by decide +kernel, by decide +kernel, tl_4 155 rfl rfl, in_X12⟩
theorem sX12_readsFelons : CV MX12_readsFelons 0 := ⟨bX12_readsFelons, tl_4 154 rfl rfl, tl_0 22 rfl rfl⟩
def MX12_readsNames : MD := (yX12_readsNames, cX12_readsNames, 3, (some (FieldType.int)), rmK 1 0 0)
theorem bX12_readsNames : CB MX12_readsNames 0 := ⟨by decide +kernel, by decide +kernel, tl_4 166 rfl rfl, in_X12⟩
theorem sX12_readsNames : CV MX12_readsNames 0 := ⟨bX12_readsNames, tl_4 165 rfl rfl, tl_0 23 rfl rfl⟩
def MX12_fault : MD := (yX12_fault, cX12_fault, 2, (some (FieldType.int)), rmK 4 0 0)
theorem bX12_fault : CB MX12_fault 1 := ⟨by decide +kernel, by decide +kernel, tl_4 151 rfl rfl, in_X12⟩
theorem sX12_fault : CV MX12_fault 1 := ⟨bX12_fault, tl_4 149 rfl rfl, tl_4 150 rfl rfl⟩
def MX12_isFelon : MD := (yX12_isFelon, cX12_isFelon, 2, (some (FieldType.boolean)), rmK 1 0 0)
theorem bX12_isFelon : CB MX12_isFelon 1 := ⟨by decide +kernel, by decide +kernel, tl_4 176 rfl rfl, in_X12⟩
theorem sX12_isFelon : CV MX12_isFelon 1 := ⟨bX12_isFelon, tl_4 175 rfl rfl, tl_0 24 rfl rfl⟩
def MX12_felon : MD := (yX12_felon, cX12_felon, 3, (some (FieldType.int)), rmK 4 0 0)
theorem bX12_felon : CB MX12_felon 2 := ⟨by decide +kernel, by decide +kernel, tl_4 172 rfl rfl, in_X12⟩
theorem sX12_felon : CV MX12_felon 2 := ⟨bX12_felon, tl_4 170 rfl rfl, tl_4 171 rfl rfl⟩
def MX12_name : MD := (yX12_name, cX12_name, 2, (some (FieldType.int)), rmK 2 0 0)
theorem bX12_name : CB MX12_name 1 := ⟨by decide +kernel, by decide +kernel, tl_4 181 rfl rfl, in_X12⟩
theorem sX12_name : CV MX12_name 1 := ⟨bX12_name, tl_4 179 rfl rfl, tl_4 180 rfl rfl⟩
def MX12_set : MD := (yX12_set, cX12_set, 4, (some (FieldType.int)), rmK 1 0 0)
theorem bX12_set : CB MX12_set 2 := ⟨by decide +kernel, by decide +kernel, tl_4 186 rfl rfl, in_X12⟩
theorem sX12_set : CV MX12_set 2 := ⟨bX12_set, tl_4 184 rfl rfl, tl_4 185 rfl rfl⟩
def MX12_endOf : MD := (yX12_endOf, cX12_endOf, 3, (some (FieldType.int)), rmK 0 0 0)
theorem bX12_endOf : CB MX12_endOf 1 := ⟨by decide +kernel, by decide +kernel, tl_4 207 rfl rfl, in_X12⟩
theorem sX12_endOf : CV MX12_endOf 1 := ⟨bX12_endOf, tl_4 206 rfl rfl, tl_0 27 rfl rfl⟩
def MX12_winsBy : MD := (yX12_winsBy, cX12_winsBy, 3, (some (FieldType.int)), rmK 1 0 0)
theorem bX12_winsBy : CB MX12_winsBy 2 := ⟨by decide +kernel, by decide +kernel, tl_4 211 rfl rfl, in_X12⟩
theorem sX12_winsBy : CV MX12_winsBy 2 := ⟨bX12_winsBy, tl_4 210 rfl rfl, tl_0 28 rfl rfl⟩
def MX12_strongBehind : MD := (yX12_strongBehind, cX12_strongBehind, 3, (some (FieldType.int)), rmK 1 0 0)
theorem bX12_strongBehind : CB MX12_strongBehind 2 := ⟨by decide +kernel, by decide +kernel, tl_4 221 rfl rfl, in_X12⟩
theorem sX12_strongBehind : CV MX12_strongBehind 2 := ⟨bX12_strongBehind, tl_4 220 rfl rfl, tl_0 29 rfl rfl⟩
def MX12_goes : MD := (yX12_goes, cX12_goes, 5, none, rmK 2 0 0)
theorem bX12_goes : CB MX12_goes 0 := ⟨by decide +kernel, by decide +kernel, tl_4 200 rfl rfl, in_X12⟩
theorem sX12_goes : CV MX12_goes 0 := ⟨bX12_goes, tl_4 199 rfl rfl, tl_0 26 rfl rfl⟩
def MX12_find : MD := (yX12_find, cX12_find, 1, none, rmK 4 0 0)
theorem bX12_find : CB MX12_find 0 := ⟨by decide +kernel, by decide +kernel, tl_4 196 rfl rfl, in_X12⟩
theorem sX12_find : CV MX12_find 0 := ⟨bX12_find, tl_4 195 rfl rfl, tl_0 25 rfl rfl⟩
def MX12_comes : MD := (yX12_comes, cX12_comes, 3, (some (FieldType.int)), rmK 5 0 0)
theorem bX12_comes : CB MX12_comes 2 := ⟨by decide +kernel, by decide +kernel, tl_4 192 rfl rfl, in_X12⟩
theorem sX12_comes : CV MX12_comes 2 := ⟨bX12_comes, tl_4 190 rfl rfl, tl_4 191 rfl rfl⟩
def MX12_behindOf : MD := (yX12_behindOf, cX12_behindOf, 3, (some (FieldType.int)), rmK 0 0 0)
theorem bX12_behindOf : CB MX12_behindOf 2 := ⟨by decide +kernel, by decide +kernel, tl_4 229 rfl rfl, in_X12⟩
theorem sX12_behindOf : CV MX12_behindOf 2 := ⟨bX12_behindOf, tl_4 228 rfl rfl, tl_0 30 rfl rfl⟩
def MX12_behind : MD := (yX12_behind, cX12_behind, 3, (some (FieldType.int)), rmK 5 0 0)
theorem bX12_behind : CB MX12_behind 2 := ⟨by decide +kernel, by decide +kernel, tl_4 225 rfl rfl, in_X12⟩
theorem sX12_behind : CV MX12_behind 2 := ⟨bX12_behind, tl_4 223 rfl rfl, tl_4 224 rfl rfl⟩
def MX12_aliveOf : MD := (yX12_aliveOf, cX12_aliveOf, 6, (some (FieldType.long)), rmK 0 0 0)
theorem bX12_aliveOf : CB MX12_aliveOf 1 := ⟨by decide +kernel, by decide +kernel, tl_4 237 rfl rfl, in_X12⟩
theorem sX12_aliveOf : CV MX12_aliveOf 1 := ⟨bX12_aliveOf, tl_4 236 rfl rfl, tl_0 31 rfl rfl⟩
def MX12_tells : MD := (yX12_tells, cX12_tells, 3, (some (FieldType.long)), rmK 1 0 0)
theorem bX12_tells : CB MX12_tells 2 := ⟨by decide +kernel, by decide +kernel, tl_5 0 rfl rfl, in_X12⟩
theorem sX12_tells : CS MX12_tells 2 := ⟨bX12_tells, tl_4 239 rfl rfl⟩
def MX12_alive : MD := (yX12_alive, cX12_alive, 3, (some (FieldType.long)), rmK 5 0 0)
theorem bX12_alive : CB MX12_alive 2 := ⟨by decide +kernel, by decide +kernel, tl_4 233 rfl rfl, in_X12⟩
theorem sX12_alive : CV MX12_alive 2 := ⟨bX12_alive, tl_4 231 rfl rfl, tl_4 232 rfl rfl⟩
def MX12_livesNow : MD := (yX12_livesNow, cX12_livesNow, 1, (some (FieldType.long)), rmK 1 0 0)
theorem bX12_livesNow : CB MX12_livesNow 0 := ⟨by decide +kernel, by decide +kernel, tl_5 16 rfl rfl, in_X12⟩
theorem sX12_livesNow : CV MX12_livesNow 0 := ⟨bX12_livesNow, tl_5 15 rfl rfl, tl_0 32 rfl rfl⟩
def MX12_lives : MD := (yX12_lives, cX12_lives, 2, (some (FieldType.long)), rmK 5 0 0)
theorem bX12_lives : CB MX12_lives 1 := ⟨by decide +kernel, by decide +kernel, tl_5 12 rfl rfl, in_X12⟩
theorem sX12_lives : CV MX12_lives 1 := ⟨bX12_lives, tl_5 10 rfl rfl, tl_5 11 rfl rfl⟩
def MX12_isHarmed : MD := (yX12_isHarmed, cX12_isHarmed, 2, (some (FieldType.boolean)), rmK 0 0 0)
theorem bX12_isHarmed : CB MX12_isHarmed 1 := ⟨by decide +kernel, by decide +kernel, tl_5 28 rfl rfl, in_X12⟩
theorem sX12_isHarmed : CV MX12_isHarmed 1 := ⟨bX12_isHarmed, tl_5 27 rfl rfl, tl_0 34 rfl rfl⟩
def MX12_harmNow : MD := (yX12_harmNow, cX12_harmNow, 4, (some (FieldType.long)), rmK 1 0 0)
theorem bX12_harmNow : CB MX12_harmNow 0 := ⟨by decide +kernel, by decide +kernel, tl_5 24 rfl rfl, in_X12⟩
theorem sX12_harmNow : CV MX12_harmNow 0 := ⟨bX12_harmNow, tl_5 23 rfl rfl, tl_0 33 rfl rfl⟩
def MX12_harm : MD := (yX12_harm, cX12_harm, 2, (some (FieldType.long)), rmK 5 0 0)
theorem bX12_harm : CB MX12_harm 1 := ⟨by decide +kernel, by decide +kernel, tl_5 20 rfl rfl, in_X12⟩
theorem sX12_harm : CV MX12_harm 1 := ⟨bX12_harm, tl_5 18 rfl rfl, tl_5 19 rfl rfl⟩
def MX12_worstNow : MD := (yX12_worstNow, cX12_worstNow, 3, (some (FieldType.int)), rmK 0 0 0)
theorem bX12_worstNow : CB MX12_worstNow 0 := ⟨by decide +kernel, by decide +kernel, tl_5 36 rfl rfl, in_X12⟩
theorem sX12_worstNow : CV MX12_worstNow 0 := ⟨bX12_worstNow, tl_5 35 rfl rfl, tl_0 35 rfl rfl⟩
def MX12_worst : MD := (yX12_worst, cX12_worst, 1, (some (FieldType.int)), rmK 5 0 0)
theorem bX12_worst : CB MX12_worst 0 := ⟨by decide +kernel, by decide +kernel, tl_5 32 rfl rfl, in_X12⟩
theorem sX12_worst : CV MX12_worst 0 := ⟨bX12_worst, tl_5 30 rfl rfl, tl_5 31 rfl rfl⟩
def MX12_fateOf : MD := (yX12_fateOf, cX12_fateOf, 3, (some (FieldType.int)), rmK 0 0 0)
theorem bX12_fateOf : CB MX12_fateOf 1 := ⟨by decide +kernel, by decide +kernel, tl_5 44 rfl rfl, in_X12⟩
theorem sX12_fateOf : CV MX12_fateOf 1 := ⟨bX12_fateOf, tl_5 43 rfl rfl, tl_0 36 rfl rfl⟩
def MX12_fate : MD := (yX12_fate, cX12_fate, 2, (some (FieldType.int)), rmK 5 0 0)
theorem bX12_fate : CB MX12_fate 1 := ⟨by decide +kernel, by decide +kernel, tl_5 40 rfl rfl, in_X12⟩
theorem sX12_fate : CV MX12_fate 1 := ⟨bX12_fate, tl_5 38 rfl rfl, tl_5 39 rfl rfl⟩
def MX12_adds : MD := (yX12_adds, cX12_adds, 4, none, rmK 2 0 0)
theorem bX12_adds : CB MX12_adds 2 := ⟨by decide +kernel, by decide +kernel, tl_5 58 rfl rfl, in_X12⟩
theorem sX12_adds : CV MX12_adds 2 := ⟨bX12_adds, tl_5 57 rfl rfl, tl_0 38 rfl rfl⟩
def MX12_keeps : MD := (yX12_keeps, cX12_keeps, 3, none, rmK 0 0 0)
theorem bX12_keeps : CB MX12_keeps 1 := ⟨by decide +kernel, by decide +kernel, tl_5 63 rfl rfl, in_X12⟩
theorem sX12_keeps : CV MX12_keeps 1 := ⟨bX12_keeps, tl_5 62 rfl rfl, tl_0 39 rfl rfl⟩
def MX12_findOrder : MD := (yX12_findOrder, cX12_findOrder, 4, none, rmK 3 0 0)
theorem bX12_findOrder : CB MX12_findOrder 0 := ⟨by decide +kernel, by decide +kernel, tl_5 54 rfl rfl, in_X12⟩
theorem sX12_findOrder : CV MX12_findOrder 0 := ⟨bX12_findOrder, tl_5 53 rfl rfl, tl_0 37 rfl rfl⟩
def MX12_orderBy : MD := (yX12_orderBy, cX12_orderBy, 2, (some (FieldType.int)), rmK 0 0 0)
theorem bX12_orderBy : CB MX12_orderBy 1 := ⟨by decide +kernel, by decide +kernel, tl_5 67 rfl rfl, in_X12⟩
theorem sX12_orderBy : CV MX12_orderBy 1 := ⟨bX12_orderBy, tl_5 66 rfl rfl, tl_0 40 rfl rfl⟩
def MX12_order : MD := (yX12_order, cX12_order, 2, (some (FieldType.int)), rmK 5 0 0)
theorem bX12_order : CB MX12_order 1 := ⟨by decide +kernel, by decide +kernel, tl_5 48 rfl rfl, in_X12⟩
theorem sX12_order : CV MX12_order 1 := ⟨bX12_order, tl_5 46 rfl rfl, tl_5 47 rfl rfl⟩
def MX12_best : MD := (yX12_best, cX12_best, 2, (some (FieldType.long)), rmK 5 0 0)
theorem bX12_best : CB MX12_best 1 := ⟨by decide +kernel, by decide +kernel, tl_5 71 rfl rfl, in_X12⟩
theorem sX12_best : CV MX12_best 1 := ⟨bX12_best, tl_5 69 rfl rfl, tl_5 70 rfl rfl⟩
def MX12_priceNow : MD := (yX12_priceNow, cX12_priceNow, 9, (some (FieldType.int)), rmK 3 0 0)
theorem bX12_priceNow : CB MX12_priceNow 0 := ⟨by decide +kernel, by decide +kernel, tl_5 79 rfl rfl, in_X12⟩
theorem sX12_priceNow : CV MX12_priceNow 0 := ⟨bX12_priceNow, tl_5 78 rfl rfl, tl_0 41 rfl rfl⟩
def MX12_price : MD := (yX12_price, cX12_price, 1, (some (FieldType.int)), rmK 5 0 0)
theorem bX12_price : CB MX12_price 0 := ⟨by decide +kernel, by decide +kernel, tl_5 75 rfl rfl, in_X12⟩
theorem sX12_price : CV MX12_price 0 := ⟨bX12_price, tl_5 73 rfl rfl, tl_5 74 rfl rfl⟩
def MX12_ruleOf : MD := (yX12_ruleOf, cX12_ruleOf, 5, (some (FieldType.int)), rmK 3 0 0)
theorem bX12_ruleOf : CB MX12_ruleOf 1 := ⟨by decide +kernel, by decide +kernel, tl_5 87 rfl rfl, in_X12⟩
theorem sX12_ruleOf : CV MX12_ruleOf 1 := ⟨bX12_ruleOf, tl_5 86 rfl rfl, tl_0 42 rfl rfl⟩
def MX12_rule : MD := (yX12_rule, cX12_rule, 2, (some (FieldType.int)), rmK 5 0 0)
theorem bX12_rule : CB MX12_rule 1 := ⟨by decide +kernel, by decide +kernel, tl_5 83 rfl rfl, in_X12⟩
theorem sX12_rule : CV MX12_rule 1 := ⟨bX12_rule, tl_5 81 rfl rfl, tl_5 82 rfl rfl⟩
def MX12_chainOf : MD := (yX12_chainOf, cX12_chainOf, 4, (some (FieldType.int)), rmK 2 0 0)
theorem bX12_chainOf : CB MX12_chainOf 1 := ⟨by decide +kernel, by decide +kernel, tl_5 95 rfl rfl, in_X12⟩
theorem sX12_chainOf : CV MX12_chainOf 1 := ⟨bX12_chainOf, tl_5 94 rfl rfl, tl_0 43 rfl rfl⟩
def MX12_chain : MD := (yX12_chain, cX12_chain, 2, (some (FieldType.int)), rmK 5 0 0)
theorem bX12_chain : CB MX12_chain 1 := ⟨by decide +kernel, by decide +kernel, tl_5 91 rfl rfl, in_X12⟩
theorem sX12_chain : CV MX12_chain 1 := ⟨bX12_chain, tl_5 89 rfl rfl, tl_5 90 rfl rfl⟩
def MX12_seen : MD := (yX12_seen, cX12_seen, 3, (some (FieldType.int)), rmK 1 0 0)
theorem bX12_seen : CB MX12_seen 2 := ⟨by decide +kernel, by decide +kernel, tl_5 99 rfl rfl, in_X12⟩
theorem sX12_seen : CV MX12_seen 2 := ⟨bX12_seen, tl_5 97 rfl rfl, tl_5 98 rfl rfl⟩
def MX12_forget : MD := (yX12_forget, cX12_forget, 2, (some (FieldType.int)), rmK 0 0 0)
theorem bX12_forget : CB MX12_forget 0 := ⟨by decide +kernel, by decide +kernel, tl_5 103 rfl rfl, in_X12⟩
theorem sX12_forget : CV MX12_forget 0 := ⟨bX12_forget, tl_5 101 rfl rfl, tl_5 102 rfl rfl⟩
def MX12_read : MD := (yX12_read, cX12_read, 4, (some (FieldType.int)), rmK 2 0 0)
theorem bX12_read : CB MX12_read 1 := ⟨by decide +kernel, by decide +kernel, tl_5 107 rfl rfl, in_X12⟩
theorem sX12_read : CV MX12_read 1 := ⟨bX12_read, tl_5 105 rfl rfl, tl_5 106 rfl rfl⟩
def MX12_isSeen : MD := (yX12_isSeen, cX12_isSeen, 3, (some (FieldType.boolean)), rmK 3 0 0)
theorem bX12_isSeen : CB MX12_isSeen 0 := ⟨by decide +kernel, by decide +kernel, tl_5 120 rfl rfl, in_X12⟩
theorem sX12_isSeen : CV MX12_isSeen 0 := ⟨bX12_isSeen, tl_5 119 rfl rfl, tl_0 45 rfl rfl⟩
def MX12_bribesNow : MD := (yX12_bribesNow, cX12_bribesNow, 4, (some (FieldType.int)), rmK 4 0 0)
theorem bX12_bribesNow : CB MX12_bribesNow 0 := ⟨by decide +kernel, by decide +kernel, tl_5 116 rfl rfl, in_X12⟩
theorem sX12_bribesNow : CV MX12_bribesNow 0 := ⟨bX12_bribesNow, tl_5 115 rfl rfl, tl_0 44 rfl rfl⟩
def MX12_bribes : MD := (yX12_bribes, cX12_bribes, 1, (some (FieldType.int)), rmK 5 0 0)
theorem bX12_bribes : CB MX12_bribes 0 := ⟨by decide +kernel, by decide +kernel, tl_5 112 rfl rfl, in_X12⟩
theorem sX12_bribes : CV MX12_bribes 0 := ⟨bX12_bribes, tl_5 110 rfl rfl, tl_5 111 rfl rfl⟩
def MX12_kindsOf : MD := (yX12_kindsOf, cX12_kindsOf, 5, (some (FieldType.int)), rmK 4 0 0)
theorem bX12_kindsOf : CB MX12_kindsOf 1 := ⟨by decide +kernel, by decide +kernel, tl_5 128 rfl rfl, in_X12⟩
theorem sX12_kindsOf : CV MX12_kindsOf 1 := ⟨bX12_kindsOf, tl_5 127 rfl rfl, tl_0 46 rfl rfl⟩
def MX12_kinds : MD := (yX12_kinds, cX12_kinds, 2, (some (FieldType.int)), rmK 5 0 0)
theorem bX12_kinds : CB MX12_kinds 1 := ⟨by decide +kernel, by decide +kernel, tl_5 124 rfl rfl, in_X12⟩
theorem sX12_kinds : CV MX12_kinds 1 := ⟨bX12_kinds, tl_5 122 rfl rfl, tl_5 123 rfl rfl⟩
def MX12_askNow : MD := (yX12_askNow, cX12_askNow, 8, (some (FieldType.int)), rmK 5 0 0)
theorem bX12_askNow : CB MX12_askNow 0 := ⟨by decide +kernel, by decide +kernel, tl_5 136 rfl rfl, in_X12⟩
theorem sX12_askNow : CV MX12_askNow 0 := ⟨bX12_askNow, tl_5 135 rfl rfl, tl_0 47 rfl rfl⟩
def MX12_ask : MD := (yX12_ask, cX12_ask, 1, (some (FieldType.int)), rmK 6 0 0)
theorem bX12_ask : CB MX12_ask 0 := ⟨by decide +kernel, by decide +kernel, tl_5 132 rfl rfl, in_X12⟩
theorem sX12_ask : CV MX12_ask 0 := ⟨bX12_ask, tl_5 130 rfl rfl, tl_5 131 rfl rfl⟩
def MX12_lot : MD := (yX12_lot, cX12_lot, 2, (some (FieldType.int)), rmK 0 0 0)
theorem bX12_lot : CB MX12_lot 1 := ⟨by decide +kernel, by decide +kernel, tl_5 149 rfl rfl, in_X12⟩
theorem sX12_lot : CV MX12_lot 1 := ⟨bX12_lot, tl_5 148 rfl rfl, tl_0 49 rfl rfl⟩
def MX12_gaolsOf : MD := (yX12_gaolsOf, cX12_gaolsOf, 8, (some (FieldType.int)), rmK 1 0 0)
theorem bX12_gaolsOf : CB MX12_gaolsOf 3 := ⟨by decide +kernel, by decide +kernel, tl_5 145 rfl rfl, in_X12⟩
theorem sX12_gaolsOf : CV MX12_gaolsOf 3 := ⟨bX12_gaolsOf, tl_5 144 rfl rfl, tl_0 48 rfl rfl⟩
def MX12_gaols : MD := (yX12_gaols, cX12_gaols, 4, (some (FieldType.int)), rmK 5 0 0)
theorem bX12_gaols : CB MX12_gaols 3 := ⟨by decide +kernel, by decide +kernel, tl_5 140 rfl rfl, in_X12⟩
theorem sX12_gaols : CV MX12_gaols 3 := ⟨bX12_gaols, tl_5 138 rfl rfl, tl_5 139 rfl rfl⟩
def MX12_write : MD := (yX12_write, cX12_write, 4, (some (FieldType.int)), rmK 5 0 0)
theorem bX12_write : CB MX12_write 1 := ⟨by decide +kernel, by decide +kernel, tl_5 154 rfl rfl, in_X12⟩
theorem sX12_write : CV MX12_write 1 := ⟨bX12_write, tl_5 152 rfl rfl, tl_5 153 rfl rfl⟩
def MX12_fights : MD := (yX12_fights, cX12_fights, 3, (some (FieldType.int)), rmK 0 0 0)
theorem bX12_fights : CB MX12_fights 0 := ⟨by decide +kernel, by decide +kernel, tl_5 162 rfl rfl, in_X12⟩
theorem sX12_fights : CV MX12_fights 0 := ⟨bX12_fights, tl_5 161 rfl rfl, tl_0 50 rfl rfl⟩
def MX12_named : MD := (yX12_named, cX12_named, 3, (some (FieldType.int)), rmK 1 0 0)
theorem bX12_named : CB MX12_named 0 := ⟨by decide +kernel, by decide +kernel, tl_5 166 rfl rfl, in_X12⟩
theorem sX12_named : CV MX12_named 0 := ⟨bX12_named, tl_5 165 rfl rfl, tl_0 51 rfl rfl⟩
def MX12_count : MD := (yX12_count, cX12_count, 2, (some (FieldType.int)), rmK 5 0 0)
theorem bX12_count : CB MX12_count 1 := ⟨by decide +kernel, by decide +kernel, tl_5 158 rfl rfl, in_X12⟩
theorem sX12_count : CV MX12_count 1 := ⟨bX12_count, tl_5 156 rfl rfl, tl_5 157 rfl rfl⟩
def MX12_tellsBoth : MD := (yX12_tellsBoth, cX12_tellsBoth, 4, (some (FieldType.long)), rmK 2 0 0)
theorem bX12_tellsBoth : CB MX12_tellsBoth 2 := ⟨by decide +kernel, by decide +kernel, tl_5 176 rfl rfl, in_X12⟩
theorem sX12_tellsBoth : CS MX12_tellsBoth 2 := ⟨bX12_tellsBoth, tl_5 175 rfl rfl⟩
def MX12_digest : MD := (yX12_digest, cX12_digest, 5, (some (FieldType.long)), rmK 6 0 0)
theorem bX12_digest : CB MX12_digest 0 := ⟨by decide +kernel, by decide +kernel, tl_5 170 rfl rfl, in_X12⟩
theorem sX12_digest : CV MX12_digest 0 := ⟨bX12_digest, tl_5 168 rfl rfl, tl_5 169 rfl rfl⟩
def MJ6_bitCount_0f7a4 : MD := (yJ6_bitCount_0f7a4, cJ6_bitCount_0f7a4, 1, (some (FieldType.int)), rmK 0 0 0)
theorem bJ6_bitCount_0f7a4 : CB MJ6_bitCount_0f7a4 1 := ⟨by decide +kernel, by decide +kernel, tl_3 14 rfl rfl, in_J6⟩
theorem sJ6_bitCount_0f7a4 : CS MJ6_bitCount_0f7a4 1 := ⟨bJ6_bitCount_0f7a4, tl_3 13 rfl rfl⟩
def MJ9_max_7cf53 : MD := (yJ9_max_7cf53, cJ9_max_7cf53, 2, (some (FieldType.int)), rmK 0 0 0)
theorem bJ9_max_7cf53 : CB MJ9_max_7cf53 2 := ⟨by decide +kernel, by decide +kernel, tl_1 33 rfl rfl, in_J9⟩
theorem sJ9_max_7cf53 : CS MJ9_max_7cf53 2 := ⟨bJ9_max_7cf53, tl_1 32 rfl rfl⟩
def MJ9_max_f86c9 : MD := (yJ9_max_f86c9, cJ9_max_f86c9, 4, (some (FieldType.long)), rmK 0 0 0)
theorem bJ9_max_f86c9 : CB MJ9_max_f86c9 2 := ⟨by decide +kernel, by decide +kernel, tl_3 28 rfl rfl, in_J9⟩
theorem sJ9_max_f86c9 : CS MJ9_max_f86c9 2 := ⟨bJ9_max_f86c9, tl_3 27 rfl rfl⟩
def MJ9_min_7cf53 : MD := (yJ9_min_7cf53, cJ9_min_7cf53, 2, (some (FieldType.int)), rmK 0 0 0)
theorem bJ9_min_7cf53 : CB MJ9_min_7cf53 2 := ⟨by decide +kernel, by decide +kernel, tl_2 80 rfl rfl, in_J9⟩
theorem sJ9_min_7cf53 : CS MJ9_min_7cf53 2 := ⟨bJ9_min_7cf53, tl_2 79 rfl rfl⟩
end
section
theorem dX0_init_0 : decode cX0_init 0 = .ok (.aload_n 0, 1) := by decide +kernel
theorem dX0_init_1 : decode cX0_init 1 = .ok (.invokespecial 3, 3) := by decide +kernel
theorem dX0_init_4 : decode cX0_init 4 = .ok (.aload_n 0, 1) := by decide +kernel
theorem dX0_init_5 : decode cX0_init 5 = .ok (.bipush 12, 2) := by decide +kernel
theorem dX0_init_7 : decode cX0_init 7 = .ok (.newarray .int, 2) := by decide +kernel
theorem dX0_init_9 : decode cX0_init 9 = .ok (.putfield 9, 3) := by decide +kernel
theorem dX0_init_12 : decode cX0_init 12 = .ok (.aload_n 0, 1) := by decide +kernel
theorem dX0_init_13 : decode cX0_init 13 = .ok (.bipush 12, 2) := by decide +kernel
theorem dX0_init_15 : decode cX0_init 15 = .ok (.newarray .int, 2) := by decide +kernel
theorem dX0_init_17 : decode cX0_init 17 = .ok (.putfield 15, 3) := by decide +kernel
theorem dX0_init_20 : decode cX0_init 20 = .ok (.aload_n 0, 1) := by decide +kernel
theorem dX0_init_21 : decode cX0_init 21 = .ok (.bipush 13, 2) := by decide +kernel
theorem dX0_init_23 : decode cX0_init 23 = .ok (.newarray .int, 2) := by decide +kernel
theorem dX0_init_25 : decode cX0_init 25 = .ok (.putfield 18, 3) := by decide +kernel
theorem dX0_init_28 : decode cX0_init 28 = .ok (.aload_n 0, 1) := by decide +kernel
theorem dX0_init_29 : decode cX0_init 29 = .ok (.bipush 13, 2) := by decide +kernel
theorem dX0_init_31 : decode cX0_init 31 = .ok (.newarray .int, 2) := by decide +kernel
theorem dX0_init_33 : decode cX0_init 33 = .ok (.putfield 21, 3) := by decide +kernel
theorem dX0_init_36 : decode cX0_init 36 = .ok (.aload_n 0, 1) := by decide +kernel
theorem dX0_init_37 : decode cX0_init 37 = .ok (.bipush 13, 2) := by decide +kernel
theorem dX0_init_39 : decode cX0_init 39 = .ok (.newarray .long, 2) := by decide +kernel
theorem dX0_init_41 : decode cX0_init 41 = .ok (.putfield 24, 3) := by decide +kernel
theorem dX0_init_44 : decode cX0_init 44 = .ok (.aload_n 0, 1) := by decide +kernel
theorem dX0_init_45 : decode cX0_init 45 = .ok (.bipush 13, 2) := by decide +kernel
theorem dX0_init_47 : decode cX0_init 47 = .ok (.newarray .int, 2) := by decide +kernel
theorem dX0_init_49 : decode cX0_init 49 = .ok (.putfield 28, 3) := by decide +kernel
theorem dX0_init_52 : decode cX0_init 52 = .ok (.aload_n 0, 1) := by decide +kernel
theorem dX0_init_53 : decode cX0_init 53 = .ok (.bipush 8, 2) := by decide +kernel
theorem dX0_init_55 : decode cX0_init 55 = .ok (.newarray .int, 2) := by decide +kernel
theorem dX0_init_57 : decode cX0_init 57 = .ok (.putfield 31, 3) := by decide +kernel
theorem dX0_init_60 : decode cX0_init 60 = .ok (.return_, 1) := by decide +kernel
theorem dX0_setOut_0 : decode cX0_setOut 0 = .ok (.aload_n 0, 1) := by decide +kernel
theorem dX0_setOut_1 : decode cX0_setOut 1 = .ok (.iconst 0, 1) := by decide +kernel
theorem dX0_setOut_2 : decode cX0_setOut 2 = .ok (.putfield 34, 3) := by decide +kernel
theorem dX0_setOut_5 : decode cX0_setOut 5 = .ok (.aload_n 0, 1) := by decide +kernel
theorem dX0_setOut_6 : decode cX0_setOut 6 = .ok (.iload_n 2, 1) := by decide +kernel
theorem dX0_setOut_7 : decode cX0_setOut 7 = .ok (.putfield 38, 3) := by decide +kernel
theorem dX0_setOut_10 : decode cX0_setOut 10 = .ok (.aload_n 0, 1) := by decide +kernel
theorem dX0_setOut_11 : decode cX0_setOut 11 = .ok (.lconst 0, 1) := by decide +kernel
theorem dX0_setOut_12 : decode cX0_setOut 12 = .ok (.putfield 41, 3) := by decide +kernel
theorem dX0_setOut_15 : decode cX0_setOut 15 = .ok (.aload_n 0, 1) := by decide +kernel
theorem dX0_setOut_16 : decode cX0_setOut 16 = .ok (.getfield 18, 3) := by decide +kernel
theorem dX0_setOut_19 : decode cX0_setOut 19 = .ok (.iconst 0, 1) := by decide +kernel
theorem dX0_setOut_20 : decode cX0_setOut 20 = .ok (.iload_n 1, 1) := by decide +kernel
theorem dX0_setOut_21 : decode cX0_setOut 21 = .ok (.iastore, 1) := by decide +kernel
theorem dX0_setOut_22 : decode cX0_setOut 22 = .ok (.aload_n 0, 1) := by decide +kernel
theorem dX0_setOut_23 : decode cX0_setOut 23 = .ok (.getfield 21, 3) := by decide +kernel
theorem dX0_setOut_26 : decode cX0_setOut 26 = .ok (.iconst 0, 1) := by decide +kernel
theorem dX0_setOut_27 : decode cX0_setOut 27 = .ok (.iconst 0, 1) := by decide +kernel
theorem dX0_setOut_28 : decode cX0_setOut 28 = .ok (.iastore, 1) := by decide +kernel
theorem dX0_setOut_29 : decode cX0_setOut 29 = .ok (.aload_n 0, 1) := by decide +kernel
theorem dX0_setOut_30 : decode cX0_setOut 30 = .ok (.getfield 24, 3) := by decide +kernel
theorem dX0_setOut_33 : decode cX0_setOut 33 = .ok (.iconst 0, 1) := by decide +kernel
theorem dX0_setOut_34 : decode cX0_setOut 34 = .ok (.lconst 1, 1) := by decide +kernel
theorem dX0_setOut_35 : decode cX0_setOut 35 = .ok (.lastore, 1) := by decide +kernel
theorem dX0_setOut_36 : decode cX0_setOut 36 = .ok (.aload_n 0, 1) := by decide +kernel
theorem dX0_setOut_37 : decode cX0_setOut 37 = .ok (.getfield 28, 3) := by decide +kernel
theorem dX0_setOut_40 : decode cX0_setOut 40 = .ok (.iconst 0, 1) := by decide +kernel
theorem dX0_setOut_41 : decode cX0_setOut 41 = .ok (.iconst 0, 1) := by decide +kernel
theorem dX0_setOut_42 : decode cX0_setOut 42 = .ok (.iastore, 1) := by decide +kernel
theorem dX0_setOut_43 : decode cX0_setOut 43 = .ok (.iconst 0, 1) := by decide +kernel
theorem dX0_setOut_44 : decode cX0_setOut 44 = .ok (.istore_n 3, 1) := by decide +kernel
theorem dX0_setOut_45 : decode cX0_setOut 45 = .ok (.iload_n 3, 1) := by decide +kernel
theorem dX0_setOut_46 : decode cX0_setOut 46 = .ok (.bipush 8, 2) := by decide +kernel
theorem dX0_setOut_48 : decode cX0_setOut 48 = .ok (.if_icmp .ge 16, 3) := by decide +kernel
theorem dX0_setOut_51 : decode cX0_setOut 51 = .ok (.aload_n 0, 1) := by decide +kernel
theorem dX0_setOut_52 : decode cX0_setOut 52 = .ok (.getfield 31, 3) := by decide +kernel
theorem dX0_setOut_55 : decode cX0_setOut 55 = .ok (.iload_n 3, 1) := by decide +kernel
theorem dX0_setOut_56 : decode cX0_setOut 56 = .ok (.iconst (-1), 1) := by decide +kernel
theorem dX0_setOut_57 : decode cX0_setOut 57 = .ok (.iastore, 1) := by decide +kernel
theorem dX0_setOut_58 : decode cX0_setOut 58 = .ok (.iinc 3 1, 3) := by decide +kernel
theorem dX0_setOut_61 : decode cX0_setOut 61 = .ok (.goto (-16), 3) := by decide +kernel
theorem dX0_setOut_64 : decode cX0_setOut 64 = .ok (.return_, 1) := by decide +kernel
theorem dX0_walk_0 : decode cX0_walk 0 = .ok (.aload_n 0, 1) := by decide +kernel
theorem dX0_walk_1 : decode cX0_walk 1 = .ok (.iload_n 3, 1) := by decide +kernel
theorem dX0_walk_2 : decode cX0_walk 2 = .ok (.iload 4, 2) := by decide +kernel
theorem dX0_walk_4 : decode cX0_walk 4 = .ok (.invokevirtual 45, 3) := by decide +kernel
theorem dX0_walk_7 : decode cX0_walk 7 = .ok (.aload_n 0, 1) := by decide +kernel
theorem dX0_walk_8 : decode cX0_walk 8 = .ok (.aload_n 2, 1) := by decide +kernel
theorem dX0_walk_9 : decode cX0_walk 9 = .ok (.getfield 49, 3) := by decide +kernel
theorem dX0_walk_12 : decode cX0_walk 12 = .ok (.putfield 34, 3) := by decide +kernel
theorem dX0_walk_15 : decode cX0_walk 15 = .ok (.iconst 0, 1) := by decide +kernel
theorem dX0_walk_16 : decode cX0_walk 16 = .ok (.istore 6, 2) := by decide +kernel
theorem dX0_walk_18 : decode cX0_walk 18 = .ok (.iload 6, 2) := by decide +kernel
theorem dX0_walk_20 : decode cX0_walk 20 = .ok (.aload_n 0, 1) := by decide +kernel
theorem dX0_walk_21 : decode cX0_walk 21 = .ok (.getfield 34, 3) := by decide +kernel
theorem dX0_walk_24 : decode cX0_walk 24 = .ok (.if_icmp .ge 122, 3) := by decide +kernel
theorem dX0_walk_27 : decode cX0_walk 27 = .ok (.aload_n 2, 1) := by decide +kernel
theorem dX0_walk_28 : decode cX0_walk 28 = .ok (.iload 6, 2) := by decide +kernel
theorem dX0_walk_30 : decode cX0_walk 30 = .ok (.invokevirtual 54, 3) := by decide +kernel
theorem dX0_walk_33 : decode cX0_walk 33 = .ok (.istore 7, 2) := by decide +kernel
theorem dX0_walk_35 : decode cX0_walk 35 = .ok (.aload_n 0, 1) := by decide +kernel
theorem dX0_walk_36 : decode cX0_walk 36 = .ok (.getfield 21, 3) := by decide +kernel
theorem dX0_walk_39 : decode cX0_walk 39 = .ok (.iload 6, 2) := by decide +kernel
theorem dX0_walk_41 : decode cX0_walk 41 = .ok (.iaload, 1) := by decide +kernel
theorem dX0_walk_42 : decode cX0_walk 42 = .ok (.aload_n 0, 1) := by decide +kernel
theorem dX0_walk_43 : decode cX0_walk 43 = .ok (.getfield 38, 3) := by decide +kernel
theorem dX0_walk_46 : decode cX0_walk 46 = .ok (.if_icmp .ge 22, 3) := by decide +kernel
theorem dX0_walk_49 : decode cX0_walk 49 = .ok (.aload_n 1, 1) := by decide +kernel
theorem dX0_walk_50 : decode cX0_walk 50 = .ok (.iload 7, 2) := by decide +kernel
theorem dX0_walk_52 : decode cX0_walk 52 = .ok (.invokevirtual 58, 3) := by decide +kernel
theorem dX0_walk_55 : decode cX0_walk 55 = .ok (.ifCond .eq 13, 3) := by decide +kernel
theorem dX0_walk_58 : decode cX0_walk 58 = .ok (.aload_n 0, 1) := by decide +kernel
theorem dX0_walk_59 : decode cX0_walk 59 = .ok (.iload 7, 2) := by decide +kernel
theorem dX0_walk_61 : decode cX0_walk 61 = .ok (.invokevirtual 64, 3) := by decide +kernel
theorem dX0_walk_64 : decode cX0_walk 64 = .ok (.iconst (-1), 1) := by decide +kernel
theorem dX0_walk_65 : decode cX0_walk 65 = .ok (.if_icmp .eq 7, 3) := by decide +kernel
theorem dX0_walk_68 : decode cX0_walk 68 = .ok (.iconst 1, 1) := by decide +kernel
theorem dX0_walk_69 : decode cX0_walk 69 = .ok (.goto 4, 3) := by decide +kernel
theorem dX0_walk_72 : decode cX0_walk 72 = .ok (.iconst 0, 1) := by decide +kernel
theorem dX0_walk_73 : decode cX0_walk 73 = .ok (.istore 8, 2) := by decide +kernel
theorem dX0_walk_75 : decode cX0_walk 75 = .ok (.aload_n 0, 1) := by decide +kernel
theorem dX0_walk_76 : decode cX0_walk 76 = .ok (.getfield 9, 3) := by decide +kernel
theorem dX0_walk_79 : decode cX0_walk 79 = .ok (.iload 6, 2) := by decide +kernel
theorem dX0_walk_81 : decode cX0_walk 81 = .ok (.iload 8, 2) := by decide +kernel
theorem dX0_walk_83 : decode cX0_walk 83 = .ok (.ifCond .eq 7, 3) := by decide +kernel
theorem dX0_walk_86 : decode cX0_walk 86 = .ok (.iconst 0, 1) := by decide +kernel
theorem dX0_walk_87 : decode cX0_walk 87 = .ok (.goto 11, 3) := by decide +kernel
theorem dX0_walk_90 : decode cX0_walk 90 = .ok (.aload_n 1, 1) := by decide +kernel
theorem dX0_walk_91 : decode cX0_walk 91 = .ok (.iload 7, 2) := by decide +kernel
theorem dX0_walk_93 : decode cX0_walk 93 = .ok (.iload 5, 2) := by decide +kernel
theorem dX0_walk_95 : decode cX0_walk 95 = .ok (.invokevirtual 67, 3) := by decide +kernel
theorem dX0_walk_98 : decode cX0_walk 98 = .ok (.iastore, 1) := by decide +kernel
theorem dX0_walk_99 : decode cX0_walk 99 = .ok (.aload_n 0, 1) := by decide +kernel
theorem dX0_walk_100 : decode cX0_walk 100 = .ok (.iload 7, 2) := by decide +kernel
theorem dX0_walk_102 : decode cX0_walk 102 = .ok (.aload_n 0, 1) := by decide +kernel
theorem dX0_walk_103 : decode cX0_walk 103 = .ok (.getfield 9, 3) := by decide +kernel
theorem dX0_walk_106 : decode cX0_walk 106 = .ok (.iload 6, 2) := by decide +kernel
theorem dX0_walk_108 : decode cX0_walk 108 = .ok (.iaload, 1) := by decide +kernel
theorem dX0_walk_109 : decode cX0_walk 109 = .ok (.invokevirtual 71, 3) := by decide +kernel
theorem dX0_walk_112 : decode cX0_walk 112 = .ok (.aload_n 0, 1) := by decide +kernel
theorem dX0_walk_113 : decode cX0_walk 113 = .ok (.iload 6, 2) := by decide +kernel
theorem dX0_walk_115 : decode cX0_walk 115 = .ok (.aload_n 1, 1) := by decide +kernel
theorem dX0_walk_116 : decode cX0_walk 116 = .ok (.iload 7, 2) := by decide +kernel
theorem dX0_walk_118 : decode cX0_walk 118 = .ok (.iconst 1, 1) := by decide +kernel
theorem dX0_walk_119 : decode cX0_walk 119 = .ok (.invokevirtual 74, 3) := by decide +kernel
theorem dX0_walk_122 : decode cX0_walk 122 = .ok (.aload_n 1, 1) := by decide +kernel
theorem dX0_walk_123 : decode cX0_walk 123 = .ok (.iload 7, 2) := by decide +kernel
theorem dX0_walk_125 : decode cX0_walk 125 = .ok (.iconst 3, 1) := by decide +kernel
theorem dX0_walk_126 : decode cX0_walk 126 = .ok (.invokevirtual 74, 3) := by decide +kernel
theorem dX0_walk_129 : decode cX0_walk 129 = .ok (.ifCond .ne 7, 3) := by decide +kernel
theorem dX0_walk_132 : decode cX0_walk 132 = .ok (.iconst 1, 1) := by decide +kernel
theorem dX0_walk_133 : decode cX0_walk 133 = .ok (.goto 4, 3) := by decide +kernel
theorem dX0_walk_136 : decode cX0_walk 136 = .ok (.iconst 0, 1) := by decide +kernel
theorem dX0_walk_137 : decode cX0_walk 137 = .ok (.invokevirtual 77, 3) := by decide +kernel
theorem dX0_walk_140 : decode cX0_walk 140 = .ok (.iinc 6 1, 3) := by decide +kernel
theorem dX0_walk_143 : decode cX0_walk 143 = .ok (.goto (-125), 3) := by decide +kernel
theorem dX0_walk_146 : decode cX0_walk 146 = .ok (.return_, 1) := by decide +kernel
theorem dX0_markFate_0 : decode cX0_markFate 0 = .ok (.iload_n 1, 1) := by decide +kernel
theorem dX0_markFate_1 : decode cX0_markFate 1 = .ok (.ifCond .lt 26, 3) := by decide +kernel
theorem dX0_markFate_4 : decode cX0_markFate 4 = .ok (.iload_n 1, 1) := by decide +kernel
theorem dX0_markFate_5 : decode cX0_markFate 5 = .ok (.bipush 8, 2) := by decide +kernel
theorem dX0_markFate_7 : decode cX0_markFate 7 = .ok (.if_icmp .ge 20, 3) := by decide +kernel
theorem dX0_markFate_10 : decode cX0_markFate 10 = .ok (.aload_n 0, 1) := by decide +kernel
theorem dX0_markFate_11 : decode cX0_markFate 11 = .ok (.getfield 31, 3) := by decide +kernel
theorem dX0_markFate_14 : decode cX0_markFate 14 = .ok (.iload_n 1, 1) := by decide +kernel
theorem dX0_markFate_15 : decode cX0_markFate 15 = .ok (.iaload, 1) := by decide +kernel
theorem dX0_markFate_16 : decode cX0_markFate 16 = .ok (.iconst (-1), 1) := by decide +kernel
theorem dX0_markFate_17 : decode cX0_markFate 17 = .ok (.if_icmp .ne 10, 3) := by decide +kernel
theorem dX0_markFate_20 : decode cX0_markFate 20 = .ok (.aload_n 0, 1) := by decide +kernel
theorem dX0_markFate_21 : decode cX0_markFate 21 = .ok (.getfield 31, 3) := by decide +kernel
theorem dX0_markFate_24 : decode cX0_markFate 24 = .ok (.iload_n 1, 1) := by decide +kernel
theorem dX0_markFate_25 : decode cX0_markFate 25 = .ok (.iload_n 2, 1) := by decide +kernel
theorem dX0_markFate_26 : decode cX0_markFate 26 = .ok (.iastore, 1) := by decide +kernel
theorem dX0_markFate_27 : decode cX0_markFate 27 = .ok (.return_, 1) := by decide +kernel
theorem dX0_stepBehind_0 : decode cX0_stepBehind 0 = .ok (.aload_n 0, 1) := by decide +kernel
theorem dX0_stepBehind_1 : decode cX0_stepBehind 1 = .ok (.getfield 15, 3) := by decide +kernel
theorem dX0_stepBehind_4 : decode cX0_stepBehind 4 = .ok (.iload_n 1, 1) := by decide +kernel
theorem dX0_stepBehind_5 : decode cX0_stepBehind 5 = .ok (.aload_n 0, 1) := by decide +kernel
theorem dX0_stepBehind_6 : decode cX0_stepBehind 6 = .ok (.getfield 9, 3) := by decide +kernel
theorem dX0_stepBehind_9 : decode cX0_stepBehind 9 = .ok (.iload_n 1, 1) := by decide +kernel
theorem dX0_stepBehind_10 : decode cX0_stepBehind 10 = .ok (.iaload, 1) := by decide +kernel
theorem dX0_stepBehind_11 : decode cX0_stepBehind 11 = .ok (.aload_n 0, 1) := by decide +kernel
theorem dX0_stepBehind_12 : decode cX0_stepBehind 12 = .ok (.getfield 18, 3) := by decide +kernel
theorem dX0_stepBehind_15 : decode cX0_stepBehind 15 = .ok (.iload_n 1, 1) := by decide +kernel
theorem dX0_stepBehind_16 : decode cX0_stepBehind 16 = .ok (.iaload, 1) := by decide +kernel
theorem dX0_stepBehind_17 : decode cX0_stepBehind 17 = .ok (.iload_n 2, 1) := by decide +kernel
theorem dX0_stepBehind_18 : decode cX0_stepBehind 18 = .ok (.invokestatic 81, 3) := by decide +kernel
theorem dX0_stepBehind_21 : decode cX0_stepBehind 21 = .ok (.iastore, 1) := by decide +kernel
theorem dX0_stepBehind_22 : decode cX0_stepBehind 22 = .ok (.aload_n 0, 1) := by decide +kernel
theorem dX0_stepBehind_23 : decode cX0_stepBehind 23 = .ok (.getfield 18, 3) := by decide +kernel
theorem dX0_stepBehind_26 : decode cX0_stepBehind 26 = .ok (.iload_n 1, 1) := by decide +kernel
theorem dX0_stepBehind_27 : decode cX0_stepBehind 27 = .ok (.iconst 1, 1) := by decide +kernel
theorem dX0_stepBehind_28 : decode cX0_stepBehind 28 = .ok (.iadd, 1) := by decide +kernel
theorem dX0_stepBehind_29 : decode cX0_stepBehind 29 = .ok (.aload_n 0, 1) := by decide +kernel
theorem dX0_stepBehind_30 : decode cX0_stepBehind 30 = .ok (.getfield 9, 3) := by decide +kernel
theorem dX0_stepBehind_33 : decode cX0_stepBehind 33 = .ok (.iload_n 1, 1) := by decide +kernel
theorem dX0_stepBehind_34 : decode cX0_stepBehind 34 = .ok (.iaload, 1) := by decide +kernel
theorem dX0_stepBehind_35 : decode cX0_stepBehind 35 = .ok (.aload_n 0, 1) := by decide +kernel
theorem dX0_stepBehind_36 : decode cX0_stepBehind 36 = .ok (.getfield 18, 3) := by decide +kernel
theorem dX0_stepBehind_39 : decode cX0_stepBehind 39 = .ok (.iload_n 1, 1) := by decide +kernel
theorem dX0_stepBehind_40 : decode cX0_stepBehind 40 = .ok (.iaload, 1) := by decide +kernel
theorem dX0_stepBehind_41 : decode cX0_stepBehind 41 = .ok (.aload_n 0, 1) := by decide +kernel
theorem dX0_stepBehind_42 : decode cX0_stepBehind 42 = .ok (.getfield 18, 3) := by decide +kernel
theorem dX0_stepBehind_45 : decode cX0_stepBehind 45 = .ok (.iconst 0, 1) := by decide +kernel
theorem dX0_stepBehind_46 : decode cX0_stepBehind 46 = .ok (.iaload, 1) := by decide +kernel
theorem dX0_stepBehind_47 : decode cX0_stepBehind 47 = .ok (.invokestatic 86, 3) := by decide +kernel
theorem dX0_stepBehind_50 : decode cX0_stepBehind 50 = .ok (.iastore, 1) := by decide +kernel
theorem dX0_stepBehind_51 : decode cX0_stepBehind 51 = .ok (.aload_n 0, 1) := by decide +kernel
theorem dX0_stepBehind_52 : decode cX0_stepBehind 52 = .ok (.getfield 9, 3) := by decide +kernel
theorem dX0_stepBehind_55 : decode cX0_stepBehind 55 = .ok (.iload_n 1, 1) := by decide +kernel
theorem dX0_stepBehind_56 : decode cX0_stepBehind 56 = .ok (.iaload, 1) := by decide +kernel
theorem dX0_stepBehind_57 : decode cX0_stepBehind 57 = .ok (.invokestatic 89, 3) := by decide +kernel
theorem dX0_stepBehind_60 : decode cX0_stepBehind 60 = .ok (.istore 4, 2) := by decide +kernel
theorem dX0_stepBehind_62 : decode cX0_stepBehind 62 = .ok (.aload_n 0, 1) := by decide +kernel
theorem dX0_stepBehind_63 : decode cX0_stepBehind 63 = .ok (.getfield 21, 3) := by decide +kernel
theorem dX0_stepBehind_66 : decode cX0_stepBehind 66 = .ok (.iload_n 1, 1) := by decide +kernel
theorem dX0_stepBehind_67 : decode cX0_stepBehind 67 = .ok (.iconst 1, 1) := by decide +kernel
theorem dX0_stepBehind_68 : decode cX0_stepBehind 68 = .ok (.iadd, 1) := by decide +kernel
theorem dX0_stepBehind_69 : decode cX0_stepBehind 69 = .ok (.iload 4, 2) := by decide +kernel
theorem dX0_stepBehind_71 : decode cX0_stepBehind 71 = .ok (.ifCond .eq 14, 3) := by decide +kernel
theorem dX0_stepBehind_74 : decode cX0_stepBehind 74 = .ok (.aload_n 0, 1) := by decide +kernel
theorem dX0_stepBehind_75 : decode cX0_stepBehind 75 = .ok (.getfield 21, 3) := by decide +kernel
theorem dX0_stepBehind_78 : decode cX0_stepBehind 78 = .ok (.iload_n 1, 1) := by decide +kernel
theorem dX0_stepBehind_79 : decode cX0_stepBehind 79 = .ok (.iaload, 1) := by decide +kernel
theorem dX0_stepBehind_80 : decode cX0_stepBehind 80 = .ok (.iconst 1, 1) := by decide +kernel
theorem dX0_stepBehind_81 : decode cX0_stepBehind 81 = .ok (.iadd, 1) := by decide +kernel
theorem dX0_stepBehind_82 : decode cX0_stepBehind 82 = .ok (.goto 9, 3) := by decide +kernel
theorem dX0_stepBehind_85 : decode cX0_stepBehind 85 = .ok (.aload_n 0, 1) := by decide +kernel
theorem dX0_stepBehind_86 : decode cX0_stepBehind 86 = .ok (.getfield 21, 3) := by decide +kernel
theorem dX0_stepBehind_89 : decode cX0_stepBehind 89 = .ok (.iload_n 1, 1) := by decide +kernel
theorem dX0_stepBehind_90 : decode cX0_stepBehind 90 = .ok (.iaload, 1) := by decide +kernel
theorem dX0_stepBehind_91 : decode cX0_stepBehind 91 = .ok (.iastore, 1) := by decide +kernel
theorem dX0_stepBehind_92 : decode cX0_stepBehind 92 = .ok (.aload_n 0, 1) := by decide +kernel
theorem dX0_stepBehind_93 : decode cX0_stepBehind 93 = .ok (.getfield 24, 3) := by decide +kernel
theorem dX0_stepBehind_96 : decode cX0_stepBehind 96 = .ok (.iload_n 1, 1) := by decide +kernel
theorem dX0_stepBehind_97 : decode cX0_stepBehind 97 = .ok (.iconst 1, 1) := by decide +kernel
theorem dX0_stepBehind_98 : decode cX0_stepBehind 98 = .ok (.iadd, 1) := by decide +kernel
theorem dX0_stepBehind_99 : decode cX0_stepBehind 99 = .ok (.iload 4, 2) := by decide +kernel
theorem dX0_stepBehind_101 : decode cX0_stepBehind 101 = .ok (.ifCond .eq 20, 3) := by decide +kernel
theorem dX0_stepBehind_104 : decode cX0_stepBehind 104 = .ok (.aload_n 0, 1) := by decide +kernel
theorem dX0_stepBehind_105 : decode cX0_stepBehind 105 = .ok (.getfield 24, 3) := by decide +kernel
theorem dX0_stepBehind_108 : decode cX0_stepBehind 108 = .ok (.iload_n 1, 1) := by decide +kernel
theorem dX0_stepBehind_109 : decode cX0_stepBehind 109 = .ok (.laload, 1) := by decide +kernel
theorem dX0_stepBehind_110 : decode cX0_stepBehind 110 = .ok (.aload_n 0, 1) := by decide +kernel
theorem dX0_stepBehind_111 : decode cX0_stepBehind 111 = .ok (.getfield 15, 3) := by decide +kernel
theorem dX0_stepBehind_114 : decode cX0_stepBehind 114 = .ok (.iload_n 1, 1) := by decide +kernel
theorem dX0_stepBehind_115 : decode cX0_stepBehind 115 = .ok (.iaload, 1) := by decide +kernel
theorem dX0_stepBehind_116 : decode cX0_stepBehind 116 = .ok (.i2l, 1) := by decide +kernel
theorem dX0_stepBehind_117 : decode cX0_stepBehind 117 = .ok (.lmul, 1) := by decide +kernel
theorem dX0_stepBehind_118 : decode cX0_stepBehind 118 = .ok (.goto 9, 3) := by decide +kernel
theorem dX0_stepBehind_121 : decode cX0_stepBehind 121 = .ok (.aload_n 0, 1) := by decide +kernel
theorem dX0_stepBehind_122 : decode cX0_stepBehind 122 = .ok (.getfield 24, 3) := by decide +kernel
theorem dX0_stepBehind_125 : decode cX0_stepBehind 125 = .ok (.iload_n 1, 1) := by decide +kernel
theorem dX0_stepBehind_126 : decode cX0_stepBehind 126 = .ok (.laload, 1) := by decide +kernel
theorem dX0_stepBehind_127 : decode cX0_stepBehind 127 = .ok (.lastore, 1) := by decide +kernel
theorem dX0_stepBehind_128 : decode cX0_stepBehind 128 = .ok (.aload_n 0, 1) := by decide +kernel
theorem dX0_stepBehind_129 : decode cX0_stepBehind 129 = .ok (.getfield 28, 3) := by decide +kernel
theorem dX0_stepBehind_132 : decode cX0_stepBehind 132 = .ok (.iload_n 1, 1) := by decide +kernel
theorem dX0_stepBehind_133 : decode cX0_stepBehind 133 = .ok (.iconst 1, 1) := by decide +kernel
theorem dX0_stepBehind_134 : decode cX0_stepBehind 134 = .ok (.iadd, 1) := by decide +kernel
theorem dX0_stepBehind_135 : decode cX0_stepBehind 135 = .ok (.aload_n 0, 1) := by decide +kernel
theorem dX0_stepBehind_136 : decode cX0_stepBehind 136 = .ok (.getfield 28, 3) := by decide +kernel
theorem dX0_stepBehind_139 : decode cX0_stepBehind 139 = .ok (.iload_n 1, 1) := by decide +kernel
theorem dX0_stepBehind_140 : decode cX0_stepBehind 140 = .ok (.iaload, 1) := by decide +kernel
theorem dX0_stepBehind_141 : decode cX0_stepBehind 141 = .ok (.iastore, 1) := by decide +kernel
theorem dX0_stepBehind_142 : decode cX0_stepBehind 142 = .ok (.aload_n 0, 1) := by decide +kernel
theorem dX0_stepBehind_143 : decode cX0_stepBehind 143 = .ok (.getfield 9, 3) := by decide +kernel
theorem dX0_stepBehind_146 : decode cX0_stepBehind 146 = .ok (.iload_n 1, 1) := by decide +kernel
theorem dX0_stepBehind_147 : decode cX0_stepBehind 147 = .ok (.iaload, 1) := by decide +kernel
theorem dX0_stepBehind_148 : decode cX0_stepBehind 148 = .ok (.iconst 3, 1) := by decide +kernel
theorem dX0_stepBehind_149 : decode cX0_stepBehind 149 = .ok (.if_icmp .ne 50, 3) := by decide +kernel
theorem dX0_stepBehind_152 : decode cX0_stepBehind 152 = .ok (.iload_n 3, 1) := by decide +kernel
theorem dX0_stepBehind_153 : decode cX0_stepBehind 153 = .ok (.ifCond .eq 46, 3) := by decide +kernel
theorem dX0_stepBehind_156 : decode cX0_stepBehind 156 = .ok (.aload_n 0, 1) := by decide +kernel
theorem dX0_stepBehind_157 : decode cX0_stepBehind 157 = .ok (.getfield 28, 3) := by decide +kernel
theorem dX0_stepBehind_160 : decode cX0_stepBehind 160 = .ok (.iload_n 1, 1) := by decide +kernel
theorem dX0_stepBehind_161 : decode cX0_stepBehind 161 = .ok (.iconst 1, 1) := by decide +kernel
theorem dX0_stepBehind_162 : decode cX0_stepBehind 162 = .ok (.iadd, 1) := by decide +kernel
theorem dX0_stepBehind_163 : decode cX0_stepBehind 163 = .ok (.dup2, 1) := by decide +kernel
theorem dX0_stepBehind_164 : decode cX0_stepBehind 164 = .ok (.iaload, 1) := by decide +kernel
theorem dX0_stepBehind_165 : decode cX0_stepBehind 165 = .ok (.iconst 1, 1) := by decide +kernel
theorem dX0_stepBehind_166 : decode cX0_stepBehind 166 = .ok (.iadd, 1) := by decide +kernel
theorem dX0_stepBehind_167 : decode cX0_stepBehind 167 = .ok (.iastore, 1) := by decide +kernel
theorem dX0_stepBehind_168 : decode cX0_stepBehind 168 = .ok (.aload_n 0, 1) := by decide +kernel
theorem dX0_stepBehind_169 : decode cX0_stepBehind 169 = .ok (.dup, 1) := by decide +kernel
theorem dX0_stepBehind_170 : decode cX0_stepBehind 170 = .ok (.getfield 41, 3) := by decide +kernel
theorem dX0_stepBehind_173 : decode cX0_stepBehind 173 = .ok (.aload_n 0, 1) := by decide +kernel
theorem dX0_stepBehind_174 : decode cX0_stepBehind 174 = .ok (.getfield 24, 3) := by decide +kernel
theorem dX0_stepBehind_177 : decode cX0_stepBehind 177 = .ok (.iload_n 1, 1) := by decide +kernel
theorem dX0_stepBehind_178 : decode cX0_stepBehind 178 = .ok (.iconst 1, 1) := by decide +kernel
theorem dX0_stepBehind_179 : decode cX0_stepBehind 179 = .ok (.iadd, 1) := by decide +kernel
theorem dX0_stepBehind_180 : decode cX0_stepBehind 180 = .ok (.laload, 1) := by decide +kernel
theorem dX0_stepBehind_181 : decode cX0_stepBehind 181 = .ok (.iconst 4, 1) := by decide +kernel
theorem dX0_stepBehind_182 : decode cX0_stepBehind 182 = .ok (.bipush 8, 2) := by decide +kernel
theorem dX0_stepBehind_184 : decode cX0_stepBehind 184 = .ok (.aload_n 0, 1) := by decide +kernel
theorem dX0_stepBehind_185 : decode cX0_stepBehind 185 = .ok (.getfield 21, 3) := by decide +kernel
theorem dX0_stepBehind_188 : decode cX0_stepBehind 188 = .ok (.iload_n 1, 1) := by decide +kernel
theorem dX0_stepBehind_189 : decode cX0_stepBehind 189 = .ok (.iconst 1, 1) := by decide +kernel
theorem dX0_stepBehind_190 : decode cX0_stepBehind 190 = .ok (.iadd, 1) := by decide +kernel
theorem dX0_stepBehind_191 : decode cX0_stepBehind 191 = .ok (.iaload, 1) := by decide +kernel
theorem dX0_stepBehind_192 : decode cX0_stepBehind 192 = .ok (.isub, 1) := by decide +kernel
theorem dX0_stepBehind_193 : decode cX0_stepBehind 193 = .ok (.imul, 1) := by decide +kernel
theorem dX0_stepBehind_194 : decode cX0_stepBehind 194 = .ok (.lshl, 1) := by decide +kernel
theorem dX0_stepBehind_195 : decode cX0_stepBehind 195 = .ok (.ladd, 1) := by decide +kernel
theorem dX0_stepBehind_196 : decode cX0_stepBehind 196 = .ok (.putfield 41, 3) := by decide +kernel
theorem dX0_stepBehind_199 : decode cX0_stepBehind 199 = .ok (.return_, 1) := by decide +kernel
theorem dX0_fateOf_0 : decode cX0_fateOf 0 = .ok (.iload_n 1, 1) := by decide +kernel
theorem dX0_fateOf_1 : decode cX0_fateOf 1 = .ok (.ifCond .lt 18, 3) := by decide +kernel
theorem dX0_fateOf_4 : decode cX0_fateOf 4 = .ok (.iload_n 1, 1) := by decide +kernel
theorem dX0_fateOf_5 : decode cX0_fateOf 5 = .ok (.bipush 8, 2) := by decide +kernel
theorem dX0_fateOf_7 : decode cX0_fateOf 7 = .ok (.if_icmp .ge 12, 3) := by decide +kernel
theorem dX0_fateOf_10 : decode cX0_fateOf 10 = .ok (.aload_n 0, 1) := by decide +kernel
theorem dX0_fateOf_11 : decode cX0_fateOf 11 = .ok (.getfield 31, 3) := by decide +kernel
theorem dX0_fateOf_14 : decode cX0_fateOf 14 = .ok (.iload_n 1, 1) := by decide +kernel
theorem dX0_fateOf_15 : decode cX0_fateOf 15 = .ok (.iaload, 1) := by decide +kernel
theorem dX0_fateOf_16 : decode cX0_fateOf 16 = .ok (.goto 4, 3) := by decide +kernel
theorem dX0_fateOf_19 : decode cX0_fateOf 19 = .ok (.iconst (-1), 1) := by decide +kernel
theorem dX0_fateOf_20 : decode cX0_fateOf 20 = .ok (.ireturn, 1) := by decide +kernel
theorem dX0_hasAllWins_0 : decode cX0_hasAllWins 0 = .ok (.aload_n 0, 1) := by decide +kernel
theorem dX0_hasAllWins_1 : decode cX0_hasAllWins 1 = .ok (.getfield 21, 3) := by decide +kernel
theorem dX0_hasAllWins_4 : decode cX0_hasAllWins 4 = .ok (.aload_n 0, 1) := by decide +kernel
theorem dX0_hasAllWins_5 : decode cX0_hasAllWins 5 = .ok (.getfield 34, 3) := by decide +kernel
theorem dX0_hasAllWins_8 : decode cX0_hasAllWins 8 = .ok (.iaload, 1) := by decide +kernel
theorem dX0_hasAllWins_9 : decode cX0_hasAllWins 9 = .ok (.aload_n 0, 1) := by decide +kernel
theorem dX0_hasAllWins_10 : decode cX0_hasAllWins 10 = .ok (.getfield 38, 3) := by decide +kernel
theorem dX0_hasAllWins_13 : decode cX0_hasAllWins 13 = .ok (.if_icmp .lt 7, 3) := by decide +kernel
theorem dX0_hasAllWins_16 : decode cX0_hasAllWins 16 = .ok (.iconst 1, 1) := by decide +kernel
theorem dX0_hasAllWins_17 : decode cX0_hasAllWins 17 = .ok (.goto 4, 3) := by decide +kernel
theorem dX0_hasAllWins_20 : decode cX0_hasAllWins 20 = .ok (.iconst 0, 1) := by decide +kernel
theorem dX0_hasAllWins_21 : decode cX0_hasAllWins 21 = .ok (.ireturn, 1) := by decide +kernel
theorem dX0_livesAbove_0 : decode cX0_livesAbove 0 = .ok (.aload_n 0, 1) := by decide +kernel
theorem dX0_livesAbove_1 : decode cX0_livesAbove 1 = .ok (.invokevirtual 94, 3) := by decide +kernel
theorem dX0_livesAbove_4 : decode cX0_livesAbove 4 = .ok (.ifCond .eq 15, 3) := by decide +kernel
theorem dX0_livesAbove_7 : decode cX0_livesAbove 7 = .ok (.aload_n 0, 1) := by decide +kernel
theorem dX0_livesAbove_8 : decode cX0_livesAbove 8 = .ok (.getfield 24, 3) := by decide +kernel
theorem dX0_livesAbove_11 : decode cX0_livesAbove 11 = .ok (.aload_n 0, 1) := by decide +kernel
theorem dX0_livesAbove_12 : decode cX0_livesAbove 12 = .ok (.getfield 34, 3) := by decide +kernel
theorem dX0_livesAbove_15 : decode cX0_livesAbove 15 = .ok (.laload, 1) := by decide +kernel
theorem dX0_livesAbove_16 : decode cX0_livesAbove 16 = .ok (.goto 4, 3) := by decide +kernel
theorem dX0_livesAbove_19 : decode cX0_livesAbove 19 = .ok (.lconst 0, 1) := by decide +kernel
theorem dX0_livesAbove_20 : decode cX0_livesAbove 20 = .ok (.lreturn, 1) := by decide +kernel
theorem dX0_fewestSixteenths_0 : decode cX0_fewestSixteenths 0 = .ok (.iconst (-1), 1) := by decide +kernel
theorem dX0_fewestSixteenths_1 : decode cX0_fewestSixteenths 1 = .ok (.istore_n 1, 1) := by decide +kernel
theorem dX0_fewestSixteenths_2 : decode cX0_fewestSixteenths 2 = .ok (.bipush 17, 2) := by decide +kernel
theorem dX0_fewestSixteenths_4 : decode cX0_fewestSixteenths 4 = .ok (.istore_n 2, 1) := by decide +kernel
theorem dX0_fewestSixteenths_5 : decode cX0_fewestSixteenths 5 = .ok (.iconst 0, 1) := by decide +kernel
theorem dX0_fewestSixteenths_6 : decode cX0_fewestSixteenths 6 = .ok (.istore_n 3, 1) := by decide +kernel
theorem dX0_fewestSixteenths_7 : decode cX0_fewestSixteenths 7 = .ok (.iload_n 3, 1) := by decide +kernel
theorem dX0_fewestSixteenths_8 : decode cX0_fewestSixteenths 8 = .ok (.aload_n 0, 1) := by decide +kernel
theorem dX0_fewestSixteenths_9 : decode cX0_fewestSixteenths 9 = .ok (.getfield 34, 3) := by decide +kernel
theorem dX0_fewestSixteenths_12 : decode cX0_fewestSixteenths 12 = .ok (.if_icmp .ge 28, 3) := by decide +kernel
theorem dX0_fewestSixteenths_15 : decode cX0_fewestSixteenths 15 = .ok (.aload_n 0, 1) := by decide +kernel
theorem dX0_fewestSixteenths_16 : decode cX0_fewestSixteenths 16 = .ok (.getfield 15, 3) := by decide +kernel
theorem dX0_fewestSixteenths_19 : decode cX0_fewestSixteenths 19 = .ok (.iload_n 3, 1) := by decide +kernel
theorem dX0_fewestSixteenths_20 : decode cX0_fewestSixteenths 20 = .ok (.iaload, 1) := by decide +kernel
theorem dX0_fewestSixteenths_21 : decode cX0_fewestSixteenths 21 = .ok (.iload_n 2, 1) := by decide +kernel
theorem dX0_fewestSixteenths_22 : decode cX0_fewestSixteenths 22 = .ok (.if_icmp .ge 12, 3) := by decide +kernel
theorem dX0_fewestSixteenths_25 : decode cX0_fewestSixteenths 25 = .ok (.aload_n 0, 1) := by decide +kernel
theorem dX0_fewestSixteenths_26 : decode cX0_fewestSixteenths 26 = .ok (.getfield 15, 3) := by decide +kernel
theorem dX0_fewestSixteenths_29 : decode cX0_fewestSixteenths 29 = .ok (.iload_n 3, 1) := by decide +kernel
theorem dX0_fewestSixteenths_30 : decode cX0_fewestSixteenths 30 = .ok (.iaload, 1) := by decide +kernel
theorem dX0_fewestSixteenths_31 : decode cX0_fewestSixteenths 31 = .ok (.istore_n 2, 1) := by decide +kernel
theorem dX0_fewestSixteenths_32 : decode cX0_fewestSixteenths 32 = .ok (.iload_n 3, 1) := by decide +kernel
theorem dX0_fewestSixteenths_33 : decode cX0_fewestSixteenths 33 = .ok (.istore_n 1, 1) := by decide +kernel
theorem dX0_fewestSixteenths_34 : decode cX0_fewestSixteenths 34 = .ok (.iinc 3 1, 3) := by decide +kernel
theorem dX0_fewestSixteenths_37 : decode cX0_fewestSixteenths 37 = .ok (.goto (-30), 3) := by decide +kernel
theorem dX0_fewestSixteenths_40 : decode cX0_fewestSixteenths 40 = .ok (.iload_n 1, 1) := by decide +kernel
theorem dX0_fewestSixteenths_41 : decode cX0_fewestSixteenths 41 = .ok (.ireturn, 1) := by decide +kernel
theorem dX0_numberOfFights_0 : decode cX0_numberOfFights 0 = .ok (.iconst 0, 1) := by decide +kernel
theorem dX0_numberOfFights_1 : decode cX0_numberOfFights 1 = .ok (.istore_n 1, 1) := by decide +kernel
theorem dX0_numberOfFights_2 : decode cX0_numberOfFights 2 = .ok (.iconst 0, 1) := by decide +kernel
theorem dX0_numberOfFights_3 : decode cX0_numberOfFights 3 = .ok (.istore_n 2, 1) := by decide +kernel
theorem dX0_numberOfFights_4 : decode cX0_numberOfFights 4 = .ok (.iload_n 2, 1) := by decide +kernel
theorem dX0_numberOfFights_5 : decode cX0_numberOfFights 5 = .ok (.aload_n 0, 1) := by decide +kernel
theorem dX0_numberOfFights_6 : decode cX0_numberOfFights 6 = .ok (.getfield 34, 3) := by decide +kernel
theorem dX0_numberOfFights_9 : decode cX0_numberOfFights 9 = .ok (.if_icmp .ge 22, 3) := by decide +kernel
theorem dX0_numberOfFights_12 : decode cX0_numberOfFights 12 = .ok (.aload_n 0, 1) := by decide +kernel
theorem dX0_numberOfFights_13 : decode cX0_numberOfFights 13 = .ok (.getfield 9, 3) := by decide +kernel
theorem dX0_numberOfFights_16 : decode cX0_numberOfFights 16 = .ok (.iload_n 2, 1) := by decide +kernel
theorem dX0_numberOfFights_17 : decode cX0_numberOfFights 17 = .ok (.iaload, 1) := by decide +kernel
theorem dX0_numberOfFights_18 : decode cX0_numberOfFights 18 = .ok (.iconst 3, 1) := by decide +kernel
theorem dX0_numberOfFights_19 : decode cX0_numberOfFights 19 = .ok (.if_icmp .ne 6, 3) := by decide +kernel
theorem dX0_numberOfFights_22 : decode cX0_numberOfFights 22 = .ok (.iinc 1 1, 3) := by decide +kernel
theorem dX0_numberOfFights_25 : decode cX0_numberOfFights 25 = .ok (.iinc 2 1, 3) := by decide +kernel
theorem dX0_numberOfFights_28 : decode cX0_numberOfFights 28 = .ok (.goto (-24), 3) := by decide +kernel
theorem dX0_numberOfFights_31 : decode cX0_numberOfFights 31 = .ok (.iload_n 1, 1) := by decide +kernel
theorem dX0_numberOfFights_32 : decode cX0_numberOfFights 32 = .ok (.ireturn, 1) := by decide +kernel
theorem dX0_numberNotVoid_0 : decode cX0_numberNotVoid 0 = .ok (.iconst 0, 1) := by decide +kernel
theorem dX0_numberNotVoid_1 : decode cX0_numberNotVoid 1 = .ok (.istore_n 2, 1) := by decide +kernel
theorem dX0_numberNotVoid_2 : decode cX0_numberNotVoid 2 = .ok (.iconst 0, 1) := by decide +kernel
theorem dX0_numberNotVoid_3 : decode cX0_numberNotVoid 3 = .ok (.istore_n 3, 1) := by decide +kernel
theorem dX0_numberNotVoid_4 : decode cX0_numberNotVoid 4 = .ok (.iload_n 3, 1) := by decide +kernel
theorem dX0_numberNotVoid_5 : decode cX0_numberNotVoid 5 = .ok (.iload_n 1, 1) := by decide +kernel
theorem dX0_numberNotVoid_6 : decode cX0_numberNotVoid 6 = .ok (.if_icmp .ge 20, 3) := by decide +kernel
theorem dX0_numberNotVoid_9 : decode cX0_numberNotVoid 9 = .ok (.aload_n 0, 1) := by decide +kernel
theorem dX0_numberNotVoid_10 : decode cX0_numberNotVoid 10 = .ok (.iload_n 3, 1) := by decide +kernel
theorem dX0_numberNotVoid_11 : decode cX0_numberNotVoid 11 = .ok (.invokevirtual 64, 3) := by decide +kernel
theorem dX0_numberNotVoid_14 : decode cX0_numberNotVoid 14 = .ok (.ifCond .le 6, 3) := by decide +kernel
theorem dX0_numberNotVoid_17 : decode cX0_numberNotVoid 17 = .ok (.iinc 2 1, 3) := by decide +kernel
theorem dX0_numberNotVoid_20 : decode cX0_numberNotVoid 20 = .ok (.iinc 3 1, 3) := by decide +kernel
theorem dX0_numberNotVoid_23 : decode cX0_numberNotVoid 23 = .ok (.goto (-19), 3) := by decide +kernel
theorem dX0_numberNotVoid_26 : decode cX0_numberNotVoid 26 = .ok (.iload_n 2, 1) := by decide +kernel
theorem dX0_numberNotVoid_27 : decode cX0_numberNotVoid 27 = .ok (.ireturn, 1) := by decide +kernel
theorem dX0_playTill_0 : decode cX0_playTill 0 = .ok (.iconst 0, 1) := by decide +kernel
theorem dX0_playTill_1 : decode cX0_playTill 1 = .ok (.istore_n 2, 1) := by decide +kernel
theorem dX0_playTill_2 : decode cX0_playTill 2 = .ok (.iload_n 2, 1) := by decide +kernel
theorem dX0_playTill_3 : decode cX0_playTill 3 = .ok (.aload_n 0, 1) := by decide +kernel
theorem dX0_playTill_4 : decode cX0_playTill 4 = .ok (.getfield 34, 3) := by decide +kernel
theorem dX0_playTill_7 : decode cX0_playTill 7 = .ok (.if_icmp .ge 36, 3) := by decide +kernel
theorem dX0_playTill_10 : decode cX0_playTill 10 = .ok (.aload_n 0, 1) := by decide +kernel
theorem dX0_playTill_11 : decode cX0_playTill 11 = .ok (.getfield 9, 3) := by decide +kernel
theorem dX0_playTill_14 : decode cX0_playTill 14 = .ok (.iload_n 2, 1) := by decide +kernel
theorem dX0_playTill_15 : decode cX0_playTill 15 = .ok (.iaload, 1) := by decide +kernel
theorem dX0_playTill_16 : decode cX0_playTill 16 = .ok (.iconst 3, 1) := by decide +kernel
theorem dX0_playTill_17 : decode cX0_playTill 17 = .ok (.if_icmp .ne 20, 3) := by decide +kernel
theorem dX0_playTill_20 : decode cX0_playTill 20 = .ok (.aload_n 1, 1) := by decide +kernel
theorem dX0_playTill_21 : decode cX0_playTill 21 = .ok (.bipush 16, 2) := by decide +kernel
theorem dX0_playTill_23 : decode cX0_playTill 23 = .ok (.invokevirtual 98, 3) := by decide +kernel
theorem dX0_playTill_26 : decode cX0_playTill 26 = .ok (.aload_n 0, 1) := by decide +kernel
theorem dX0_playTill_27 : decode cX0_playTill 27 = .ok (.getfield 15, 3) := by decide +kernel
theorem dX0_playTill_30 : decode cX0_playTill 30 = .ok (.iload_n 2, 1) := by decide +kernel
theorem dX0_playTill_31 : decode cX0_playTill 31 = .ok (.iaload, 1) := by decide +kernel
theorem dX0_playTill_32 : decode cX0_playTill 32 = .ok (.if_icmp .lt 5, 3) := by decide +kernel
theorem dX0_playTill_35 : decode cX0_playTill 35 = .ok (.iload_n 2, 1) := by decide +kernel
theorem dX0_playTill_36 : decode cX0_playTill 36 = .ok (.ireturn, 1) := by decide +kernel
theorem dX0_playTill_37 : decode cX0_playTill 37 = .ok (.iinc 2 1, 3) := by decide +kernel
theorem dX0_playTill_40 : decode cX0_playTill 40 = .ok (.goto (-38), 3) := by decide +kernel
theorem dX0_playTill_43 : decode cX0_playTill 43 = .ok (.aload_n 0, 1) := by decide +kernel
theorem dX0_playTill_44 : decode cX0_playTill 44 = .ok (.getfield 34, 3) := by decide +kernel
theorem dX0_playTill_47 : decode cX0_playTill 47 = .ok (.ireturn, 1) := by decide +kernel
theorem dX1_told_0 : decode cX1_told 0 = .ok (.lload_n 0, 1) := by decide +kernel
theorem dX1_told_1 : decode cX1_told 1 = .ok (.lstore 4, 2) := by decide +kernel
theorem dX1_told_3 : decode cX1_told 3 = .ok (.iload_n 2, 1) := by decide +kernel
theorem dX1_told_4 : decode cX1_told 4 = .ok (.istore 6, 2) := by decide +kernel
theorem dX1_told_6 : decode cX1_told 6 = .ok (.iload 6, 2) := by decide +kernel
theorem dX1_told_8 : decode cX1_told 8 = .ok (.ifCond .le 24, 3) := by decide +kernel
theorem dX1_told_11 : decode cX1_told 11 = .ok (.lload 4, 2) := by decide +kernel
theorem dX1_told_13 : decode cX1_told 13 = .ok (.lconst 1, 1) := by decide +kernel
theorem dX1_told_14 : decode cX1_told 14 = .ok (.land, 1) := by decide +kernel
theorem dX1_told_15 : decode cX1_told 15 = .ok (.lconst 0, 1) := by decide +kernel
theorem dX1_told_16 : decode cX1_told 16 = .ok (.lcmp, 1) := by decide +kernel
theorem dX1_told_17 : decode cX1_told 17 = .ok (.ifCond .ne 15, 3) := by decide +kernel
theorem dX1_told_20 : decode cX1_told 20 = .ok (.lload 4, 2) := by decide +kernel
theorem dX1_told_22 : decode cX1_told 22 = .ok (.iconst 1, 1) := by decide +kernel
theorem dX1_told_23 : decode cX1_told 23 = .ok (.lshr, 1) := by decide +kernel
theorem dX1_told_24 : decode cX1_told 24 = .ok (.lstore 4, 2) := by decide +kernel
theorem dX1_told_26 : decode cX1_told 26 = .ok (.iinc 6 (-1), 3) := by decide +kernel
theorem dX1_told_29 : decode cX1_told 29 = .ok (.goto (-23), 3) := by decide +kernel
theorem dX1_told_32 : decode cX1_told 32 = .ok (.iload_n 3, 1) := by decide +kernel
theorem dX1_told_33 : decode cX1_told 33 = .ok (.ifCond .ne 8, 3) := by decide +kernel
theorem dX1_told_36 : decode cX1_told 36 = .ok (.lload 4, 2) := by decide +kernel
theorem dX1_told_38 : decode cX1_told 38 = .ok (.goto 7, 3) := by decide +kernel
theorem dX1_told_41 : decode cX1_told 41 = .ok (.lconst 1, 1) := by decide +kernel
theorem dX1_told_42 : decode cX1_told 42 = .ok (.iload 6, 2) := by decide +kernel
theorem dX1_told_44 : decode cX1_told 44 = .ok (.lshl, 1) := by decide +kernel
theorem dX1_told_45 : decode cX1_told 45 = .ok (.lreturn, 1) := by decide +kernel
theorem dX2_init_0 : decode cX2_init 0 = .ok (.aload_n 0, 1) := by decide +kernel
theorem dX2_init_1 : decode cX2_init 1 = .ok (.invokespecial 3, 3) := by decide +kernel
theorem dX2_init_4 : decode cX2_init 4 = .ok (.aload_n 0, 1) := by decide +kernel
theorem dX2_init_5 : decode cX2_init 5 = .ok (.bipush 40, 2) := by decide +kernel
theorem dX2_init_7 : decode cX2_init 7 = .ok (.newarray .int, 2) := by decide +kernel
theorem dX2_init_9 : decode cX2_init 9 = .ok (.putfield 9, 3) := by decide +kernel
theorem dX2_init_12 : decode cX2_init 12 = .ok (.aload_n 0, 1) := by decide +kernel
theorem dX2_init_13 : decode cX2_init 13 = .ok (.iconst (-1), 1) := by decide +kernel
theorem dX2_init_14 : decode cX2_init 14 = .ok (.putfield 15, 3) := by decide +kernel
theorem dX2_init_17 : decode cX2_init 17 = .ok (.return_, 1) := by decide +kernel
theorem dX2_parse_0 : decode cX2_parse 0 = .ok (.aload_n 0, 1) := by decide +kernel
theorem dX2_parse_1 : decode cX2_parse 1 = .ok (.aload_n 1, 1) := by decide +kernel
theorem dX2_parse_2 : decode cX2_parse 2 = .ok (.invokestatic 19, 3) := by decide +kernel
theorem dX2_parse_5 : decode cX2_parse 5 = .ok (.putfield 15, 3) := by decide +kernel
theorem dX2_parse_8 : decode cX2_parse 8 = .ok (.aload_n 0, 1) := by decide +kernel
theorem dX2_parse_9 : decode cX2_parse 9 = .ok (.aload_n 0, 1) := by decide +kernel
theorem dX2_parse_10 : decode cX2_parse 10 = .ok (.getfield 15, 3) := by decide +kernel
theorem dX2_parse_13 : decode cX2_parse 13 = .ok (.iconst (-1), 1) := by decide +kernel
theorem dX2_parse_14 : decode cX2_parse 14 = .ok (.if_icmp .ne 20, 3) := by decide +kernel
theorem dX2_parse_17 : decode cX2_parse 17 = .ok (.bipush 8, 2) := by decide +kernel
theorem dX2_parse_19 : decode cX2_parse 19 = .ok (.aload_n 1, 1) := by decide +kernel
theorem dX2_parse_20 : decode cX2_parse 20 = .ok (.getfield 23, 3) := by decide +kernel
theorem dX2_parse_23 : decode cX2_parse 23 = .ok (.iconst 1, 1) := by decide +kernel
theorem dX2_parse_24 : decode cX2_parse 24 = .ok (.iadd, 1) := by decide +kernel
theorem dX2_parse_25 : decode cX2_parse 25 = .ok (.bipush 6, 2) := by decide +kernel
theorem dX2_parse_27 : decode cX2_parse 27 = .ok (.idiv, 1) := by decide +kernel
theorem dX2_parse_28 : decode cX2_parse 28 = .ok (.invokestatic 28, 3) := by decide +kernel
theorem dX2_parse_31 : decode cX2_parse 31 = .ok (.goto 4, 3) := by decide +kernel
theorem dX2_parse_34 : decode cX2_parse 34 = .ok (.iconst 0, 1) := by decide +kernel
theorem dX2_parse_35 : decode cX2_parse 35 = .ok (.putfield 34, 3) := by decide +kernel
theorem dX2_parse_38 : decode cX2_parse 38 = .ok (.iconst 0, 1) := by decide +kernel
theorem dX2_parse_39 : decode cX2_parse 39 = .ok (.istore_n 2, 1) := by decide +kernel
theorem dX2_parse_40 : decode cX2_parse 40 = .ok (.iload_n 2, 1) := by decide +kernel
theorem dX2_parse_41 : decode cX2_parse 41 = .ok (.aload_n 0, 1) := by decide +kernel
theorem dX2_parse_42 : decode cX2_parse 42 = .ok (.getfield 34, 3) := by decide +kernel
theorem dX2_parse_45 : decode cX2_parse 45 = .ok (.if_icmp .ge 135, 3) := by decide +kernel
theorem dX2_parse_48 : decode cX2_parse 48 = .ok (.iload_n 2, 1) := by decide +kernel
theorem dX2_parse_49 : decode cX2_parse 49 = .ok (.bipush 6, 2) := by decide +kernel
theorem dX2_parse_51 : decode cX2_parse 51 = .ok (.imul, 1) := by decide +kernel
theorem dX2_parse_52 : decode cX2_parse 52 = .ok (.istore_n 3, 1) := by decide +kernel
theorem dX2_parse_53 : decode cX2_parse 53 = .ok (.iload_n 2, 1) := by decide +kernel
theorem dX2_parse_54 : decode cX2_parse 54 = .ok (.iconst 5, 1) := by decide +kernel
theorem dX2_parse_55 : decode cX2_parse 55 = .ok (.imul, 1) := by decide +kernel
theorem dX2_parse_56 : decode cX2_parse 56 = .ok (.istore 4, 2) := by decide +kernel
theorem dX2_parse_58 : decode cX2_parse 58 = .ok (.aload_n 0, 1) := by decide +kernel
theorem dX2_parse_59 : decode cX2_parse 59 = .ok (.getfield 9, 3) := by decide +kernel
theorem dX2_parse_62 : decode cX2_parse 62 = .ok (.iload 4, 2) := by decide +kernel
theorem dX2_parse_64 : decode cX2_parse 64 = .ok (.iconst 0, 1) := by decide +kernel
theorem dX2_parse_65 : decode cX2_parse 65 = .ok (.iadd, 1) := by decide +kernel
theorem dX2_parse_66 : decode cX2_parse 66 = .ok (.aload_n 1, 1) := by decide +kernel
theorem dX2_parse_67 : decode cX2_parse 67 = .ok (.iload_n 3, 1) := by decide +kernel
theorem dX2_parse_68 : decode cX2_parse 68 = .ok (.invokevirtual 35, 3) := by decide +kernel
theorem dX2_parse_71 : decode cX2_parse 71 = .ok (.invokestatic 39, 3) := by decide +kernel
theorem dX2_parse_74 : decode cX2_parse 74 = .ok (.iastore, 1) := by decide +kernel
theorem dX2_parse_75 : decode cX2_parse 75 = .ok (.aload_n 0, 1) := by decide +kernel
theorem dX2_parse_76 : decode cX2_parse 76 = .ok (.getfield 9, 3) := by decide +kernel
theorem dX2_parse_79 : decode cX2_parse 79 = .ok (.iload 4, 2) := by decide +kernel
theorem dX2_parse_81 : decode cX2_parse 81 = .ok (.iconst 1, 1) := by decide +kernel
theorem dX2_parse_82 : decode cX2_parse 82 = .ok (.iadd, 1) := by decide +kernel
theorem dX2_parse_83 : decode cX2_parse 83 = .ok (.aload_n 1, 1) := by decide +kernel
theorem dX2_parse_84 : decode cX2_parse 84 = .ok (.iload_n 3, 1) := by decide +kernel
theorem dX2_parse_85 : decode cX2_parse 85 = .ok (.iconst 1, 1) := by decide +kernel
theorem dX2_parse_86 : decode cX2_parse 86 = .ok (.iadd, 1) := by decide +kernel
theorem dX2_parse_87 : decode cX2_parse 87 = .ok (.invokevirtual 35, 3) := by decide +kernel
theorem dX2_parse_90 : decode cX2_parse 90 = .ok (.bipush 48, 2) := by decide +kernel
theorem dX2_parse_92 : decode cX2_parse 92 = .ok (.isub, 1) := by decide +kernel
theorem dX2_parse_93 : decode cX2_parse 93 = .ok (.iastore, 1) := by decide +kernel
theorem dX2_parse_94 : decode cX2_parse 94 = .ok (.aload_n 0, 1) := by decide +kernel
theorem dX2_parse_95 : decode cX2_parse 95 = .ok (.getfield 9, 3) := by decide +kernel
theorem dX2_parse_98 : decode cX2_parse 98 = .ok (.iload 4, 2) := by decide +kernel
theorem dX2_parse_100 : decode cX2_parse 100 = .ok (.iconst 2, 1) := by decide +kernel
theorem dX2_parse_101 : decode cX2_parse 101 = .ok (.iadd, 1) := by decide +kernel
theorem dX2_parse_102 : decode cX2_parse 102 = .ok (.aload_n 1, 1) := by decide +kernel
theorem dX2_parse_103 : decode cX2_parse 103 = .ok (.iload_n 3, 1) := by decide +kernel
theorem dX2_parse_104 : decode cX2_parse 104 = .ok (.iconst 2, 1) := by decide +kernel
theorem dX2_parse_105 : decode cX2_parse 105 = .ok (.iadd, 1) := by decide +kernel
theorem dX2_parse_106 : decode cX2_parse 106 = .ok (.invokevirtual 35, 3) := by decide +kernel
theorem dX2_parse_109 : decode cX2_parse 109 = .ok (.bipush 48, 2) := by decide +kernel
theorem dX2_parse_111 : decode cX2_parse 111 = .ok (.isub, 1) := by decide +kernel
theorem dX2_parse_112 : decode cX2_parse 112 = .ok (.iastore, 1) := by decide +kernel
theorem dX2_parse_113 : decode cX2_parse 113 = .ok (.aload_n 0, 1) := by decide +kernel
theorem dX2_parse_114 : decode cX2_parse 114 = .ok (.getfield 9, 3) := by decide +kernel
theorem dX2_parse_117 : decode cX2_parse 117 = .ok (.iload 4, 2) := by decide +kernel
theorem dX2_parse_119 : decode cX2_parse 119 = .ok (.iconst 3, 1) := by decide +kernel
theorem dX2_parse_120 : decode cX2_parse 120 = .ok (.iadd, 1) := by decide +kernel
theorem dX2_parse_121 : decode cX2_parse 121 = .ok (.aload_n 1, 1) := by decide +kernel
theorem dX2_parse_122 : decode cX2_parse 122 = .ok (.iload_n 3, 1) := by decide +kernel
theorem dX2_parse_123 : decode cX2_parse 123 = .ok (.iconst 3, 1) := by decide +kernel
theorem dX2_parse_124 : decode cX2_parse 124 = .ok (.iadd, 1) := by decide +kernel
theorem dX2_parse_125 : decode cX2_parse 125 = .ok (.invokevirtual 35, 3) := by decide +kernel
theorem dX2_parse_128 : decode cX2_parse 128 = .ok (.bipush 103, 2) := by decide +kernel
theorem dX2_parse_130 : decode cX2_parse 130 = .ok (.if_icmp .ne 7, 3) := by decide +kernel
theorem dX2_parse_133 : decode cX2_parse 133 = .ok (.iconst 1, 1) := by decide +kernel
theorem dX2_parse_134 : decode cX2_parse 134 = .ok (.goto 4, 3) := by decide +kernel
theorem dX2_parse_137 : decode cX2_parse 137 = .ok (.iconst 0, 1) := by decide +kernel
theorem dX2_parse_138 : decode cX2_parse 138 = .ok (.iastore, 1) := by decide +kernel
theorem dX2_parse_139 : decode cX2_parse 139 = .ok (.aload_n 0, 1) := by decide +kernel
theorem dX2_parse_140 : decode cX2_parse 140 = .ok (.getfield 9, 3) := by decide +kernel
theorem dX2_parse_143 : decode cX2_parse 143 = .ok (.iload 4, 2) := by decide +kernel
theorem dX2_parse_145 : decode cX2_parse 145 = .ok (.iconst 4, 1) := by decide +kernel
theorem dX2_parse_146 : decode cX2_parse 146 = .ok (.iadd, 1) := by decide +kernel
theorem dX2_parse_147 : decode cX2_parse 147 = .ok (.aload_n 1, 1) := by decide +kernel
theorem dX2_parse_148 : decode cX2_parse 148 = .ok (.iload_n 3, 1) := by decide +kernel
theorem dX2_parse_149 : decode cX2_parse 149 = .ok (.iconst 4, 1) := by decide +kernel
theorem dX2_parse_150 : decode cX2_parse 150 = .ok (.iadd, 1) := by decide +kernel
theorem dX2_parse_151 : decode cX2_parse 151 = .ok (.invokevirtual 35, 3) := by decide +kernel
theorem dX2_parse_154 : decode cX2_parse 154 = .ok (.bipush 46, 2) := by decide +kernel
theorem dX2_parse_156 : decode cX2_parse 156 = .ok (.if_icmp .ne 7, 3) := by decide +kernel
theorem dX2_parse_159 : decode cX2_parse 159 = .ok (.iconst (-1), 1) := by decide +kernel
theorem dX2_parse_160 : decode cX2_parse 160 = .ok (.goto 13, 3) := by decide +kernel
theorem dX2_parse_163 : decode cX2_parse 163 = .ok (.aload_n 1, 1) := by decide +kernel
theorem dX2_parse_164 : decode cX2_parse 164 = .ok (.iload_n 3, 1) := by decide +kernel
theorem dX2_parse_165 : decode cX2_parse 165 = .ok (.iconst 4, 1) := by decide +kernel
theorem dX2_parse_166 : decode cX2_parse 166 = .ok (.iadd, 1) := by decide +kernel
theorem dX2_parse_167 : decode cX2_parse 167 = .ok (.invokevirtual 35, 3) := by decide +kernel
theorem dX2_parse_170 : decode cX2_parse 170 = .ok (.bipush 48, 2) := by decide +kernel
theorem dX2_parse_172 : decode cX2_parse 172 = .ok (.isub, 1) := by decide +kernel
theorem dX2_parse_173 : decode cX2_parse 173 = .ok (.iastore, 1) := by decide +kernel
theorem dX2_parse_174 : decode cX2_parse 174 = .ok (.iinc 2 1, 3) := by decide +kernel
theorem dX2_parse_177 : decode cX2_parse 177 = .ok (.goto (-137), 3) := by decide +kernel
theorem dX2_parse_180 : decode cX2_parse 180 = .ok (.return_, 1) := by decide +kernel
theorem dX2_placeOfFault_0 : decode cX2_placeOfFault 0 = .ok (.iconst 0, 1) := by decide +kernel
theorem dX2_placeOfFault_1 : decode cX2_placeOfFault 1 = .ok (.istore_n 1, 1) := by decide +kernel
theorem dX2_placeOfFault_2 : decode cX2_placeOfFault 2 = .ok (.iload_n 1, 1) := by decide +kernel
theorem dX2_placeOfFault_3 : decode cX2_placeOfFault 3 = .ok (.aload_n 0, 1) := by decide +kernel
theorem dX2_placeOfFault_4 : decode cX2_placeOfFault 4 = .ok (.getfield 23, 3) := by decide +kernel
theorem dX2_placeOfFault_7 : decode cX2_placeOfFault 7 = .ok (.if_icmp .ge 26, 3) := by decide +kernel
theorem dX2_placeOfFault_10 : decode cX2_placeOfFault 10 = .ok (.aload_n 0, 1) := by decide +kernel
theorem dX2_placeOfFault_11 : decode cX2_placeOfFault 11 = .ok (.iload_n 1, 1) := by decide +kernel
theorem dX2_placeOfFault_12 : decode cX2_placeOfFault 12 = .ok (.invokevirtual 35, 3) := by decide +kernel
theorem dX2_placeOfFault_15 : decode cX2_placeOfFault 15 = .ok (.iload_n 1, 1) := by decide +kernel
theorem dX2_placeOfFault_16 : decode cX2_placeOfFault 16 = .ok (.bipush 6, 2) := by decide +kernel
theorem dX2_placeOfFault_18 : decode cX2_placeOfFault 18 = .ok (.irem, 1) := by decide +kernel
theorem dX2_placeOfFault_19 : decode cX2_placeOfFault 19 = .ok (.invokestatic 42, 3) := by decide +kernel
theorem dX2_placeOfFault_22 : decode cX2_placeOfFault 22 = .ok (.ifCond .ne 5, 3) := by decide +kernel
theorem dX2_placeOfFault_25 : decode cX2_placeOfFault 25 = .ok (.iload_n 1, 1) := by decide +kernel
theorem dX2_placeOfFault_26 : decode cX2_placeOfFault 26 = .ok (.ireturn, 1) := by decide +kernel
theorem dX2_placeOfFault_27 : decode cX2_placeOfFault 27 = .ok (.iinc 1 1, 3) := by decide +kernel
theorem dX2_placeOfFault_30 : decode cX2_placeOfFault 30 = .ok (.goto (-28), 3) := by decide +kernel
theorem dX2_placeOfFault_33 : decode cX2_placeOfFault 33 = .ok (.aload_n 0, 1) := by decide +kernel
theorem dX2_placeOfFault_34 : decode cX2_placeOfFault 34 = .ok (.getfield 23, 3) := by decide +kernel
theorem dX2_placeOfFault_37 : decode cX2_placeOfFault 37 = .ok (.ifCond .eq 14, 3) := by decide +kernel
theorem dX2_placeOfFault_40 : decode cX2_placeOfFault 40 = .ok (.aload_n 0, 1) := by decide +kernel
theorem dX2_placeOfFault_41 : decode cX2_placeOfFault 41 = .ok (.getfield 23, 3) := by decide +kernel
theorem dX2_placeOfFault_44 : decode cX2_placeOfFault 44 = .ok (.bipush 6, 2) := by decide +kernel
theorem dX2_placeOfFault_46 : decode cX2_placeOfFault 46 = .ok (.irem, 1) := by decide +kernel
theorem dX2_placeOfFault_47 : decode cX2_placeOfFault 47 = .ok (.iconst 5, 1) := by decide +kernel
theorem dX2_placeOfFault_48 : decode cX2_placeOfFault 48 = .ok (.if_icmp .ne 7, 3) := by decide +kernel
theorem dX2_placeOfFault_51 : decode cX2_placeOfFault 51 = .ok (.iconst 1, 1) := by decide +kernel
theorem dX2_placeOfFault_52 : decode cX2_placeOfFault 52 = .ok (.goto 4, 3) := by decide +kernel
theorem dX2_placeOfFault_55 : decode cX2_placeOfFault 55 = .ok (.iconst 0, 1) := by decide +kernel
theorem dX2_placeOfFault_56 : decode cX2_placeOfFault 56 = .ok (.istore_n 1, 1) := by decide +kernel
theorem dX2_placeOfFault_57 : decode cX2_placeOfFault 57 = .ok (.iload_n 1, 1) := by decide +kernel
end
