section
-- ===== PART A: goes FIRST, ahead of the names: the tables' words, and 'selects' of the private methods out of them =====
/-- a private method of a class that the tables say can be made, by its rows of tables_1 -/
def lw_okq (q : MethodName × Nat) : Prop := (q.1.cls ≠ "java/lang/invoke/MethodHandle" ∧ q.1.cls ≠ "java/lang/invoke/VarHandle") ∧ Cond.instantiable q.1.cls q.2 ∈ tables_1 ∧ Cond.privateMethod q.1 ∈ tables_1 ∧ Cond.instanceMethod q.1 ∈ tables_1
theorem lw_p0 : lw_okq (⟨"RoverMinutes$Supply", "reckonNeeds", "()V"⟩, 7) := ⟨⟨by decide +kernel, by decide +kernel⟩, List.mem_of_getElem? (i := 59) (by decide +kernel), List.mem_of_getElem? (i := 69) (by decide +kernel), List.mem_of_getElem? (i := 70) (by decide +kernel)⟩
theorem lw_p1 : lw_okq (⟨"RoverMinutes$Supply", "needFrom", "(I)I"⟩, 7) := ⟨⟨by decide +kernel, by decide +kernel⟩, List.mem_of_getElem? (i := 59) (by decide +kernel), List.mem_of_getElem? (i := 73) (by decide +kernel), List.mem_of_getElem? (i := 74) (by decide +kernel)⟩
theorem lw_p2 : lw_okq (⟨"RoverMinutes$Envelope", "clear", "()V"⟩, 4) := ⟨⟨by decide +kernel, by decide +kernel⟩, List.mem_of_getElem? (i := 110) (by decide +kernel), List.mem_of_getElem? (i := 308) (by decide +kernel), List.mem_of_getElem? (i := 309) (by decide +kernel)⟩
theorem lw_p3 : lw_okq (⟨"RoverMinutes$Envelope", "add", "(LRoverMinutes$Activity;I)V"⟩, 4) := ⟨⟨by decide +kernel, by decide +kernel⟩, List.mem_of_getElem? (i := 110) (by decide +kernel), List.mem_of_getElem? (i := 316) (by decide +kernel), List.mem_of_getElem? (i := 317) (by decide +kernel)⟩
theorem lw_p4 : lw_okq (⟨"java/lang/Throwable", "fillInStackTrace", "(I)Ljava/lang/Throwable;"⟩, 6) := ⟨⟨by decide +kernel, by decide +kernel⟩, List.mem_of_getElem? (i := 388) (by decide +kernel), List.mem_of_getElem? (i := 386) (by decide +kernel), List.mem_of_getElem? (i := 387) (by decide +kernel)⟩
theorem lw_p5 : lw_okq (⟨"RoverMinutes$PlanReader", "take", "(C)Z"⟩, 2) := ⟨⟨by decide +kernel, by decide +kernel⟩, List.mem_of_getElem? (i := 46) (by decide +kernel), List.mem_of_getElem? (i := 452) (by decide +kernel), List.mem_of_getElem? (i := 453) (by decide +kernel)⟩
theorem lw_p6 : lw_okq (⟨"RoverMinutes$PlanReader", "readTimes", "(LRoverMinutes$Activity;C)Z"⟩, 2) := ⟨⟨by decide +kernel, by decide +kernel⟩, List.mem_of_getElem? (i := 46) (by decide +kernel), List.mem_of_getElem? (i := 456) (by decide +kernel), List.mem_of_getElem? (i := 457) (by decide +kernel)⟩
theorem lw_p7 : lw_okq (⟨"RoverMinutes$PlanReader", "takeNumber", "()I"⟩, 2) := ⟨⟨by decide +kernel, by decide +kernel⟩, List.mem_of_getElem? (i := 46) (by decide +kernel), List.mem_of_getElem? (i := 460) (by decide +kernel), List.mem_of_getElem? (i := 461) (by decide +kernel)⟩
theorem lw_p8 : lw_okq (⟨"RoverMinutes$PlanReader", "takeDigit", "()I"⟩, 2) := ⟨⟨by decide +kernel, by decide +kernel⟩, List.mem_of_getElem? (i := 46) (by decide +kernel), List.mem_of_getElem? (i := 464) (by decide +kernel), List.mem_of_getElem? (i := 465) (by decide +kernel)⟩
theorem lw_p9 : lw_okq (⟨"RoverMinutes$PlanReader", "readOptions", "(LRoverMinutes$Activity;)Z"⟩, 2) := ⟨⟨by decide +kernel, by decide +kernel⟩, List.mem_of_getElem? (i := 46) (by decide +kernel), List.mem_of_getElem? (i := 468) (by decide +kernel), List.mem_of_getElem? (i := 469) (by decide +kernel)⟩
theorem lw_p10 : lw_okq (⟨"RoverMinutes$PlanReader", "readValue", "(LRoverMinutes$Activity;I)Z"⟩, 2) := ⟨⟨by decide +kernel, by decide +kernel⟩, List.mem_of_getElem? (i := 46) (by decide +kernel), List.mem_of_getElem? (i := 555) (by decide +kernel), List.mem_of_getElem? (i := 556) (by decide +kernel)⟩
theorem lw_p11 : lw_okq (⟨"RoverMinutes$PlanReader", "readLink", "(LRoverMinutes$Activity;C)Z"⟩, 2) := ⟨⟨by decide +kernel, by decide +kernel⟩, List.mem_of_getElem? (i := 46) (by decide +kernel), List.mem_of_getElem? (i := 559) (by decide +kernel), List.mem_of_getElem? (i := 560) (by decide +kernel)⟩
theorem lw_p12 : lw_okq (⟨"RoverMinutes$Plan", "saysWrong", "(I)Z"⟩, 2) := ⟨⟨by decide +kernel, by decide +kernel⟩, List.mem_of_getElem? (i := 129) (by decide +kernel), List.mem_of_getElem? (i := 571) (by decide +kernel), List.mem_of_getElem? (i := 572) (by decide +kernel)⟩
theorem lw_p13 : lw_okq (⟨"RoverMinutes$Plan", "isInRing", "(I)Z"⟩, 2) := ⟨⟨by decide +kernel, by decide +kernel⟩, List.mem_of_getElem? (i := 129) (by decide +kernel), List.mem_of_getElem? (i := 575) (by decide +kernel), List.mem_of_getElem? (i := 576) (by decide +kernel)⟩
theorem lw_p14 : lw_okq (⟨"RoverMinutes$Plan", "reckonEarliest", "()V"⟩, 2) := ⟨⟨by decide +kernel, by decide +kernel⟩, List.mem_of_getElem? (i := 129) (by decide +kernel), List.mem_of_getElem? (i := 579) (by decide +kernel), List.mem_of_getElem? (i := 580) (by decide +kernel)⟩
theorem lw_p15 : lw_okq (⟨"RoverMinutes$Plan", "earliestOf", "(LRoverMinutes$Activity;)I"⟩, 2) := ⟨⟨by decide +kernel, by decide +kernel⟩, List.mem_of_getElem? (i := 129) (by decide +kernel), List.mem_of_getElem? (i := 583) (by decide +kernel), List.mem_of_getElem? (i := 584) (by decide +kernel)⟩
def lw_privs_1 : List (MethodName × Nat) := [(⟨"RoverMinutes$Supply", "reckonNeeds", "()V"⟩, 7), (⟨"RoverMinutes$Supply", "needFrom", "(I)I"⟩, 7), (⟨"RoverMinutes$Envelope", "clear", "()V"⟩, 4), (⟨"RoverMinutes$Envelope", "add", "(LRoverMinutes$Activity;I)V"⟩, 4), (⟨"java/lang/Throwable", "fillInStackTrace", "(I)Ljava/lang/Throwable;"⟩, 6), (⟨"RoverMinutes$PlanReader", "take", "(C)Z"⟩, 2), (⟨"RoverMinutes$PlanReader", "readTimes", "(LRoverMinutes$Activity;C)Z"⟩, 2), (⟨"RoverMinutes$PlanReader", "takeNumber", "()I"⟩, 2), (⟨"RoverMinutes$PlanReader", "takeDigit", "()I"⟩, 2), (⟨"RoverMinutes$PlanReader", "readOptions", "(LRoverMinutes$Activity;)Z"⟩, 2), (⟨"RoverMinutes$PlanReader", "readValue", "(LRoverMinutes$Activity;I)Z"⟩, 2), (⟨"RoverMinutes$PlanReader", "readLink", "(LRoverMinutes$Activity;C)Z"⟩, 2), (⟨"RoverMinutes$Plan", "saysWrong", "(I)Z"⟩, 2), (⟨"RoverMinutes$Plan", "isInRing", "(I)Z"⟩, 2), (⟨"RoverMinutes$Plan", "reckonEarliest", "()V"⟩, 2), (⟨"RoverMinutes$Plan", "earliestOf", "(LRoverMinutes$Activity;)I"⟩, 2)]
theorem lw_r1 : ∀ q ∈ lw_privs_1, lw_okq q := List.forall_mem_cons.mpr ⟨lw_p0, List.forall_mem_cons.mpr ⟨lw_p1, List.forall_mem_cons.mpr ⟨lw_p2, List.forall_mem_cons.mpr ⟨lw_p3, List.forall_mem_cons.mpr ⟨lw_p4, List.forall_mem_cons.mpr ⟨lw_p5, List.forall_mem_cons.mpr ⟨lw_p6, List.forall_mem_cons.mpr ⟨lw_p7, List.forall_mem_cons.mpr ⟨lw_p8, List.forall_mem_cons.mpr ⟨lw_p9, List.forall_mem_cons.mpr ⟨lw_p10, List.forall_mem_cons.mpr ⟨lw_p11, List.forall_mem_cons.mpr ⟨lw_p12, List.forall_mem_cons.mpr ⟨lw_p13, List.forall_mem_cons.mpr ⟨lw_p14, List.forall_mem_cons.mpr ⟨lw_p15, fun _ h => absurd h List.not_mem_nil⟩⟩⟩⟩⟩⟩⟩⟩⟩⟩⟩⟩⟩⟩⟩⟩
theorem lw_p16 : lw_okq (⟨"RoverMinutes$Plan", "isHopeless", "(LRoverMinutes$Activity;I)Z"⟩, 2) := ⟨⟨by decide +kernel, by decide +kernel⟩, List.mem_of_getElem? (i := 129) (by decide +kernel), List.mem_of_getElem? (i := 621) (by decide +kernel), List.mem_of_getElem? (i := 622) (by decide +kernel)⟩
theorem lw_p17 : lw_okq (⟨"RoverMinutes", "startAndSettle", "()I"⟩, 10) := ⟨⟨by decide +kernel, by decide +kernel⟩, List.mem_of_getElem? (i := 22) (by decide +kernel), List.mem_of_getElem? (i := 637) (by decide +kernel), List.mem_of_getElem? (i := 638) (by decide +kernel)⟩
theorem lw_p18 : lw_okq (⟨"RoverMinutes", "mayStart", "(I)Z"⟩, 10) := ⟨⟨by decide +kernel, by decide +kernel⟩, List.mem_of_getElem? (i := 22) (by decide +kernel), List.mem_of_getElem? (i := 641) (by decide +kernel), List.mem_of_getElem? (i := 642) (by decide +kernel)⟩
theorem lw_p19 : lw_okq (⟨"RoverMinutes", "beginReturn", "()V"⟩, 10) := ⟨⟨by decide +kernel, by decide +kernel⟩, List.mem_of_getElem? (i := 22) (by decide +kernel), List.mem_of_getElem? (i := 670) (by decide +kernel), List.mem_of_getElem? (i := 671) (by decide +kernel)⟩
theorem lw_p20 : lw_okq (⟨"RoverMinutes", "passInPlan", "()I"⟩, 10) := ⟨⟨by decide +kernel, by decide +kernel⟩, List.mem_of_getElem? (i := 22) (by decide +kernel), List.mem_of_getElem? (i := 685) (by decide +kernel), List.mem_of_getElem? (i := 686) (by decide +kernel)⟩
theorem lw_p21 : lw_okq (⟨"RoverMinutes$Activity", "stop", "()V"⟩, 19) := ⟨⟨by decide +kernel, by decide +kernel⟩, List.mem_of_getElem? (i := 136) (by decide +kernel), List.mem_of_getElem? (i := 715) (by decide +kernel), List.mem_of_getElem? (i := 716) (by decide +kernel)⟩
theorem lw_p22 : lw_okq (⟨"RoverMinutes", "passInReturn", "()V"⟩, 10) := ⟨⟨by decide +kernel, by decide +kernel⟩, List.mem_of_getElem? (i := 22) (by decide +kernel), List.mem_of_getElem? (i := 719) (by decide +kernel), List.mem_of_getElem? (i := 720) (by decide +kernel)⟩
theorem lw_p23 : lw_okq (⟨"RoverMinutesModel", "refused", "(ZZ)Z"⟩, 31) := ⟨⟨by decide +kernel, by decide +kernel⟩, List.mem_of_getElem? (i := 815) (by decide +kernel), List.mem_of_getElem? (i := 927) (by decide +kernel), List.mem_of_getElem? (i := 928) (by decide +kernel)⟩
theorem lw_p24 : lw_okq (⟨"RoverMinutesModel", "readLine", "()Z"⟩, 31) := ⟨⟨by decide +kernel, by decide +kernel⟩, List.mem_of_getElem? (i := 815) (by decide +kernel), List.mem_of_getElem? (i := 931) (by decide +kernel), List.mem_of_getElem? (i := 932) (by decide +kernel)⟩
theorem lw_p25 : lw_okq (⟨"RoverMinutesModel", "readActivity", "()Z"⟩, 31) := ⟨⟨by decide +kernel, by decide +kernel⟩, List.mem_of_getElem? (i := 815) (by decide +kernel), List.mem_of_getElem? (i := 935) (by decide +kernel), List.mem_of_getElem? (i := 936) (by decide +kernel)⟩
theorem lw_p26 : lw_okq (⟨"RoverMinutesModel", "look", "()I"⟩, 31) := ⟨⟨by decide +kernel, by decide +kernel⟩, List.mem_of_getElem? (i := 815) (by decide +kernel), List.mem_of_getElem? (i := 939) (by decide +kernel), List.mem_of_getElem? (i := 940) (by decide +kernel)⟩
theorem lw_p27 : lw_okq (⟨"RoverMinutesModel", "readInto", "(I)Z"⟩, 31) := ⟨⟨by decide +kernel, by decide +kernel⟩, List.mem_of_getElem? (i := 815) (by decide +kernel), List.mem_of_getElem? (i := 943) (by decide +kernel), List.mem_of_getElem? (i := 944) (by decide +kernel)⟩
theorem lw_p28 : lw_okq (⟨"RoverMinutesModel", "readNumber", "()I"⟩, 31) := ⟨⟨by decide +kernel, by decide +kernel⟩, List.mem_of_getElem? (i := 815) (by decide +kernel), List.mem_of_getElem? (i := 947) (by decide +kernel), List.mem_of_getElem? (i := 948) (by decide +kernel)⟩
theorem lw_p29 : lw_okq (⟨"RoverMinutesModel", "isDigit", "()Z"⟩, 31) := ⟨⟨by decide +kernel, by decide +kernel⟩, List.mem_of_getElem? (i := 815) (by decide +kernel), List.mem_of_getElem? (i := 951) (by decide +kernel), List.mem_of_getElem? (i := 952) (by decide +kernel)⟩
theorem lw_p30 : lw_okq (⟨"RoverMinutesModel", "readOption", "()I"⟩, 31) := ⟨⟨by decide +kernel, by decide +kernel⟩, List.mem_of_getElem? (i := 815) (by decide +kernel), List.mem_of_getElem? (i := 955) (by decide +kernel), List.mem_of_getElem? (i := 956) (by decide +kernel)⟩
theorem lw_p31 : lw_okq (⟨"RoverMinutesModel", "unfit", "()I"⟩, 31) := ⟨⟨by decide +kernel, by decide +kernel⟩, List.mem_of_getElem? (i := 815) (by decide +kernel), List.mem_of_getElem? (i := 962) (by decide +kernel), List.mem_of_getElem? (i := 963) (by decide +kernel)⟩
def lw_privs_2 : List (MethodName × Nat) := [(⟨"RoverMinutes$Plan", "isHopeless", "(LRoverMinutes$Activity;I)Z"⟩, 2), (⟨"RoverMinutes", "startAndSettle", "()I"⟩, 10), (⟨"RoverMinutes", "mayStart", "(I)Z"⟩, 10), (⟨"RoverMinutes", "beginReturn", "()V"⟩, 10), (⟨"RoverMinutes", "passInPlan", "()I"⟩, 10), (⟨"RoverMinutes$Activity", "stop", "()V"⟩, 19), (⟨"RoverMinutes", "passInReturn", "()V"⟩, 10), (⟨"RoverMinutesModel", "refused", "(ZZ)Z"⟩, 31), (⟨"RoverMinutesModel", "readLine", "()Z"⟩, 31), (⟨"RoverMinutesModel", "readActivity", "()Z"⟩, 31), (⟨"RoverMinutesModel", "look", "()I"⟩, 31), (⟨"RoverMinutesModel", "readInto", "(I)Z"⟩, 31), (⟨"RoverMinutesModel", "readNumber", "()I"⟩, 31), (⟨"RoverMinutesModel", "isDigit", "()Z"⟩, 31), (⟨"RoverMinutesModel", "readOption", "()I"⟩, 31), (⟨"RoverMinutesModel", "unfit", "()I"⟩, 31)]
theorem lw_r2 : ∀ q ∈ lw_privs_2, lw_okq q := List.forall_mem_cons.mpr ⟨lw_p16, List.forall_mem_cons.mpr ⟨lw_p17, List.forall_mem_cons.mpr ⟨lw_p18, List.forall_mem_cons.mpr ⟨lw_p19, List.forall_mem_cons.mpr ⟨lw_p20, List.forall_mem_cons.mpr ⟨lw_p21, List.forall_mem_cons.mpr ⟨lw_p22, List.forall_mem_cons.mpr ⟨lw_p23, List.forall_mem_cons.mpr ⟨lw_p24, List.forall_mem_cons.mpr ⟨lw_p25, List.forall_mem_cons.mpr ⟨lw_p26, List.forall_mem_cons.mpr ⟨lw_p27, List.forall_mem_cons.mpr ⟨lw_p28, List.forall_mem_cons.mpr ⟨lw_p29, List.forall_mem_cons.mpr ⟨lw_p30, List.forall_mem_cons.mpr ⟨lw_p31, fun _ h => absurd h List.not_mem_nil⟩⟩⟩⟩⟩⟩⟩⟩⟩⟩⟩⟩⟩⟩⟩⟩
theorem lw_p32 : lw_okq (⟨"RoverMinutesModel", "isWrong", "(I)Z"⟩, 31) := ⟨⟨by decide +kernel, by decide +kernel⟩, List.mem_of_getElem? (i := 815) (by decide +kernel), List.mem_of_getElem? (i := 966) (by decide +kernel), List.mem_of_getElem? (i := 967) (by decide +kernel)⟩
theorem lw_p33 : lw_okq (⟨"RoverMinutesModel", "findRings", "()V"⟩, 31) := ⟨⟨by decide +kernel, by decide +kernel⟩, List.mem_of_getElem? (i := 815) (by decide +kernel), List.mem_of_getElem? (i := 970) (by decide +kernel), List.mem_of_getElem? (i := 971) (by decide +kernel)⟩
theorem lw_p34 : lw_okq (⟨"RoverMinutesModel", "findFirsts", "()V"⟩, 31) := ⟨⟨by decide +kernel, by decide +kernel⟩, List.mem_of_getElem? (i := 815) (by decide +kernel), List.mem_of_getElem? (i := 974) (by decide +kernel), List.mem_of_getElem? (i := 975) (by decide +kernel)⟩
theorem lw_p35 : lw_okq (⟨"RoverMinutesModel", "rest", "()V"⟩, 31) := ⟨⟨by decide +kernel, by decide +kernel⟩, List.mem_of_getElem? (i := 815) (by decide +kernel), List.mem_of_getElem? (i := 978) (by decide +kernel), List.mem_of_getElem? (i := 979) (by decide +kernel)⟩
theorem lw_p36 : lw_okq (⟨"RoverMinutesModel", "isOpen", "(II)Z"⟩, 31) := ⟨⟨by decide +kernel, by decide +kernel⟩, List.mem_of_getElem? (i := 815) (by decide +kernel), List.mem_of_getElem? (i := 986) (by decide +kernel), List.mem_of_getElem? (i := 987) (by decide +kernel)⟩
theorem lw_p37 : lw_okq (⟨"RoverMinutesModel", "afterMinute", "(III)I"⟩, 31) := ⟨⟨by decide +kernel, by decide +kernel⟩, List.mem_of_getElem? (i := 815) (by decide +kernel), List.mem_of_getElem? (i := 990) (by decide +kernel), List.mem_of_getElem? (i := 991) (by decide +kernel)⟩
theorem lw_p38 : lw_okq (⟨"RoverMinutesModel", "skip", "()V"⟩, 31) := ⟨⟨by decide +kernel, by decide +kernel⟩, List.mem_of_getElem? (i := 815) (by decide +kernel), List.mem_of_getElem? (i := 994) (by decide +kernel), List.mem_of_getElem? (i := 995) (by decide +kernel)⟩
theorem lw_p39 : lw_okq (⟨"RoverMinutesModel", "hasIn", "(III)Z"⟩, 31) := ⟨⟨by decide +kernel, by decide +kernel⟩, List.mem_of_getElem? (i := 815) (by decide +kernel), List.mem_of_getElem? (i := 998) (by decide +kernel), List.mem_of_getElem? (i := 999) (by decide +kernel)⟩
theorem lw_p40 : lw_okq (⟨"RoverMinutesModel", "startAll", "()I"⟩, 31) := ⟨⟨by decide +kernel, by decide +kernel⟩, List.mem_of_getElem? (i := 815) (by decide +kernel), List.mem_of_getElem? (i := 1002) (by decide +kernel), List.mem_of_getElem? (i := 1003) (by decide +kernel)⟩
theorem lw_p41 : lw_okq (⟨"RoverMinutesModel", "mayStart", "(I)Z"⟩, 31) := ⟨⟨by decide +kernel, by decide +kernel⟩, List.mem_of_getElem? (i := 815) (by decide +kernel), List.mem_of_getElem? (i := 1006) (by decide +kernel), List.mem_of_getElem? (i := 1007) (by decide +kernel)⟩
theorem lw_p42 : lw_okq (⟨"RoverMinutesModel", "holds", "(I)Z"⟩, 31) := ⟨⟨by decide +kernel, by decide +kernel⟩, List.mem_of_getElem? (i := 815) (by decide +kernel), List.mem_of_getElem? (i := 1010) (by decide +kernel), List.mem_of_getElem? (i := 1011) (by decide +kernel)⟩
theorem lw_p43 : lw_okq (⟨"RoverMinutesModel", "isRunningOr", "(II)Z"⟩, 31) := ⟨⟨by decide +kernel, by decide +kernel⟩, List.mem_of_getElem? (i := 815) (by decide +kernel), List.mem_of_getElem? (i := 1014) (by decide +kernel), List.mem_of_getElem? (i := 1015) (by decide +kernel)⟩
theorem lw_p44 : lw_okq (⟨"RoverMinutesModel", "leftOf", "(II)I"⟩, 31) := ⟨⟨by decide +kernel, by decide +kernel⟩, List.mem_of_getElem? (i := 815) (by decide +kernel), List.mem_of_getElem? (i := 1018) (by decide +kernel), List.mem_of_getElem? (i := 1019) (by decide +kernel)⟩
theorem lw_p45 : lw_okq (⟨"RoverMinutesModel", "drawIn", "(II)I"⟩, 31) := ⟨⟨by decide +kernel, by decide +kernel⟩, List.mem_of_getElem? (i := 815) (by decide +kernel), List.mem_of_getElem? (i := 1022) (by decide +kernel), List.mem_of_getElem? (i := 1023) (by decide +kernel)⟩
theorem lw_p46 : lw_okq (⟨"RoverMinutesModel", "howMany", "(I)I"⟩, 31) := ⟨⟨by decide +kernel, by decide +kernel⟩, List.mem_of_getElem? (i := 815) (by decide +kernel), List.mem_of_getElem? (i := 1026) (by decide +kernel), List.mem_of_getElem? (i := 1027) (by decide +kernel)⟩
theorem lw_p47 : lw_okq (⟨"RoverMinutesModel", "goHome", "()V"⟩, 31) := ⟨⟨by decide +kernel, by decide +kernel⟩, List.mem_of_getElem? (i := 815) (by decide +kernel), List.mem_of_getElem? (i := 1034) (by decide +kernel), List.mem_of_getElem? (i := 1035) (by decide +kernel)⟩
def lw_privs_3 : List (MethodName × Nat) := [(⟨"RoverMinutesModel", "isWrong", "(I)Z"⟩, 31), (⟨"RoverMinutesModel", "findRings", "()V"⟩, 31), (⟨"RoverMinutesModel", "findFirsts", "()V"⟩, 31), (⟨"RoverMinutesModel", "rest", "()V"⟩, 31), (⟨"RoverMinutesModel", "isOpen", "(II)Z"⟩, 31), (⟨"RoverMinutesModel", "afterMinute", "(III)I"⟩, 31), (⟨"RoverMinutesModel", "skip", "()V"⟩, 31), (⟨"RoverMinutesModel", "hasIn", "(III)Z"⟩, 31), (⟨"RoverMinutesModel", "startAll", "()I"⟩, 31), (⟨"RoverMinutesModel", "mayStart", "(I)Z"⟩, 31), (⟨"RoverMinutesModel", "holds", "(I)Z"⟩, 31), (⟨"RoverMinutesModel", "isRunningOr", "(II)Z"⟩, 31), (⟨"RoverMinutesModel", "leftOf", "(II)I"⟩, 31), (⟨"RoverMinutesModel", "drawIn", "(II)I"⟩, 31), (⟨"RoverMinutesModel", "howMany", "(I)I"⟩, 31), (⟨"RoverMinutesModel", "goHome", "()V"⟩, 31)]
theorem lw_r3 : ∀ q ∈ lw_privs_3, lw_okq q := List.forall_mem_cons.mpr ⟨lw_p32, List.forall_mem_cons.mpr ⟨lw_p33, List.forall_mem_cons.mpr ⟨lw_p34, List.forall_mem_cons.mpr ⟨lw_p35, List.forall_mem_cons.mpr ⟨lw_p36, List.forall_mem_cons.mpr ⟨lw_p37, List.forall_mem_cons.mpr ⟨lw_p38, List.forall_mem_cons.mpr ⟨lw_p39, List.forall_mem_cons.mpr ⟨lw_p40, List.forall_mem_cons.mpr ⟨lw_p41, List.forall_mem_cons.mpr ⟨lw_p42, List.forall_mem_cons.mpr ⟨lw_p43, List.forall_mem_cons.mpr ⟨lw_p44, List.forall_mem_cons.mpr ⟨lw_p45, List.forall_mem_cons.mpr ⟨lw_p46, List.forall_mem_cons.mpr ⟨lw_p47, fun _ h => absurd h List.not_mem_nil⟩⟩⟩⟩⟩⟩⟩⟩⟩⟩⟩⟩⟩⟩⟩⟩
theorem lw_p48 : lw_okq (⟨"RoverMinutesModel", "minute", "()I"⟩, 31) := ⟨⟨by decide +kernel, by decide +kernel⟩, List.mem_of_getElem? (i := 815) (by decide +kernel), List.mem_of_getElem? (i := 1042) (by decide +kernel), List.mem_of_getElem? (i := 1043) (by decide +kernel)⟩
theorem lw_p49 : lw_okq (⟨"RoverMinutesModel", "draw", "(I)V"⟩, 31) := ⟨⟨by decide +kernel, by decide +kernel⟩, List.mem_of_getElem? (i := 815) (by decide +kernel), List.mem_of_getElem? (i := 1046) (by decide +kernel), List.mem_of_getElem? (i := 1047) (by decide +kernel)⟩
theorem lw_p50 : lw_okq (⟨"RoverMinutesModel", "age", "()V"⟩, 31) := ⟨⟨by decide +kernel, by decide +kernel⟩, List.mem_of_getElem? (i := 815) (by decide +kernel), List.mem_of_getElem? (i := 1050) (by decide +kernel), List.mem_of_getElem? (i := 1051) (by decide +kernel)⟩
theorem lw_p51 : lw_okq (⟨"RoverMinutesModel", "isActivity", "(I)Z"⟩, 31) := ⟨⟨by decide +kernel, by decide +kernel⟩, List.mem_of_getElem? (i := 815) (by decide +kernel), List.mem_of_getElem? (i := 1058) (by decide +kernel), List.mem_of_getElem? (i := 1059) (by decide +kernel)⟩
theorem lw_p52 : lw_okq (⟨"RoverMinutesModel", "heatNow", "()I"⟩, 31) := ⟨⟨by decide +kernel, by decide +kernel⟩, List.mem_of_getElem? (i := 815) (by decide +kernel), List.mem_of_getElem? (i := 1094) (by decide +kernel), List.mem_of_getElem? (i := 1095) (by decide +kernel)⟩
def lw_privs_4 : List (MethodName × Nat) := [(⟨"RoverMinutesModel", "minute", "()I"⟩, 31), (⟨"RoverMinutesModel", "draw", "(I)V"⟩, 31), (⟨"RoverMinutesModel", "age", "()V"⟩, 31), (⟨"RoverMinutesModel", "isActivity", "(I)Z"⟩, 31), (⟨"RoverMinutesModel", "heatNow", "()I"⟩, 31)]
theorem lw_r4 : ∀ q ∈ lw_privs_4, lw_okq q := List.forall_mem_cons.mpr ⟨lw_p48, List.forall_mem_cons.mpr ⟨lw_p49, List.forall_mem_cons.mpr ⟨lw_p50, List.forall_mem_cons.mpr ⟨lw_p51, List.forall_mem_cons.mpr ⟨lw_p52, fun _ h => absurd h List.not_mem_nil⟩⟩⟩⟩⟩
def lw_privs : List (MethodName × Nat) := lw_privs_1 ++ (lw_privs_2 ++ (lw_privs_3 ++ (lw_privs_4)))
def lw_tbl : List Cond := k2_sels lw_privs ++ tables_1
theorem lw_privs_ok : ∀ q ∈ lw_privs, lw_okq q := by
  show ∀ q ∈ lw_privs_1 ++ (lw_privs_2 ++ (lw_privs_3 ++ (lw_privs_4))), lw_okq q
  exact List.forall_mem_append.mpr ⟨lw_r1, List.forall_mem_append.mpr ⟨lw_r2, List.forall_mem_append.mpr ⟨lw_r3, lw_r4⟩⟩⟩
end
section
/-- the words that every contract of this claim stands on -/
def am_W : List Cond := lw_tbl.filter goodWord
theorem am_W_good : ∀ w ∈ am_W, goodWord w = true := fun w h => (List.mem_filter.mp h).2
theorem am_W_in {w : Cond} (h : w ∈ tables_1) (hg : goodWord w = true) : w ∈ am_W := List.mem_filter.mpr ⟨List.mem_append_right _ h, hg⟩
theorem am_run_1 {w : Cond} (h : w ∈ tables_1_1) : w ∈ tables_1 := List.mem_append_left _ h
theorem am_run_2 {w : Cond} (h : w ∈ tables_1_2) : w ∈ tables_1 := List.mem_append_right _ (List.mem_append_left _ h)
theorem am_run_3 {w : Cond} (h : w ∈ tables_1_3) : w ∈ tables_1 := List.mem_append_right _ (List.mem_append_right _ (List.mem_append_left _ h))
theorem am_run_4 {w : Cond} (h : w ∈ tables_1_4) : w ∈ tables_1 := List.mem_append_right _ (List.mem_append_right _ (List.mem_append_right _ (List.mem_append_left _ h)))
theorem am_run_5 {w : Cond} (h : w ∈ tables_1_5) : w ∈ tables_1 := List.mem_append_right _ (List.mem_append_right _ (List.mem_append_right _ (List.mem_append_right _ (h))))
theorem wd_1_0 : Jvm.Cond.initialized "RoverMinutesLaw" ∈ am_W := am_W_in (am_run_1 (List.mem_of_getElem? (i := 0) rfl)) rfl
theorem wd_1_1 : Jvm.Cond.initialized "RoverMinutes" ∈ am_W := am_W_in (am_run_1 (List.mem_of_getElem? (i := 1) rfl)) rfl
theorem wd_1_2 : Jvm.Cond.initialized "RoverMinutes$Line" ∈ am_W := am_W_in (am_run_1 (List.mem_of_getElem? (i := 2) rfl)) rfl
theorem wd_1_3 : Jvm.Cond.initialized "RoverMinutes$PlanReader" ∈ am_W := am_W_in (am_run_1 (List.mem_of_getElem? (i := 3) rfl)) rfl
theorem wd_1_4 : Jvm.Cond.initialized "RoverMinutes$Supply" ∈ am_W := am_W_in (am_run_1 (List.mem_of_getElem? (i := 4) rfl)) rfl
theorem wd_1_5 : Jvm.Cond.initialized "java/lang/Math" ∈ am_W := am_W_in (am_run_1 (List.mem_of_getElem? (i := 5) rfl)) rfl
theorem wd_1_6 : Jvm.Cond.initialized "RoverMinutes$Envelope" ∈ am_W := am_W_in (am_run_1 (List.mem_of_getElem? (i := 6) rfl)) rfl
theorem wd_1_7 : Jvm.Cond.initialized "RoverMinutes$Plan" ∈ am_W := am_W_in (am_run_1 (List.mem_of_getElem? (i := 7) rfl)) rfl
theorem wd_1_8 : Jvm.Cond.initialized "RoverMinutes$Activity" ∈ am_W := am_W_in (am_run_1 (List.mem_of_getElem? (i := 8) rfl)) rfl
theorem wd_1_9 : Jvm.Cond.initialized "RoverMinutesModel" ∈ am_W := am_W_in (am_run_1 (List.mem_of_getElem? (i := 9) rfl)) rfl
theorem wd_1_10 : Jvm.Cond.initialized "java/lang/Throwable" ∈ am_W := am_W_in (am_run_1 (List.mem_of_getElem? (i := 10) rfl)) rfl
theorem wd_1_11 : Jvm.Cond.initialized "java/lang/Exception" ∈ am_W := am_W_in (am_run_1 (List.mem_of_getElem? (i := 11) rfl)) rfl
theorem wd_1_12 : Jvm.Cond.initialized "java/lang/RuntimeException" ∈ am_W := am_W_in (am_run_1 (List.mem_of_getElem? (i := 12) rfl)) rfl
theorem wd_1_13 : Jvm.Cond.initialized "java/lang/IllegalArgumentException" ∈ am_W := am_W_in (am_run_1 (List.mem_of_getElem? (i := 13) rfl)) rfl
theorem wd_1_14 : Jvm.Cond.initialized "java/lang/IllegalStateException" ∈ am_W := am_W_in (am_run_1 (List.mem_of_getElem? (i := 14) rfl)) rfl
theorem wd_1_15 : Jvm.Cond.initialized "java/lang/String" ∈ am_W := am_W_in (am_run_1 (List.mem_of_getElem? (i := 15) rfl)) rfl
theorem wd_1_16 : Jvm.Cond.initialized "java/lang/StringLatin1" ∈ am_W := am_W_in (am_run_1 (List.mem_of_getElem? (i := 16) rfl)) rfl
theorem wd_1_17 : Jvm.Cond.initialized "java/lang/StringUTF16" ∈ am_W := am_W_in (am_run_1 (List.mem_of_getElem? (i := 17) rfl)) rfl
theorem wd_1_18 : Jvm.Cond.initialized "jdk/internal/util/Preconditions" ∈ am_W := am_W_in (am_run_1 (List.mem_of_getElem? (i := 18) rfl)) rfl
theorem wd_1_19 : Jvm.Cond.initialized "java/lang/Character" ∈ am_W := am_W_in (am_run_1 (List.mem_of_getElem? (i := 19) rfl)) rfl
theorem wd_1_20 : Jvm.Cond.initialized "java/lang/IndexOutOfBoundsException" ∈ am_W := am_W_in (am_run_1 (List.mem_of_getElem? (i := 20) rfl)) rfl
theorem wd_1_21 : Jvm.Cond.classLink "RoverMinutesLaw" (8 : Nat) "RoverMinutes" ∈ am_W := am_W_in (am_run_1 (List.mem_of_getElem? (i := 21) rfl)) rfl
theorem wd_1_22 : Jvm.Cond.instantiable "RoverMinutes" (10 : Nat) ∈ am_W := am_W_in (am_run_1 (List.mem_of_getElem? (i := 22) rfl)) rfl
theorem wd_1_23 : Jvm.Cond.methodLink "RoverMinutesLaw" (63 : Nat) ({ cls := "RoverMinutes", name := "<init>", desc := "()V" } : Jvm.MethodName) ∈ am_W := am_W_in (am_run_1 (List.mem_of_getElem? (i := 23) rfl)) rfl
theorem wd_1_24 : Jvm.Cond.instanceMethod ({ cls := "RoverMinutes", name := "<init>", desc := "()V" } : Jvm.MethodName) ∈ am_W := am_W_in (am_run_1 (List.mem_of_getElem? (i := 24) rfl)) rfl
theorem wd_1_25 : Jvm.Cond.code ({ cls := "RoverMinutes", name := "<init>", desc := "()V" } : Jvm.MethodName) prog_1_method_1_code (1 : Nat) (Option.none : Option Jvm.ClassFile.FieldType) ∈ am_W := am_W_in (am_run_1 (List.mem_of_getElem? (i := 25) rfl)) rfl
theorem wd_1_26 : Jvm.Cond.methodLink "RoverMinutes" (1 : Nat) ({ cls := "java/lang/Object", name := "<init>", desc := "()V" } : Jvm.MethodName) ∈ am_W := am_W_in (am_run_1 (List.mem_of_getElem? (i := 26) rfl)) rfl
theorem wd_1_27 : Jvm.Cond.instanceMethod ({ cls := "java/lang/Object", name := "<init>", desc := "()V" } : Jvm.MethodName) ∈ am_W := am_W_in (am_run_1 (List.mem_of_getElem? (i := 27) rfl)) rfl
theorem wd_1_28 : Jvm.Cond.code ({ cls := "java/lang/Object", name := "<init>", desc := "()V" } : Jvm.MethodName) object_method_1_code (1 : Nat) (Option.none : Option Jvm.ClassFile.FieldType) ∈ am_W := am_W_in (am_run_1 (List.mem_of_getElem? (i := 28) rfl)) rfl
theorem wd_1_29 : Jvm.Cond.classLink "RoverMinutes" (7 : Nat) "RoverMinutes$Line" ∈ am_W := am_W_in (am_run_1 (List.mem_of_getElem? (i := 29) rfl)) rfl
theorem wd_1_30 : Jvm.Cond.instantiable "RoverMinutes$Line" (2 : Nat) ∈ am_W := am_W_in (am_run_1 (List.mem_of_getElem? (i := 30) rfl)) rfl
theorem wd_1_31 : Jvm.Cond.methodLink "RoverMinutes" (9 : Nat) ({ cls := "RoverMinutes$Line", name := "<init>", desc := "()V" } : Jvm.MethodName) ∈ am_W := am_W_in (am_run_1 (List.mem_of_getElem? (i := 31) rfl)) rfl
theorem wd_1_32 : Jvm.Cond.instanceMethod ({ cls := "RoverMinutes$Line", name := "<init>", desc := "()V" } : Jvm.MethodName) ∈ am_W := am_W_in (am_run_1 (List.mem_of_getElem? (i := 32) rfl)) rfl
theorem wd_1_33 : Jvm.Cond.code ({ cls := "RoverMinutes$Line", name := "<init>", desc := "()V" } : Jvm.MethodName) prog_4_method_1_code (1 : Nat) (Option.none : Option Jvm.ClassFile.FieldType) ∈ am_W := am_W_in (am_run_1 (List.mem_of_getElem? (i := 33) rfl)) rfl
theorem wd_1_34 : Jvm.Cond.methodLink "RoverMinutes$Line" (1 : Nat) ({ cls := "java/lang/Object", name := "<init>", desc := "()V" } : Jvm.MethodName) ∈ am_W := am_W_in (am_run_1 (List.mem_of_getElem? (i := 34) rfl)) rfl
theorem wd_1_35 : Jvm.Cond.fieldLink "RoverMinutes$Line" (9 : Nat) "RoverMinutes$Line" "text" "[C" ∈ am_W := am_W_in (am_run_1 (List.mem_of_getElem? (i := 35) rfl)) rfl
theorem wd_1_36 : Jvm.Cond.fieldLink "RoverMinutes$PlanReader" (60 : Nat) "RoverMinutes$Line" "text" "[C" ∈ am_W := am_W_in (am_run_1 (List.mem_of_getElem? (i := 36) rfl)) rfl
theorem wd_1_37 : Jvm.Cond.fieldLink "RoverMinutes$PlanReader" (45 : Nat) "RoverMinutes$Line" "length" "I" ∈ am_W := am_W_in (am_run_1 (List.mem_of_getElem? (i := 37) rfl)) rfl
theorem wd_1_38 : Jvm.Cond.fieldLink "RoverMinutes$Line" (13 : Nat) "RoverMinutes$Line" "length" "I" ∈ am_W := am_W_in (am_run_1 (List.mem_of_getElem? (i := 38) rfl)) rfl
theorem wd_1_39 : Jvm.Cond.laysFinal "RoverMinutes$Line" "RoverMinutes$Line" "text" "[C" ∈ am_W := am_W_in (am_run_1 (List.mem_of_getElem? (i := 39) rfl)) rfl
theorem wd_1_41 : Jvm.Cond.lays "RoverMinutes$Line" "RoverMinutes$Line" "length" "I" ∈ am_W := am_W_in (am_run_1 (List.mem_of_getElem? (i := 41) rfl)) rfl
theorem wd_1_43 : Jvm.Cond.superclass "RoverMinutes$Line" "java/lang/Object" ∈ am_W := am_W_in (am_run_1 (List.mem_of_getElem? (i := 43) rfl)) rfl
theorem wd_1_44 : Jvm.Cond.arrayClass Jvm.ClassFile.FieldType.char ∈ am_W := am_W_in (am_run_1 (List.mem_of_getElem? (i := 44) rfl)) rfl
theorem wd_1_45 : Jvm.Cond.classLink "RoverMinutes" (16 : Nat) "RoverMinutes$PlanReader" ∈ am_W := am_W_in (am_run_1 (List.mem_of_getElem? (i := 45) rfl)) rfl
theorem wd_1_46 : Jvm.Cond.instantiable "RoverMinutes$PlanReader" (2 : Nat) ∈ am_W := am_W_in (am_run_1 (List.mem_of_getElem? (i := 46) rfl)) rfl
theorem wd_1_47 : Jvm.Cond.methodLink "RoverMinutes" (18 : Nat) ({ cls := "RoverMinutes$PlanReader", name := "<init>", desc := "(LRoverMinutes$Line;)V" } : Jvm.MethodName) ∈ am_W := am_W_in (am_run_1 (List.mem_of_getElem? (i := 47) rfl)) rfl
theorem wd_1_48 : Jvm.Cond.instanceMethod ({ cls := "RoverMinutes$PlanReader", name := "<init>", desc := "(LRoverMinutes$Line;)V" } : Jvm.MethodName) ∈ am_W := am_W_in (am_run_1 (List.mem_of_getElem? (i := 48) rfl)) rfl
theorem wd_1_49 : Jvm.Cond.code ({ cls := "RoverMinutes$PlanReader", name := "<init>", desc := "(LRoverMinutes$Line;)V" } : Jvm.MethodName) prog_6_method_1_code (2 : Nat) (Option.none : Option Jvm.ClassFile.FieldType) ∈ am_W := am_W_in (am_run_1 (List.mem_of_getElem? (i := 49) rfl)) rfl
theorem wd_1_50 : Jvm.Cond.methodLink "RoverMinutes$PlanReader" (3 : Nat) ({ cls := "java/lang/Object", name := "<init>", desc := "()V" } : Jvm.MethodName) ∈ am_W := am_W_in (am_run_1 (List.mem_of_getElem? (i := 50) rfl)) rfl
theorem wd_1_51 : Jvm.Cond.fieldLink "RoverMinutes$PlanReader" (9 : Nat) "RoverMinutes$PlanReader" "line" "LRoverMinutes$Line;" ∈ am_W := am_W_in (am_run_1 (List.mem_of_getElem? (i := 51) rfl)) rfl
theorem wd_1_52 : Jvm.Cond.fieldLink "RoverMinutes$PlanReader" (15 : Nat) "RoverMinutes$PlanReader" "at" "I" ∈ am_W := am_W_in (am_run_1 (List.mem_of_getElem? (i := 52) rfl)) rfl
theorem wd_1_53 : Jvm.Cond.laysFinal "RoverMinutes$PlanReader" "RoverMinutes$PlanReader" "line" "LRoverMinutes$Line;" ∈ am_W := am_W_in (am_run_1 (List.mem_of_getElem? (i := 53) rfl)) rfl
theorem wd_1_55 : Jvm.Cond.lays "RoverMinutes$PlanReader" "RoverMinutes$PlanReader" "at" "I" ∈ am_W := am_W_in (am_run_1 (List.mem_of_getElem? (i := 55) rfl)) rfl
theorem wd_1_57 : Jvm.Cond.superclass "RoverMinutes$PlanReader" "java/lang/Object" ∈ am_W := am_W_in (am_run_1 (List.mem_of_getElem? (i := 57) rfl)) rfl
theorem wd_1_58 : Jvm.Cond.classLink "RoverMinutes" (25 : Nat) "RoverMinutes$Supply" ∈ am_W := am_W_in (am_run_1 (List.mem_of_getElem? (i := 58) rfl)) rfl
theorem wd_1_59 : Jvm.Cond.instantiable "RoverMinutes$Supply" (7 : Nat) ∈ am_W := am_W_in (am_run_1 (List.mem_of_getElem? (i := 59) rfl)) rfl
theorem wd_1_60 : Jvm.Cond.methodLink "RoverMinutes" (27 : Nat) ({ cls := "RoverMinutes$Supply", name := "<init>", desc := "()V" } : Jvm.MethodName) ∈ am_W := am_W_in (am_run_1 (List.mem_of_getElem? (i := 60) rfl)) rfl
theorem wd_1_61 : Jvm.Cond.instanceMethod ({ cls := "RoverMinutes$Supply", name := "<init>", desc := "()V" } : Jvm.MethodName) ∈ am_W := am_W_in (am_run_1 (List.mem_of_getElem? (i := 61) rfl)) rfl
theorem wd_1_62 : Jvm.Cond.code ({ cls := "RoverMinutes$Supply", name := "<init>", desc := "()V" } : Jvm.MethodName) prog_7_method_1_code (1 : Nat) (Option.none : Option Jvm.ClassFile.FieldType) ∈ am_W := am_W_in (am_run_1 (List.mem_of_getElem? (i := 62) rfl)) rfl
theorem wd_1_63 : Jvm.Cond.methodLink "RoverMinutes$Supply" (3 : Nat) ({ cls := "java/lang/Object", name := "<init>", desc := "()V" } : Jvm.MethodName) ∈ am_W := am_W_in (am_run_1 (List.mem_of_getElem? (i := 63) rfl)) rfl
theorem wd_1_64 : Jvm.Cond.methodLink "RoverMinutes$Supply" (25 : Nat) ({ cls := "RoverMinutes$Supply", name := "setWayHome", desc := "(II)V" } : Jvm.MethodName) ∈ am_W := am_W_in (am_run_1 (List.mem_of_getElem? (i := 64) rfl)) rfl
theorem wd_1_65 : Jvm.Cond.instanceMethod ({ cls := "RoverMinutes$Supply", name := "setWayHome", desc := "(II)V" } : Jvm.MethodName) ∈ am_W := am_W_in (am_run_1 (List.mem_of_getElem? (i := 65) rfl)) rfl
theorem wd_1_66 : Jvm.Cond.selects "RoverMinutes$Supply" ({ cls := "RoverMinutes$Supply", name := "setWayHome", desc := "(II)V" } : Jvm.MethodName) ({ cls := "RoverMinutes$Supply", name := "setWayHome", desc := "(II)V" } : Jvm.MethodName) ∈ am_W := am_W_in (am_run_1 (List.mem_of_getElem? (i := 66) rfl)) rfl
theorem wd_1_67 : Jvm.Cond.code ({ cls := "RoverMinutes$Supply", name := "setWayHome", desc := "(II)V" } : Jvm.MethodName) prog_7_method_2_code (3 : Nat) (Option.none : Option Jvm.ClassFile.FieldType) ∈ am_W := am_W_in (am_run_1 (List.mem_of_getElem? (i := 67) rfl)) rfl
theorem wd_1_68 : Jvm.Cond.methodLink "RoverMinutes$Supply" (35 : Nat) ({ cls := "RoverMinutes$Supply", name := "reckonNeeds", desc := "()V" } : Jvm.MethodName) ∈ am_W := am_W_in (am_run_1 (List.mem_of_getElem? (i := 68) rfl)) rfl
theorem wd_1_70 : Jvm.Cond.instanceMethod ({ cls := "RoverMinutes$Supply", name := "reckonNeeds", desc := "()V" } : Jvm.MethodName) ∈ am_W := am_W_in (am_run_1 (List.mem_of_getElem? (i := 70) rfl)) rfl
theorem wd_1_71 : Jvm.Cond.code ({ cls := "RoverMinutes$Supply", name := "reckonNeeds", desc := "()V" } : Jvm.MethodName) prog_7_method_4_code (2 : Nat) (Option.none : Option Jvm.ClassFile.FieldType) ∈ am_W := am_W_in (am_run_1 (List.mem_of_getElem? (i := 71) rfl)) rfl
theorem wd_1_72 : Jvm.Cond.methodLink "RoverMinutes$Supply" (38 : Nat) ({ cls := "RoverMinutes$Supply", name := "needFrom", desc := "(I)I" } : Jvm.MethodName) ∈ am_W := am_W_in (am_run_1 (List.mem_of_getElem? (i := 72) rfl)) rfl
theorem wd_1_74 : Jvm.Cond.instanceMethod ({ cls := "RoverMinutes$Supply", name := "needFrom", desc := "(I)I" } : Jvm.MethodName) ∈ am_W := am_W_in (am_run_1 (List.mem_of_getElem? (i := 74) rfl)) rfl
theorem wd_1_75 : Jvm.Cond.code ({ cls := "RoverMinutes$Supply", name := "needFrom", desc := "(I)I" } : Jvm.MethodName) prog_7_method_5_code (4 : Nat) (Option.some Jvm.ClassFile.FieldType.int) ∈ am_W := am_W_in (am_run_1 (List.mem_of_getElem? (i := 75) rfl)) rfl
theorem wd_1_76 : Jvm.Cond.methodLink "RoverMinutes$Supply" (42 : Nat) ({ cls := "java/lang/Math", name := "max", desc := "(II)I" } : Jvm.MethodName) ∈ am_W := am_W_in (am_run_1 (List.mem_of_getElem? (i := 76) rfl)) rfl
theorem wd_1_77 : Jvm.Cond.static ({ cls := "java/lang/Math", name := "max", desc := "(II)I" } : Jvm.MethodName) ∈ am_W := am_W_in (am_run_1 (List.mem_of_getElem? (i := 77) rfl)) rfl
theorem wd_1_78 : Jvm.Cond.code ({ cls := "java/lang/Math", name := "max", desc := "(II)I" } : Jvm.MethodName) prog_15_method_65_code (2 : Nat) (Option.some Jvm.ClassFile.FieldType.int) ∈ am_W := am_W_in (am_run_1 (List.mem_of_getElem? (i := 78) rfl)) rfl
theorem wd_1_79 : Jvm.Cond.fieldLink "RoverMinutes$Supply" (11 : Nat) "RoverMinutes$Supply" "energy" "I" ∈ am_W := am_W_in (am_run_1 (List.mem_of_getElem? (i := 79) rfl)) rfl
theorem wd_1_80 : Jvm.Cond.fieldLink "RoverMinutes" (91 : Nat) "RoverMinutes$Supply" "energy" "I" ∈ am_W := am_W_in (am_run_1 (List.mem_of_getElem? (i := 80) rfl)) rfl
theorem wd_1_81 : Jvm.Cond.fieldLink "RoverMinutes$Envelope" (67 : Nat) "RoverMinutes$Supply" "energy" "I" ∈ am_W := am_W_in (am_run_1 (List.mem_of_getElem? (i := 81) rfl)) rfl
theorem wd_1_82 : Jvm.Cond.fieldLink "RoverMinutes$Envelope" (62 : Nat) "RoverMinutes$Supply" "store" "I" ∈ am_W := am_W_in (am_run_1 (List.mem_of_getElem? (i := 82) rfl)) rfl
theorem wd_1_83 : Jvm.Cond.fieldLink "RoverMinutes$Supply" (64 : Nat) "RoverMinutes$Supply" "store" "I" ∈ am_W := am_W_in (am_run_1 (List.mem_of_getElem? (i := 83) rfl)) rfl
theorem wd_1_84 : Jvm.Cond.fieldLink "RoverMinutes" (151 : Nat) "RoverMinutes$Supply" "store" "I" ∈ am_W := am_W_in (am_run_1 (List.mem_of_getElem? (i := 84) rfl)) rfl
theorem wd_1_85 : Jvm.Cond.fieldLink "RoverMinutes$Supply" (15 : Nat) "RoverMinutes$Supply" "trueGain" "I" ∈ am_W := am_W_in (am_run_1 (List.mem_of_getElem? (i := 85) rfl)) rfl
theorem wd_1_86 : Jvm.Cond.fieldLink "RoverMinutes" (145 : Nat) "RoverMinutes$Supply" "trueGain" "I" ∈ am_W := am_W_in (am_run_1 (List.mem_of_getElem? (i := 86) rfl)) rfl
theorem wd_1_87 : Jvm.Cond.fieldLink "RoverMinutes$Supply" (29 : Nat) "RoverMinutes$Supply" "homeMinutes" "I" ∈ am_W := am_W_in (am_run_1 (List.mem_of_getElem? (i := 87) rfl)) rfl
theorem wd_1_88 : Jvm.Cond.fieldLink "RoverMinutes" (211 : Nat) "RoverMinutes$Supply" "homeMinutes" "I" ∈ am_W := am_W_in (am_run_1 (List.mem_of_getElem? (i := 88) rfl)) rfl
theorem wd_1_89 : Jvm.Cond.fieldLink "RoverMinutes$Supply" (32 : Nat) "RoverMinutes$Supply" "homeDraw" "I" ∈ am_W := am_W_in (am_run_1 (List.mem_of_getElem? (i := 89) rfl)) rfl
theorem wd_1_90 : Jvm.Cond.fieldLink "RoverMinutes" (202 : Nat) "RoverMinutes$Supply" "homeDraw" "I" ∈ am_W := am_W_in (am_run_1 (List.mem_of_getElem? (i := 90) rfl)) rfl
theorem wd_1_91 : Jvm.Cond.fieldLink "RoverMinutes$Supply" (18 : Nat) "RoverMinutes$Supply" "lowerGains" "[I" ∈ am_W := am_W_in (am_run_1 (List.mem_of_getElem? (i := 91) rfl)) rfl
theorem wd_1_92 : Jvm.Cond.fieldLink "RoverMinutes$Supply" (22 : Nat) "RoverMinutes$Supply" "needs" "[I" ∈ am_W := am_W_in (am_run_1 (List.mem_of_getElem? (i := 92) rfl)) rfl
theorem wd_1_93 : Jvm.Cond.lays "RoverMinutes$Supply" "RoverMinutes$Supply" "energy" "I" ∈ am_W := am_W_in (am_run_1 (List.mem_of_getElem? (i := 93) rfl)) rfl
theorem wd_1_95 : Jvm.Cond.lays "RoverMinutes$Supply" "RoverMinutes$Supply" "store" "I" ∈ am_W := am_W_in (am_run_1 (List.mem_of_getElem? (i := 95) rfl)) rfl
theorem wd_1_97 : Jvm.Cond.lays "RoverMinutes$Supply" "RoverMinutes$Supply" "trueGain" "I" ∈ am_W := am_W_in (am_run_1 (List.mem_of_getElem? (i := 97) rfl)) rfl
theorem wd_1_99 : Jvm.Cond.lays "RoverMinutes$Supply" "RoverMinutes$Supply" "homeMinutes" "I" ∈ am_W := am_W_in (am_run_1 (List.mem_of_getElem? (i := 99) rfl)) rfl
theorem wd_1_101 : Jvm.Cond.lays "RoverMinutes$Supply" "RoverMinutes$Supply" "homeDraw" "I" ∈ am_W := am_W_in (am_run_1 (List.mem_of_getElem? (i := 101) rfl)) rfl
theorem wd_1_103 : Jvm.Cond.laysFinal "RoverMinutes$Supply" "RoverMinutes$Supply" "lowerGains" "[I" ∈ am_W := am_W_in (am_run_1 (List.mem_of_getElem? (i := 103) rfl)) rfl
theorem wd_1_105 : Jvm.Cond.laysFinal "RoverMinutes$Supply" "RoverMinutes$Supply" "needs" "[I" ∈ am_W := am_W_in (am_run_1 (List.mem_of_getElem? (i := 105) rfl)) rfl
theorem wd_1_107 : Jvm.Cond.superclass "RoverMinutes$Supply" "java/lang/Object" ∈ am_W := am_W_in (am_run_1 (List.mem_of_getElem? (i := 107) rfl)) rfl
theorem wd_1_108 : Jvm.Cond.arrayClass Jvm.ClassFile.FieldType.int ∈ am_W := am_W_in (am_run_1 (List.mem_of_getElem? (i := 108) rfl)) rfl
theorem wd_1_109 : Jvm.Cond.classLink "RoverMinutes" (32 : Nat) "RoverMinutes$Envelope" ∈ am_W := am_W_in (am_run_1 (List.mem_of_getElem? (i := 109) rfl)) rfl
theorem wd_1_110 : Jvm.Cond.instantiable "RoverMinutes$Envelope" (4 : Nat) ∈ am_W := am_W_in (am_run_1 (List.mem_of_getElem? (i := 110) rfl)) rfl
theorem wd_1_111 : Jvm.Cond.methodLink "RoverMinutes" (34 : Nat) ({ cls := "RoverMinutes$Envelope", name := "<init>", desc := "()V" } : Jvm.MethodName) ∈ am_W := am_W_in (am_run_1 (List.mem_of_getElem? (i := 111) rfl)) rfl
theorem wd_1_112 : Jvm.Cond.instanceMethod ({ cls := "RoverMinutes$Envelope", name := "<init>", desc := "()V" } : Jvm.MethodName) ∈ am_W := am_W_in (am_run_1 (List.mem_of_getElem? (i := 112) rfl)) rfl
theorem wd_1_113 : Jvm.Cond.code ({ cls := "RoverMinutes$Envelope", name := "<init>", desc := "()V" } : Jvm.MethodName) prog_3_method_1_code (1 : Nat) (Option.none : Option Jvm.ClassFile.FieldType) ∈ am_W := am_W_in (am_run_1 (List.mem_of_getElem? (i := 113) rfl)) rfl
theorem wd_1_114 : Jvm.Cond.methodLink "RoverMinutes$Envelope" (1 : Nat) ({ cls := "java/lang/Object", name := "<init>", desc := "()V" } : Jvm.MethodName) ∈ am_W := am_W_in (am_run_1 (List.mem_of_getElem? (i := 114) rfl)) rfl
theorem wd_1_115 : Jvm.Cond.fieldLink "RoverMinutes$Envelope" (9 : Nat) "RoverMinutes$Envelope" "drawsAhead" "[I" ∈ am_W := am_W_in (am_run_1 (List.mem_of_getElem? (i := 115) rfl)) rfl
theorem wd_1_116 : Jvm.Cond.fieldLink "RoverMinutes$Envelope" (42 : Nat) "RoverMinutes$Envelope" "length" "I" ∈ am_W := am_W_in (am_run_1 (List.mem_of_getElem? (i := 116) rfl)) rfl
theorem wd_1_117 : Jvm.Cond.fieldLink "RoverMinutes$Envelope" (45 : Nat) "RoverMinutes$Envelope" "heat" "I" ∈ am_W := am_W_in (am_run_1 (List.mem_of_getElem? (i := 117) rfl)) rfl
theorem wd_1_118 : Jvm.Cond.fieldLink "RoverMinutes$Envelope" (48 : Nat) "RoverMinutes$Envelope" "data" "I" ∈ am_W := am_W_in (am_run_1 (List.mem_of_getElem? (i := 118) rfl)) rfl
theorem wd_1_119 : Jvm.Cond.laysFinal "RoverMinutes$Envelope" "RoverMinutes$Envelope" "drawsAhead" "[I" ∈ am_W := am_W_in (am_run_1 (List.mem_of_getElem? (i := 119) rfl)) rfl
theorem wd_1_121 : Jvm.Cond.lays "RoverMinutes$Envelope" "RoverMinutes$Envelope" "length" "I" ∈ am_W := am_W_in (am_run_1 (List.mem_of_getElem? (i := 121) rfl)) rfl
theorem wd_1_123 : Jvm.Cond.lays "RoverMinutes$Envelope" "RoverMinutes$Envelope" "heat" "I" ∈ am_W := am_W_in (am_run_1 (List.mem_of_getElem? (i := 123) rfl)) rfl
theorem wd_1_125 : Jvm.Cond.lays "RoverMinutes$Envelope" "RoverMinutes$Envelope" "data" "I" ∈ am_W := am_W_in (am_run_1 (List.mem_of_getElem? (i := 125) rfl)) rfl
theorem wd_1_127 : Jvm.Cond.superclass "RoverMinutes$Envelope" "java/lang/Object" ∈ am_W := am_W_in (am_run_1 (List.mem_of_getElem? (i := 127) rfl)) rfl
theorem wd_1_128 : Jvm.Cond.classLink "RoverMinutes" (39 : Nat) "RoverMinutes$Plan" ∈ am_W := am_W_in (am_run_1 (List.mem_of_getElem? (i := 128) rfl)) rfl
theorem wd_1_129 : Jvm.Cond.instantiable "RoverMinutes$Plan" (2 : Nat) ∈ am_W := am_W_in (am_run_1 (List.mem_of_getElem? (i := 129) rfl)) rfl
theorem wd_1_130 : Jvm.Cond.methodLink "RoverMinutes" (41 : Nat) ({ cls := "RoverMinutes$Plan", name := "<init>", desc := "()V" } : Jvm.MethodName) ∈ am_W := am_W_in (am_run_1 (List.mem_of_getElem? (i := 130) rfl)) rfl
theorem wd_1_131 : Jvm.Cond.instanceMethod ({ cls := "RoverMinutes$Plan", name := "<init>", desc := "()V" } : Jvm.MethodName) ∈ am_W := am_W_in (am_run_1 (List.mem_of_getElem? (i := 131) rfl)) rfl
theorem wd_1_132 : Jvm.Cond.code ({ cls := "RoverMinutes$Plan", name := "<init>", desc := "()V" } : Jvm.MethodName) prog_5_method_1_code (2 : Nat) (Option.none : Option Jvm.ClassFile.FieldType) ∈ am_W := am_W_in (am_run_1 (List.mem_of_getElem? (i := 132) rfl)) rfl
theorem wd_1_133 : Jvm.Cond.methodLink "RoverMinutes$Plan" (1 : Nat) ({ cls := "java/lang/Object", name := "<init>", desc := "()V" } : Jvm.MethodName) ∈ am_W := am_W_in (am_run_1 (List.mem_of_getElem? (i := 133) rfl)) rfl
theorem wd_1_134 : Jvm.Cond.classLink "RoverMinutes$Plan" (9 : Nat) "RoverMinutes$Activity" ∈ am_W := am_W_in (am_run_1 (List.mem_of_getElem? (i := 134) rfl)) rfl
theorem wd_1_136 : Jvm.Cond.instantiable "RoverMinutes$Activity" (19 : Nat) ∈ am_W := am_W_in (am_run_1 (List.mem_of_getElem? (i := 136) rfl)) rfl
theorem wd_1_138 : Jvm.Cond.instanceMethod ({ cls := "RoverMinutes$Activity", name := "<init>", desc := "()V" } : Jvm.MethodName) ∈ am_W := am_W_in (am_run_1 (List.mem_of_getElem? (i := 138) rfl)) rfl
theorem wd_1_139 : Jvm.Cond.code ({ cls := "RoverMinutes$Activity", name := "<init>", desc := "()V" } : Jvm.MethodName) prog_2_method_1_code (1 : Nat) (Option.none : Option Jvm.ClassFile.FieldType) ∈ am_W := am_W_in (am_run_1 (List.mem_of_getElem? (i := 139) rfl)) rfl
theorem wd_1_140 : Jvm.Cond.methodLink "RoverMinutes$Activity" (3 : Nat) ({ cls := "java/lang/Object", name := "<init>", desc := "()V" } : Jvm.MethodName) ∈ am_W := am_W_in (am_run_1 (List.mem_of_getElem? (i := 140) rfl)) rfl
theorem wd_1_141 : Jvm.Cond.fieldLink "RoverMinutes$Activity" (9 : Nat) "RoverMinutes$Activity" "shortest" "I" ∈ am_W := am_W_in (am_run_1 (List.mem_of_getElem? (i := 141) rfl)) rfl
theorem wd_1_142 : Jvm.Cond.fieldLink "RoverMinutes$PlanReader" (54 : Nat) "RoverMinutes$Activity" "shortest" "I" ∈ am_W := am_W_in (am_run_1 (List.mem_of_getElem? (i := 142) rfl)) rfl
theorem wd_1_143 : Jvm.Cond.fieldLink "RoverMinutes$Plan" (39 : Nat) "RoverMinutes$Activity" "shortest" "I" ∈ am_W := am_W_in (am_run_1 (List.mem_of_getElem? (i := 143) rfl)) rfl
theorem wd_1_144 : Jvm.Cond.fieldLink "RoverMinutes$Activity" (15 : Nat) "RoverMinutes$Activity" "longest" "I" ∈ am_W := am_W_in (am_run_1 (List.mem_of_getElem? (i := 144) rfl)) rfl
theorem wd_1_145 : Jvm.Cond.fieldLink "RoverMinutes$Envelope" (32 : Nat) "RoverMinutes$Activity" "longest" "I" ∈ am_W := am_W_in (am_run_1 (List.mem_of_getElem? (i := 145) rfl)) rfl
theorem wd_1_146 : Jvm.Cond.fieldLink "RoverMinutes$PlanReader" (57 : Nat) "RoverMinutes$Activity" "longest" "I" ∈ am_W := am_W_in (am_run_1 (List.mem_of_getElem? (i := 146) rfl)) rfl
theorem wd_1_147 : Jvm.Cond.fieldLink "RoverMinutes$Plan" (42 : Nat) "RoverMinutes$Activity" "longest" "I" ∈ am_W := am_W_in (am_run_1 (List.mem_of_getElem? (i := 147) rfl)) rfl
theorem wd_1_148 : Jvm.Cond.fieldLink "RoverMinutes$Activity" (18 : Nat) "RoverMinutes$Activity" "energy" "I" ∈ am_W := am_W_in (am_run_1 (List.mem_of_getElem? (i := 148) rfl)) rfl
theorem wd_1_149 : Jvm.Cond.fieldLink "RoverMinutes$Envelope" (53 : Nat) "RoverMinutes$Activity" "energy" "I" ∈ am_W := am_W_in (am_run_1 (List.mem_of_getElem? (i := 149) rfl)) rfl
theorem wd_1_150 : Jvm.Cond.fieldLink "RoverMinutes$PlanReader" (79 : Nat) "RoverMinutes$Activity" "energy" "I" ∈ am_W := am_W_in (am_run_1 (List.mem_of_getElem? (i := 150) rfl)) rfl
theorem wd_1_151 : Jvm.Cond.fieldLink "RoverMinutes$Activity" (21 : Nat) "RoverMinutes$Activity" "data" "I" ∈ am_W := am_W_in (am_run_1 (List.mem_of_getElem? (i := 151) rfl)) rfl
theorem wd_1_152 : Jvm.Cond.fieldLink "RoverMinutes$Envelope" (52 : Nat) "RoverMinutes$Activity" "data" "I" ∈ am_W := am_W_in (am_run_1 (List.mem_of_getElem? (i := 152) rfl)) rfl
theorem wd_1_153 : Jvm.Cond.fieldLink "RoverMinutes$PlanReader" (82 : Nat) "RoverMinutes$Activity" "data" "I" ∈ am_W := am_W_in (am_run_1 (List.mem_of_getElem? (i := 153) rfl)) rfl
theorem wd_1_154 : Jvm.Cond.fieldLink "RoverMinutes$Plan" (74 : Nat) "RoverMinutes$Activity" "data" "I" ∈ am_W := am_W_in (am_run_1 (List.mem_of_getElem? (i := 154) rfl)) rfl
theorem wd_1_155 : Jvm.Cond.fieldLink "RoverMinutes$Activity" (24 : Nat) "RoverMinutes$Activity" "heat" "I" ∈ am_W := am_W_in (am_run_1 (List.mem_of_getElem? (i := 155) rfl)) rfl
theorem wd_1_156 : Jvm.Cond.fieldLink "RoverMinutes$Envelope" (51 : Nat) "RoverMinutes$Activity" "heat" "I" ∈ am_W := am_W_in (am_run_1 (List.mem_of_getElem? (i := 156) rfl)) rfl
theorem wd_1_157 : Jvm.Cond.fieldLink "RoverMinutes$PlanReader" (85 : Nat) "RoverMinutes$Activity" "heat" "I" ∈ am_W := am_W_in (am_run_1 (List.mem_of_getElem? (i := 157) rfl)) rfl
theorem wd_1_158 : Jvm.Cond.fieldLink "RoverMinutes$Plan" (77 : Nat) "RoverMinutes$Activity" "heat" "I" ∈ am_W := am_W_in (am_run_1 (List.mem_of_getElem? (i := 158) rfl)) rfl
theorem wd_1_159 : Jvm.Cond.fieldLink "RoverMinutes$Activity" (27 : Nat) "RoverMinutes$Activity" "latest" "I" ∈ am_W := am_W_in (am_run_1 (List.mem_of_getElem? (i := 159) rfl)) rfl
theorem wd_1_160 : Jvm.Cond.fieldLink "RoverMinutes$Plan" (36 : Nat) "RoverMinutes$Activity" "latest" "I" ∈ am_W := am_W_in (am_run_1 (List.mem_of_getElem? (i := 160) rfl)) rfl
theorem wd_1_161 : Jvm.Cond.fieldLink "RoverMinutes$PlanReader" (88 : Nat) "RoverMinutes$Activity" "latest" "I" ∈ am_W := am_W_in (am_run_1 (List.mem_of_getElem? (i := 161) rfl)) rfl
theorem wd_1_162 : Jvm.Cond.fieldLink "RoverMinutes$Activity" (30 : Nat) "RoverMinutes$Activity" "retries" "I" ∈ am_W := am_W_in (am_run_1 (List.mem_of_getElem? (i := 162) rfl)) rfl
theorem wd_1_163 : Jvm.Cond.fieldLink "RoverMinutes$Plan" (45 : Nat) "RoverMinutes$Activity" "retries" "I" ∈ am_W := am_W_in (am_run_1 (List.mem_of_getElem? (i := 163) rfl)) rfl
theorem wd_1_164 : Jvm.Cond.fieldLink "RoverMinutes$PlanReader" (91 : Nat) "RoverMinutes$Activity" "retries" "I" ∈ am_W := am_W_in (am_run_1 (List.mem_of_getElem? (i := 164) rfl)) rfl
theorem wd_1_165 : Jvm.Cond.fieldLink "RoverMinutes$Activity" (33 : Nat) "RoverMinutes$Activity" "after" "I" ∈ am_W := am_W_in (am_run_1 (List.mem_of_getElem? (i := 165) rfl)) rfl
theorem wd_1_166 : Jvm.Cond.fieldLink "RoverMinutes$Plan" (48 : Nat) "RoverMinutes$Activity" "after" "I" ∈ am_W := am_W_in (am_run_1 (List.mem_of_getElem? (i := 166) rfl)) rfl
theorem wd_1_167 : Jvm.Cond.fieldLink "RoverMinutes$PlanReader" (94 : Nat) "RoverMinutes$Activity" "after" "I" ∈ am_W := am_W_in (am_run_1 (List.mem_of_getElem? (i := 167) rfl)) rfl
theorem wd_1_168 : Jvm.Cond.fieldLink "RoverMinutes$Activity" (36 : Nat) "RoverMinutes$Activity" "insteadOf" "I" ∈ am_W := am_W_in (am_run_1 (List.mem_of_getElem? (i := 168) rfl)) rfl
theorem wd_1_169 : Jvm.Cond.fieldLink "RoverMinutes$Plan" (51 : Nat) "RoverMinutes$Activity" "insteadOf" "I" ∈ am_W := am_W_in (am_run_1 (List.mem_of_getElem? (i := 169) rfl)) rfl
theorem wd_1_170 : Jvm.Cond.fieldLink "RoverMinutes$PlanReader" (97 : Nat) "RoverMinutes$Activity" "insteadOf" "I" ∈ am_W := am_W_in (am_run_1 (List.mem_of_getElem? (i := 170) rfl)) rfl
theorem wd_1_171 : Jvm.Cond.fieldLink "RoverMinutes$Activity" (39 : Nat) "RoverMinutes$Activity" "earliest" "I" ∈ am_W := am_W_in (am_run_1 (List.mem_of_getElem? (i := 171) rfl)) rfl
theorem wd_1_172 : Jvm.Cond.fieldLink "RoverMinutes$Plan" (33 : Nat) "RoverMinutes$Activity" "earliest" "I" ∈ am_W := am_W_in (am_run_1 (List.mem_of_getElem? (i := 172) rfl)) rfl
theorem wd_1_173 : Jvm.Cond.fieldLink "RoverMinutes" (176 : Nat) "RoverMinutes$Activity" "earliest" "I" ∈ am_W := am_W_in (am_run_1 (List.mem_of_getElem? (i := 173) rfl)) rfl
theorem wd_1_174 : Jvm.Cond.fieldLink "RoverMinutes$Activity" (48 : Nat) "RoverMinutes$Activity" "state" "I" ∈ am_W := am_W_in (am_run_1 (List.mem_of_getElem? (i := 174) rfl)) rfl
theorem wd_1_175 : Jvm.Cond.fieldLink "RoverMinutes$Plan" (90 : Nat) "RoverMinutes$Activity" "state" "I" ∈ am_W := am_W_in (am_run_1 (List.mem_of_getElem? (i := 175) rfl)) rfl
theorem wd_1_176 : Jvm.Cond.fieldLink "RoverMinutes" (161 : Nat) "RoverMinutes$Activity" "state" "I" ∈ am_W := am_W_in (am_run_1 (List.mem_of_getElem? (i := 176) rfl)) rfl
theorem wd_1_177 : Jvm.Cond.fieldLink "RoverMinutes$Activity" (51 : Nat) "RoverMinutes$Activity" "startedIn" "I" ∈ am_W := am_W_in (am_run_1 (List.mem_of_getElem? (i := 177) rfl)) rfl
theorem wd_1_178 : Jvm.Cond.fieldLink "RoverMinutes" (164 : Nat) "RoverMinutes$Activity" "startedIn" "I" ∈ am_W := am_W_in (am_run_1 (List.mem_of_getElem? (i := 178) rfl)) rfl
theorem wd_1_179 : Jvm.Cond.fieldLink "RoverMinutes$Envelope" (35 : Nat) "RoverMinutes$Activity" "lasted" "I" ∈ am_W := am_W_in (am_run_1 (List.mem_of_getElem? (i := 179) rfl)) rfl
theorem wd_1_180 : Jvm.Cond.fieldLink "RoverMinutes$Activity" (54 : Nat) "RoverMinutes$Activity" "lasted" "I" ∈ am_W := am_W_in (am_run_1 (List.mem_of_getElem? (i := 180) rfl)) rfl
theorem wd_1_181 : Jvm.Cond.fieldLink "RoverMinutes" (167 : Nat) "RoverMinutes$Activity" "lasted" "I" ∈ am_W := am_W_in (am_run_1 (List.mem_of_getElem? (i := 181) rfl)) rfl
theorem wd_1_182 : Jvm.Cond.fieldLink "RoverMinutes$Activity" (57 : Nat) "RoverMinutes$Activity" "retriesLeft" "I" ∈ am_W := am_W_in (am_run_1 (List.mem_of_getElem? (i := 182) rfl)) rfl
theorem wd_1_183 : Jvm.Cond.fieldLink "RoverMinutes" (170 : Nat) "RoverMinutes$Activity" "retriesLeft" "I" ∈ am_W := am_W_in (am_run_1 (List.mem_of_getElem? (i := 183) rfl)) rfl
theorem wd_1_184 : Jvm.Cond.fieldLink "RoverMinutes$Activity" (60 : Nat) "RoverMinutes$Activity" "starts" "I" ∈ am_W := am_W_in (am_run_1 (List.mem_of_getElem? (i := 184) rfl)) rfl
theorem wd_1_185 : Jvm.Cond.fieldLink "RoverMinutes" (173 : Nat) "RoverMinutes$Activity" "starts" "I" ∈ am_W := am_W_in (am_run_1 (List.mem_of_getElem? (i := 185) rfl)) rfl
theorem wd_1_186 : Jvm.Cond.fieldLink "RoverMinutes$Activity" (63 : Nat) "RoverMinutes$Activity" "due" "I" ∈ am_W := am_W_in (am_run_1 (List.mem_of_getElem? (i := 186) rfl)) rfl
theorem wd_1_187 : Jvm.Cond.fieldLink "RoverMinutes$Plan" (71 : Nat) "RoverMinutes$Activity" "draw" "I" ∈ am_W := am_W_in (am_run_1 (List.mem_of_getElem? (i := 187) rfl)) rfl
theorem wd_1_188 : Jvm.Cond.fieldLink "RoverMinutes$Activity" (66 : Nat) "RoverMinutes$Activity" "draw" "I" ∈ am_W := am_W_in (am_run_1 (List.mem_of_getElem? (i := 188) rfl)) rfl
theorem wd_1_189 : Jvm.Cond.fieldLink "RoverMinutes$Activity" (42 : Nat) "RoverMinutes$Activity" "saidMinutes" "I" ∈ am_W := am_W_in (am_run_1 (List.mem_of_getElem? (i := 189) rfl)) rfl
theorem wd_1_190 : Jvm.Cond.fieldLink "RoverMinutes" (134 : Nat) "RoverMinutes$Activity" "saidMinutes" "I" ∈ am_W := am_W_in (am_run_1 (List.mem_of_getElem? (i := 190) rfl)) rfl
theorem wd_1_191 : Jvm.Cond.fieldLink "RoverMinutes$Activity" (45 : Nat) "RoverMinutes$Activity" "saidDraw" "I" ∈ am_W := am_W_in (am_run_1 (List.mem_of_getElem? (i := 191) rfl)) rfl
theorem wd_1_192 : Jvm.Cond.fieldLink "RoverMinutes" (139 : Nat) "RoverMinutes$Activity" "saidDraw" "I" ∈ am_W := am_W_in (am_run_1 (List.mem_of_getElem? (i := 192) rfl)) rfl
theorem wd_1_193 : Jvm.Cond.lays "RoverMinutes$Activity" "RoverMinutes$Activity" "shortest" "I" ∈ am_W := am_W_in (am_run_1 (List.mem_of_getElem? (i := 193) rfl)) rfl
theorem wd_1_195 : Jvm.Cond.lays "RoverMinutes$Activity" "RoverMinutes$Activity" "longest" "I" ∈ am_W := am_W_in (am_run_1 (List.mem_of_getElem? (i := 195) rfl)) rfl
theorem wd_1_197 : Jvm.Cond.lays "RoverMinutes$Activity" "RoverMinutes$Activity" "energy" "I" ∈ am_W := am_W_in (am_run_1 (List.mem_of_getElem? (i := 197) rfl)) rfl
theorem wd_1_199 : Jvm.Cond.lays "RoverMinutes$Activity" "RoverMinutes$Activity" "data" "I" ∈ am_W := am_W_in (am_run_1 (List.mem_of_getElem? (i := 199) rfl)) rfl
theorem wd_1_201 : Jvm.Cond.lays "RoverMinutes$Activity" "RoverMinutes$Activity" "heat" "I" ∈ am_W := am_W_in (am_run_1 (List.mem_of_getElem? (i := 201) rfl)) rfl
theorem wd_1_203 : Jvm.Cond.lays "RoverMinutes$Activity" "RoverMinutes$Activity" "latest" "I" ∈ am_W := am_W_in (am_run_1 (List.mem_of_getElem? (i := 203) rfl)) rfl
theorem wd_1_205 : Jvm.Cond.lays "RoverMinutes$Activity" "RoverMinutes$Activity" "retries" "I" ∈ am_W := am_W_in (am_run_1 (List.mem_of_getElem? (i := 205) rfl)) rfl
theorem wd_1_207 : Jvm.Cond.lays "RoverMinutes$Activity" "RoverMinutes$Activity" "after" "I" ∈ am_W := am_W_in (am_run_1 (List.mem_of_getElem? (i := 207) rfl)) rfl
theorem wd_1_209 : Jvm.Cond.lays "RoverMinutes$Activity" "RoverMinutes$Activity" "insteadOf" "I" ∈ am_W := am_W_in (am_run_1 (List.mem_of_getElem? (i := 209) rfl)) rfl
theorem wd_1_211 : Jvm.Cond.lays "RoverMinutes$Activity" "RoverMinutes$Activity" "earliest" "I" ∈ am_W := am_W_in (am_run_1 (List.mem_of_getElem? (i := 211) rfl)) rfl
theorem wd_1_213 : Jvm.Cond.lays "RoverMinutes$Activity" "RoverMinutes$Activity" "state" "I" ∈ am_W := am_W_in (am_run_1 (List.mem_of_getElem? (i := 213) rfl)) rfl
theorem wd_1_215 : Jvm.Cond.lays "RoverMinutes$Activity" "RoverMinutes$Activity" "startedIn" "I" ∈ am_W := am_W_in (am_run_1 (List.mem_of_getElem? (i := 215) rfl)) rfl
theorem wd_1_217 : Jvm.Cond.lays "RoverMinutes$Activity" "RoverMinutes$Activity" "lasted" "I" ∈ am_W := am_W_in (am_run_1 (List.mem_of_getElem? (i := 217) rfl)) rfl
theorem wd_1_219 : Jvm.Cond.lays "RoverMinutes$Activity" "RoverMinutes$Activity" "retriesLeft" "I" ∈ am_W := am_W_in (am_run_1 (List.mem_of_getElem? (i := 219) rfl)) rfl
theorem wd_1_221 : Jvm.Cond.lays "RoverMinutes$Activity" "RoverMinutes$Activity" "starts" "I" ∈ am_W := am_W_in (am_run_1 (List.mem_of_getElem? (i := 221) rfl)) rfl
theorem wd_1_223 : Jvm.Cond.lays "RoverMinutes$Activity" "RoverMinutes$Activity" "due" "I" ∈ am_W := am_W_in (am_run_1 (List.mem_of_getElem? (i := 223) rfl)) rfl
theorem wd_1_225 : Jvm.Cond.lays "RoverMinutes$Activity" "RoverMinutes$Activity" "draw" "I" ∈ am_W := am_W_in (am_run_1 (List.mem_of_getElem? (i := 225) rfl)) rfl
theorem wd_1_227 : Jvm.Cond.lays "RoverMinutes$Activity" "RoverMinutes$Activity" "saidMinutes" "I" ∈ am_W := am_W_in (am_run_1 (List.mem_of_getElem? (i := 227) rfl)) rfl
theorem wd_1_229 : Jvm.Cond.lays "RoverMinutes$Activity" "RoverMinutes$Activity" "saidDraw" "I" ∈ am_W := am_W_in (am_run_1 (List.mem_of_getElem? (i := 229) rfl)) rfl
theorem wd_1_231 : Jvm.Cond.superclass "RoverMinutes$Activity" "java/lang/Object" ∈ am_W := am_W_in (am_run_1 (List.mem_of_getElem? (i := 231) rfl)) rfl
theorem wd_1_232 : Jvm.Cond.fieldLink "RoverMinutes$Plan" (11 : Nat) "RoverMinutes$Plan" "members" "[LRoverMinutes$Activity;" ∈ am_W := am_W_in (am_run_1 (List.mem_of_getElem? (i := 232) rfl)) rfl
theorem wd_1_233 : Jvm.Cond.fieldLink "RoverMinutes$PlanReader" (21 : Nat) "RoverMinutes$Plan" "members" "[LRoverMinutes$Activity;" ∈ am_W := am_W_in (am_run_1 (List.mem_of_getElem? (i := 233) rfl)) rfl
theorem wd_1_234 : Jvm.Cond.fieldLink "RoverMinutes$Envelope" (24 : Nat) "RoverMinutes$Plan" "members" "[LRoverMinutes$Activity;" ∈ am_W := am_W_in (am_run_1 (List.mem_of_getElem? (i := 234) rfl)) rfl
theorem wd_1_235 : Jvm.Cond.fieldLink "RoverMinutes" (130 : Nat) "RoverMinutes$Plan" "members" "[LRoverMinutes$Activity;" ∈ am_W := am_W_in (am_run_1 (List.mem_of_getElem? (i := 235) rfl)) rfl
theorem wd_1_236 : Jvm.Cond.fieldLink "RoverMinutes$Plan" (16 : Nat) "RoverMinutes$Plan" "count" "I" ∈ am_W := am_W_in (am_run_1 (List.mem_of_getElem? (i := 236) rfl)) rfl
theorem wd_1_237 : Jvm.Cond.fieldLink "RoverMinutes$Envelope" (18 : Nat) "RoverMinutes$Plan" "count" "I" ∈ am_W := am_W_in (am_run_1 (List.mem_of_getElem? (i := 237) rfl)) rfl
theorem wd_1_238 : Jvm.Cond.fieldLink "RoverMinutes$PlanReader" (42 : Nat) "RoverMinutes$Plan" "count" "I" ∈ am_W := am_W_in (am_run_1 (List.mem_of_getElem? (i := 238) rfl)) rfl
theorem wd_1_239 : Jvm.Cond.fieldLink "RoverMinutes" (88 : Nat) "RoverMinutes$Plan" "count" "I" ∈ am_W := am_W_in (am_run_1 (List.mem_of_getElem? (i := 239) rfl)) rfl
theorem wd_2_0 : Jvm.Cond.laysFinal "RoverMinutes$Plan" "RoverMinutes$Plan" "members" "[LRoverMinutes$Activity;" ∈ am_W := am_W_in (am_run_2 (List.mem_of_getElem? (i := 0) rfl)) rfl
theorem wd_2_2 : Jvm.Cond.lays "RoverMinutes$Plan" "RoverMinutes$Plan" "count" "I" ∈ am_W := am_W_in (am_run_2 (List.mem_of_getElem? (i := 2) rfl)) rfl
theorem wd_2_4 : Jvm.Cond.superclass "RoverMinutes$Plan" "java/lang/Object" ∈ am_W := am_W_in (am_run_2 (List.mem_of_getElem? (i := 4) rfl)) rfl
theorem wd_2_5 : Jvm.Cond.fieldLink "RoverMinutes" (10 : Nat) "RoverMinutes" "line" "LRoverMinutes$Line;" ∈ am_W := am_W_in (am_run_2 (List.mem_of_getElem? (i := 5) rfl)) rfl
theorem wd_2_6 : Jvm.Cond.fieldLink "RoverMinutes" (21 : Nat) "RoverMinutes" "reader" "LRoverMinutes$PlanReader;" ∈ am_W := am_W_in (am_run_2 (List.mem_of_getElem? (i := 6) rfl)) rfl
theorem wd_2_7 : Jvm.Cond.fieldLink "RoverMinutes" (28 : Nat) "RoverMinutes" "supply" "LRoverMinutes$Supply;" ∈ am_W := am_W_in (am_run_2 (List.mem_of_getElem? (i := 7) rfl)) rfl
theorem wd_2_8 : Jvm.Cond.fieldLink "RoverMinutes" (35 : Nat) "RoverMinutes" "envelope" "LRoverMinutes$Envelope;" ∈ am_W := am_W_in (am_run_2 (List.mem_of_getElem? (i := 8) rfl)) rfl
theorem wd_2_9 : Jvm.Cond.fieldLink "RoverMinutes" (42 : Nat) "RoverMinutes" "plan" "LRoverMinutes$Plan;" ∈ am_W := am_W_in (am_run_2 (List.mem_of_getElem? (i := 9) rfl)) rfl
theorem wd_2_10 : Jvm.Cond.fieldLink "RoverMinutes" (46 : Nat) "RoverMinutes" "draft" "LRoverMinutes$Plan;" ∈ am_W := am_W_in (am_run_2 (List.mem_of_getElem? (i := 10) rfl)) rfl
theorem wd_2_11 : Jvm.Cond.fieldLink "RoverMinutes" (49 : Nat) "RoverMinutes" "mode" "I" ∈ am_W := am_W_in (am_run_2 (List.mem_of_getElem? (i := 11) rfl)) rfl
theorem wd_2_12 : Jvm.Cond.fieldLink "RoverMinutes" (94 : Nat) "RoverMinutes" "time" "I" ∈ am_W := am_W_in (am_run_2 (List.mem_of_getElem? (i := 12) rfl)) rfl
theorem wd_2_13 : Jvm.Cond.fieldLink "RoverMinutes" (101 : Nat) "RoverMinutes" "enabledAt" "I" ∈ am_W := am_W_in (am_run_2 (List.mem_of_getElem? (i := 13) rfl)) rfl
theorem wd_2_14 : Jvm.Cond.fieldLink "RoverMinutes" (205 : Nat) "RoverMinutes" "returnLeft" "I" ∈ am_W := am_W_in (am_run_2 (List.mem_of_getElem? (i := 14) rfl)) rfl
theorem wd_2_15 : Jvm.Cond.laysFinal "RoverMinutes" "RoverMinutes" "line" "LRoverMinutes$Line;" ∈ am_W := am_W_in (am_run_2 (List.mem_of_getElem? (i := 15) rfl)) rfl
theorem wd_2_17 : Jvm.Cond.laysFinal "RoverMinutes" "RoverMinutes" "reader" "LRoverMinutes$PlanReader;" ∈ am_W := am_W_in (am_run_2 (List.mem_of_getElem? (i := 17) rfl)) rfl
theorem wd_2_19 : Jvm.Cond.laysFinal "RoverMinutes" "RoverMinutes" "supply" "LRoverMinutes$Supply;" ∈ am_W := am_W_in (am_run_2 (List.mem_of_getElem? (i := 19) rfl)) rfl
theorem wd_2_21 : Jvm.Cond.laysFinal "RoverMinutes" "RoverMinutes" "envelope" "LRoverMinutes$Envelope;" ∈ am_W := am_W_in (am_run_2 (List.mem_of_getElem? (i := 21) rfl)) rfl
theorem wd_2_23 : Jvm.Cond.lays "RoverMinutes" "RoverMinutes" "plan" "LRoverMinutes$Plan;" ∈ am_W := am_W_in (am_run_2 (List.mem_of_getElem? (i := 23) rfl)) rfl
theorem wd_2_25 : Jvm.Cond.lays "RoverMinutes" "RoverMinutes" "draft" "LRoverMinutes$Plan;" ∈ am_W := am_W_in (am_run_2 (List.mem_of_getElem? (i := 25) rfl)) rfl
theorem wd_2_27 : Jvm.Cond.lays "RoverMinutes" "RoverMinutes" "mode" "I" ∈ am_W := am_W_in (am_run_2 (List.mem_of_getElem? (i := 27) rfl)) rfl
theorem wd_2_29 : Jvm.Cond.lays "RoverMinutes" "RoverMinutes" "time" "I" ∈ am_W := am_W_in (am_run_2 (List.mem_of_getElem? (i := 29) rfl)) rfl
theorem wd_2_31 : Jvm.Cond.lays "RoverMinutes" "RoverMinutes" "enabledAt" "I" ∈ am_W := am_W_in (am_run_2 (List.mem_of_getElem? (i := 31) rfl)) rfl
theorem wd_2_33 : Jvm.Cond.lays "RoverMinutes" "RoverMinutes" "returnLeft" "I" ∈ am_W := am_W_in (am_run_2 (List.mem_of_getElem? (i := 33) rfl)) rfl
theorem wd_2_35 : Jvm.Cond.superclass "RoverMinutes" "java/lang/Object" ∈ am_W := am_W_in (am_run_2 (List.mem_of_getElem? (i := 35) rfl)) rfl
theorem wd_2_36 : Jvm.Cond.methodLink "RoverMinutesLaw" (110 : Nat) ({ cls := "RoverMinutes", name := "now", desc := "()I" } : Jvm.MethodName) ∈ am_W := am_W_in (am_run_2 (List.mem_of_getElem? (i := 36) rfl)) rfl
theorem wd_2_37 : Jvm.Cond.instanceMethod ({ cls := "RoverMinutes", name := "now", desc := "()I" } : Jvm.MethodName) ∈ am_W := am_W_in (am_run_2 (List.mem_of_getElem? (i := 37) rfl)) rfl
theorem wd_2_38 : Jvm.Cond.selects "RoverMinutes" ({ cls := "RoverMinutes", name := "now", desc := "()I" } : Jvm.MethodName) ({ cls := "RoverMinutes", name := "now", desc := "()I" } : Jvm.MethodName) ∈ am_W := am_W_in (am_run_2 (List.mem_of_getElem? (i := 38) rfl)) rfl
theorem wd_2_39 : Jvm.Cond.code ({ cls := "RoverMinutes", name := "now", desc := "()I" } : Jvm.MethodName) prog_1_method_13_code (1 : Nat) (Option.some Jvm.ClassFile.FieldType.int) ∈ am_W := am_W_in (am_run_2 (List.mem_of_getElem? (i := 39) rfl)) rfl
theorem wd_2_40 : Jvm.Cond.methodLink "RoverMinutesLaw" (114 : Nat) ({ cls := "RoverMinutes", name := "mode", desc := "()I" } : Jvm.MethodName) ∈ am_W := am_W_in (am_run_2 (List.mem_of_getElem? (i := 40) rfl)) rfl
theorem wd_2_41 : Jvm.Cond.instanceMethod ({ cls := "RoverMinutes", name := "mode", desc := "()I" } : Jvm.MethodName) ∈ am_W := am_W_in (am_run_2 (List.mem_of_getElem? (i := 41) rfl)) rfl
theorem wd_2_42 : Jvm.Cond.selects "RoverMinutes" ({ cls := "RoverMinutes", name := "mode", desc := "()I" } : Jvm.MethodName) ({ cls := "RoverMinutes", name := "mode", desc := "()I" } : Jvm.MethodName) ∈ am_W := am_W_in (am_run_2 (List.mem_of_getElem? (i := 42) rfl)) rfl
theorem wd_2_43 : Jvm.Cond.code ({ cls := "RoverMinutes", name := "mode", desc := "()I" } : Jvm.MethodName) prog_1_method_14_code (1 : Nat) (Option.some Jvm.ClassFile.FieldType.int) ∈ am_W := am_W_in (am_run_2 (List.mem_of_getElem? (i := 43) rfl)) rfl
theorem wd_2_44 : Jvm.Cond.methodLink "RoverMinutesLaw" (121 : Nat) ({ cls := "RoverMinutes", name := "reserve", desc := "()I" } : Jvm.MethodName) ∈ am_W := am_W_in (am_run_2 (List.mem_of_getElem? (i := 44) rfl)) rfl
theorem wd_2_45 : Jvm.Cond.instanceMethod ({ cls := "RoverMinutes", name := "reserve", desc := "()I" } : Jvm.MethodName) ∈ am_W := am_W_in (am_run_2 (List.mem_of_getElem? (i := 45) rfl)) rfl
theorem wd_2_46 : Jvm.Cond.selects "RoverMinutes" ({ cls := "RoverMinutes", name := "reserve", desc := "()I" } : Jvm.MethodName) ({ cls := "RoverMinutes", name := "reserve", desc := "()I" } : Jvm.MethodName) ∈ am_W := am_W_in (am_run_2 (List.mem_of_getElem? (i := 46) rfl)) rfl
theorem wd_2_47 : Jvm.Cond.code ({ cls := "RoverMinutes", name := "reserve", desc := "()I" } : Jvm.MethodName) prog_1_method_16_code (1 : Nat) (Option.some Jvm.ClassFile.FieldType.int) ∈ am_W := am_W_in (am_run_2 (List.mem_of_getElem? (i := 47) rfl)) rfl
theorem wd_2_48 : Jvm.Cond.methodLink "RoverMinutes" (157 : Nat) ({ cls := "RoverMinutes$Supply", name := "needBehind", desc := "(I)I" } : Jvm.MethodName) ∈ am_W := am_W_in (am_run_2 (List.mem_of_getElem? (i := 48) rfl)) rfl
theorem wd_2_49 : Jvm.Cond.instanceMethod ({ cls := "RoverMinutes$Supply", name := "needBehind", desc := "(I)I" } : Jvm.MethodName) ∈ am_W := am_W_in (am_run_2 (List.mem_of_getElem? (i := 49) rfl)) rfl
theorem wd_2_50 : Jvm.Cond.selects "RoverMinutes$Supply" ({ cls := "RoverMinutes$Supply", name := "needBehind", desc := "(I)I" } : Jvm.MethodName) ({ cls := "RoverMinutes$Supply", name := "needBehind", desc := "(I)I" } : Jvm.MethodName) ∈ am_W := am_W_in (am_run_2 (List.mem_of_getElem? (i := 50) rfl)) rfl
theorem wd_2_51 : Jvm.Cond.code ({ cls := "RoverMinutes$Supply", name := "needBehind", desc := "(I)I" } : Jvm.MethodName) prog_7_method_7_code (2 : Nat) (Option.some Jvm.ClassFile.FieldType.int) ∈ am_W := am_W_in (am_run_2 (List.mem_of_getElem? (i := 51) rfl)) rfl
theorem wd_2_52 : Jvm.Cond.methodLink "RoverMinutes$Supply" (48 : Nat) ({ cls := "java/lang/Math", name := "floorMod", desc := "(II)I" } : Jvm.MethodName) ∈ am_W := am_W_in (am_run_2 (List.mem_of_getElem? (i := 52) rfl)) rfl
theorem wd_2_53 : Jvm.Cond.static ({ cls := "java/lang/Math", name := "floorMod", desc := "(II)I" } : Jvm.MethodName) ∈ am_W := am_W_in (am_run_2 (List.mem_of_getElem? (i := 53) rfl)) rfl
theorem wd_2_54 : Jvm.Cond.code ({ cls := "java/lang/Math", name := "floorMod", desc := "(II)I" } : Jvm.MethodName) prog_15_method_50_code (3 : Nat) (Option.some Jvm.ClassFile.FieldType.int) ∈ am_W := am_W_in (am_run_2 (List.mem_of_getElem? (i := 54) rfl)) rfl
theorem wd_2_55 : Jvm.Cond.methodLink "RoverMinutesLaw" (125 : Nat) ({ cls := "RoverMinutes", name := "activities", desc := "()I" } : Jvm.MethodName) ∈ am_W := am_W_in (am_run_2 (List.mem_of_getElem? (i := 55) rfl)) rfl
theorem wd_2_56 : Jvm.Cond.instanceMethod ({ cls := "RoverMinutes", name := "activities", desc := "()I" } : Jvm.MethodName) ∈ am_W := am_W_in (am_run_2 (List.mem_of_getElem? (i := 56) rfl)) rfl
theorem wd_2_57 : Jvm.Cond.selects "RoverMinutes" ({ cls := "RoverMinutes", name := "activities", desc := "()I" } : Jvm.MethodName) ({ cls := "RoverMinutes", name := "activities", desc := "()I" } : Jvm.MethodName) ∈ am_W := am_W_in (am_run_2 (List.mem_of_getElem? (i := 57) rfl)) rfl
theorem wd_2_58 : Jvm.Cond.code ({ cls := "RoverMinutes", name := "activities", desc := "()I" } : Jvm.MethodName) prog_1_method_17_code (1 : Nat) (Option.some Jvm.ClassFile.FieldType.int) ∈ am_W := am_W_in (am_run_2 (List.mem_of_getElem? (i := 58) rfl)) rfl
theorem wd_2_59 : Jvm.Cond.methodLink "RoverMinutesLaw" (133 : Nat) ({ cls := "RoverMinutes", name := "lowest", desc := "()I" } : Jvm.MethodName) ∈ am_W := am_W_in (am_run_2 (List.mem_of_getElem? (i := 59) rfl)) rfl
theorem wd_2_60 : Jvm.Cond.instanceMethod ({ cls := "RoverMinutes", name := "lowest", desc := "()I" } : Jvm.MethodName) ∈ am_W := am_W_in (am_run_2 (List.mem_of_getElem? (i := 60) rfl)) rfl
theorem wd_2_61 : Jvm.Cond.selects "RoverMinutes" ({ cls := "RoverMinutes", name := "lowest", desc := "()I" } : Jvm.MethodName) ({ cls := "RoverMinutes", name := "lowest", desc := "()I" } : Jvm.MethodName) ∈ am_W := am_W_in (am_run_2 (List.mem_of_getElem? (i := 61) rfl)) rfl
theorem wd_2_62 : Jvm.Cond.code ({ cls := "RoverMinutes", name := "lowest", desc := "()I" } : Jvm.MethodName) prog_1_method_19_code (1 : Nat) (Option.some Jvm.ClassFile.FieldType.int) ∈ am_W := am_W_in (am_run_2 (List.mem_of_getElem? (i := 62) rfl)) rfl
theorem wd_2_63 : Jvm.Cond.methodLink "RoverMinutes" (179 : Nat) ({ cls := "RoverMinutes$Envelope", name := "gather", desc := "(LRoverMinutes$Plan;I)V" } : Jvm.MethodName) ∈ am_W := am_W_in (am_run_2 (List.mem_of_getElem? (i := 63) rfl)) rfl
theorem wd_2_64 : Jvm.Cond.instanceMethod ({ cls := "RoverMinutes$Envelope", name := "gather", desc := "(LRoverMinutes$Plan;I)V" } : Jvm.MethodName) ∈ am_W := am_W_in (am_run_2 (List.mem_of_getElem? (i := 64) rfl)) rfl
theorem wd_2_65 : Jvm.Cond.selects "RoverMinutes$Envelope" ({ cls := "RoverMinutes$Envelope", name := "gather", desc := "(LRoverMinutes$Plan;I)V" } : Jvm.MethodName) ({ cls := "RoverMinutes$Envelope", name := "gather", desc := "(LRoverMinutes$Plan;I)V" } : Jvm.MethodName) ∈ am_W := am_W_in (am_run_2 (List.mem_of_getElem? (i := 65) rfl)) rfl
theorem wd_2_66 : Jvm.Cond.code ({ cls := "RoverMinutes$Envelope", name := "gather", desc := "(LRoverMinutes$Plan;I)V" } : Jvm.MethodName) prog_3_method_2_code (5 : Nat) (Option.none : Option Jvm.ClassFile.FieldType) ∈ am_W := am_W_in (am_run_2 (List.mem_of_getElem? (i := 66) rfl)) rfl
theorem wd_2_67 : Jvm.Cond.methodLink "RoverMinutes$Envelope" (15 : Nat) ({ cls := "RoverMinutes$Envelope", name := "clear", desc := "()V" } : Jvm.MethodName) ∈ am_W := am_W_in (am_run_2 (List.mem_of_getElem? (i := 67) rfl)) rfl
theorem wd_2_69 : Jvm.Cond.instanceMethod ({ cls := "RoverMinutes$Envelope", name := "clear", desc := "()V" } : Jvm.MethodName) ∈ am_W := am_W_in (am_run_2 (List.mem_of_getElem? (i := 69) rfl)) rfl
theorem wd_2_70 : Jvm.Cond.code ({ cls := "RoverMinutes$Envelope", name := "clear", desc := "()V" } : Jvm.MethodName) prog_3_method_3_code (2 : Nat) (Option.none : Option Jvm.ClassFile.FieldType) ∈ am_W := am_W_in (am_run_2 (List.mem_of_getElem? (i := 70) rfl)) rfl
theorem wd_2_71 : Jvm.Cond.methodLink "RoverMinutes$Envelope" (28 : Nat) ({ cls := "RoverMinutes$Activity", name := "isRunning", desc := "()Z" } : Jvm.MethodName) ∈ am_W := am_W_in (am_run_2 (List.mem_of_getElem? (i := 71) rfl)) rfl
theorem wd_2_72 : Jvm.Cond.instanceMethod ({ cls := "RoverMinutes$Activity", name := "isRunning", desc := "()Z" } : Jvm.MethodName) ∈ am_W := am_W_in (am_run_2 (List.mem_of_getElem? (i := 72) rfl)) rfl
theorem wd_2_73 : Jvm.Cond.selects "RoverMinutes$Activity" ({ cls := "RoverMinutes$Activity", name := "isRunning", desc := "()Z" } : Jvm.MethodName) ({ cls := "RoverMinutes$Activity", name := "isRunning", desc := "()Z" } : Jvm.MethodName) ∈ am_W := am_W_in (am_run_2 (List.mem_of_getElem? (i := 73) rfl)) rfl
theorem wd_2_74 : Jvm.Cond.code ({ cls := "RoverMinutes$Activity", name := "isRunning", desc := "()Z" } : Jvm.MethodName) prog_2_method_6_code (1 : Nat) (Option.some Jvm.ClassFile.FieldType.boolean) ∈ am_W := am_W_in (am_run_2 (List.mem_of_getElem? (i := 74) rfl)) rfl
theorem wd_2_75 : Jvm.Cond.methodLink "RoverMinutes$Envelope" (38 : Nat) ({ cls := "RoverMinutes$Envelope", name := "add", desc := "(LRoverMinutes$Activity;I)V" } : Jvm.MethodName) ∈ am_W := am_W_in (am_run_2 (List.mem_of_getElem? (i := 75) rfl)) rfl
theorem wd_2_77 : Jvm.Cond.instanceMethod ({ cls := "RoverMinutes$Envelope", name := "add", desc := "(LRoverMinutes$Activity;I)V" } : Jvm.MethodName) ∈ am_W := am_W_in (am_run_2 (List.mem_of_getElem? (i := 77) rfl)) rfl
theorem wd_2_78 : Jvm.Cond.code ({ cls := "RoverMinutes$Envelope", name := "add", desc := "(LRoverMinutes$Activity;I)V" } : Jvm.MethodName) prog_3_method_4_code (4 : Nat) (Option.none : Option Jvm.ClassFile.FieldType) ∈ am_W := am_W_in (am_run_2 (List.mem_of_getElem? (i := 78) rfl)) rfl
theorem wd_2_79 : Jvm.Cond.methodLink "RoverMinutes$Envelope" (56 : Nat) ({ cls := "java/lang/Math", name := "max", desc := "(II)I" } : Jvm.MethodName) ∈ am_W := am_W_in (am_run_2 (List.mem_of_getElem? (i := 79) rfl)) rfl
theorem wd_2_80 : Jvm.Cond.methodLink "RoverMinutes" (183 : Nat) ({ cls := "RoverMinutes$Envelope", name := "deepest", desc := "(LRoverMinutes$Supply;I)I" } : Jvm.MethodName) ∈ am_W := am_W_in (am_run_2 (List.mem_of_getElem? (i := 80) rfl)) rfl
theorem wd_2_81 : Jvm.Cond.instanceMethod ({ cls := "RoverMinutes$Envelope", name := "deepest", desc := "(LRoverMinutes$Supply;I)I" } : Jvm.MethodName) ∈ am_W := am_W_in (am_run_2 (List.mem_of_getElem? (i := 81) rfl)) rfl
theorem wd_2_82 : Jvm.Cond.selects "RoverMinutes$Envelope" ({ cls := "RoverMinutes$Envelope", name := "deepest", desc := "(LRoverMinutes$Supply;I)I" } : Jvm.MethodName) ({ cls := "RoverMinutes$Envelope", name := "deepest", desc := "(LRoverMinutes$Supply;I)I" } : Jvm.MethodName) ∈ am_W := am_W_in (am_run_2 (List.mem_of_getElem? (i := 82) rfl)) rfl
theorem wd_2_83 : Jvm.Cond.code ({ cls := "RoverMinutes$Envelope", name := "deepest", desc := "(LRoverMinutes$Supply;I)I" } : Jvm.MethodName) prog_3_method_6_code (6 : Nat) (Option.some Jvm.ClassFile.FieldType.int) ∈ am_W := am_W_in (am_run_2 (List.mem_of_getElem? (i := 83) rfl)) rfl
theorem wd_2_84 : Jvm.Cond.methodLink "RoverMinutes$Envelope" (72 : Nat) ({ cls := "RoverMinutes$Supply", name := "lowerGain", desc := "(I)I" } : Jvm.MethodName) ∈ am_W := am_W_in (am_run_2 (List.mem_of_getElem? (i := 84) rfl)) rfl
theorem wd_2_85 : Jvm.Cond.instanceMethod ({ cls := "RoverMinutes$Supply", name := "lowerGain", desc := "(I)I" } : Jvm.MethodName) ∈ am_W := am_W_in (am_run_2 (List.mem_of_getElem? (i := 85) rfl)) rfl
theorem wd_2_86 : Jvm.Cond.selects "RoverMinutes$Supply" ({ cls := "RoverMinutes$Supply", name := "lowerGain", desc := "(I)I" } : Jvm.MethodName) ({ cls := "RoverMinutes$Supply", name := "lowerGain", desc := "(I)I" } : Jvm.MethodName) ∈ am_W := am_W_in (am_run_2 (List.mem_of_getElem? (i := 86) rfl)) rfl
theorem wd_2_87 : Jvm.Cond.code ({ cls := "RoverMinutes$Supply", name := "lowerGain", desc := "(I)I" } : Jvm.MethodName) prog_7_method_6_code (2 : Nat) (Option.some Jvm.ClassFile.FieldType.int) ∈ am_W := am_W_in (am_run_2 (List.mem_of_getElem? (i := 87) rfl)) rfl
theorem wd_2_88 : Jvm.Cond.methodLink "RoverMinutes$Envelope" (76 : Nat) ({ cls := "RoverMinutes$Supply", name := "goOn", desc := "(III)I" } : Jvm.MethodName) ∈ am_W := am_W_in (am_run_2 (List.mem_of_getElem? (i := 88) rfl)) rfl
theorem wd_2_89 : Jvm.Cond.static ({ cls := "RoverMinutes$Supply", name := "goOn", desc := "(III)I" } : Jvm.MethodName) ∈ am_W := am_W_in (am_run_2 (List.mem_of_getElem? (i := 89) rfl)) rfl
theorem wd_2_90 : Jvm.Cond.code ({ cls := "RoverMinutes$Supply", name := "goOn", desc := "(III)I" } : Jvm.MethodName) prog_7_method_9_code (3 : Nat) (Option.some Jvm.ClassFile.FieldType.int) ∈ am_W := am_W_in (am_run_2 (List.mem_of_getElem? (i := 90) rfl)) rfl
theorem wd_2_91 : Jvm.Cond.methodLink "RoverMinutes$Supply" (54 : Nat) ({ cls := "java/lang/Math", name := "min", desc := "(II)I" } : Jvm.MethodName) ∈ am_W := am_W_in (am_run_2 (List.mem_of_getElem? (i := 91) rfl)) rfl
theorem wd_2_92 : Jvm.Cond.static ({ cls := "java/lang/Math", name := "min", desc := "(II)I" } : Jvm.MethodName) ∈ am_W := am_W_in (am_run_2 (List.mem_of_getElem? (i := 92) rfl)) rfl
theorem wd_2_93 : Jvm.Cond.code ({ cls := "java/lang/Math", name := "min", desc := "(II)I" } : Jvm.MethodName) prog_15_method_69_code (2 : Nat) (Option.some Jvm.ClassFile.FieldType.int) ∈ am_W := am_W_in (am_run_2 (List.mem_of_getElem? (i := 93) rfl)) rfl
theorem wd_2_94 : Jvm.Cond.methodLink "RoverMinutes$Envelope" (80 : Nat) ({ cls := "java/lang/Math", name := "min", desc := "(II)I" } : Jvm.MethodName) ∈ am_W := am_W_in (am_run_2 (List.mem_of_getElem? (i := 94) rfl)) rfl
theorem wd_2_95 : Jvm.Cond.methodLink "RoverMinutesLaw" (67 : Nat) ({ cls := "RoverMinutesLaw", name := "type", desc := "(LRoverMinutes;I[J)I" } : Jvm.MethodName) ∈ am_W := am_W_in (am_run_2 (List.mem_of_getElem? (i := 95) rfl)) rfl
theorem wd_2_96 : Jvm.Cond.static ({ cls := "RoverMinutesLaw", name := "type", desc := "(LRoverMinutes;I[J)I" } : Jvm.MethodName) ∈ am_W := am_W_in (am_run_2 (List.mem_of_getElem? (i := 96) rfl)) rfl
theorem wd_2_97 : Jvm.Cond.codeWith ({ cls := "RoverMinutesLaw", name := "type", desc := "(LRoverMinutes;I[J)I" } : Jvm.MethodName) method_3_code (4 : Nat) (Option.some Jvm.ClassFile.FieldType.int) [((0 : Nat), (16 : Nat), (19 : Nat), (13 : Nat))] ∈ am_W := am_W_in (am_run_2 (List.mem_of_getElem? (i := 97) rfl)) rfl
theorem wd_2_98 : Jvm.Cond.classLink "RoverMinutesLaw" (13 : Nat) "java/lang/IllegalArgumentException" ∈ am_W := am_W_in (am_run_2 (List.mem_of_getElem? (i := 98) rfl)) rfl
theorem wd_2_99 : Jvm.Cond.methodLink "RoverMinutesLaw" (7 : Nat) ({ cls := "RoverMinutes", name := "type", desc := "(I)Z" } : Jvm.MethodName) ∈ am_W := am_W_in (am_run_2 (List.mem_of_getElem? (i := 99) rfl)) rfl
theorem wd_2_100 : Jvm.Cond.instanceMethod ({ cls := "RoverMinutes", name := "type", desc := "(I)Z" } : Jvm.MethodName) ∈ am_W := am_W_in (am_run_2 (List.mem_of_getElem? (i := 100) rfl)) rfl
theorem wd_2_101 : Jvm.Cond.selects "RoverMinutes" ({ cls := "RoverMinutes", name := "type", desc := "(I)Z" } : Jvm.MethodName) ({ cls := "RoverMinutes", name := "type", desc := "(I)Z" } : Jvm.MethodName) ∈ am_W := am_W_in (am_run_2 (List.mem_of_getElem? (i := 101) rfl)) rfl
theorem wd_2_102 : Jvm.Cond.code ({ cls := "RoverMinutes", name := "type", desc := "(I)Z" } : Jvm.MethodName) prog_1_method_2_code (4 : Nat) (Option.some Jvm.ClassFile.FieldType.boolean) ∈ am_W := am_W_in (am_run_2 (List.mem_of_getElem? (i := 102) rfl)) rfl
theorem wd_2_103 : Jvm.Cond.methodLink "RoverMinutes" (53 : Nat) ({ cls := "RoverMinutes", name := "byteOf", desc := "(II)I" } : Jvm.MethodName) ∈ am_W := am_W_in (am_run_2 (List.mem_of_getElem? (i := 103) rfl)) rfl
theorem wd_2_104 : Jvm.Cond.static ({ cls := "RoverMinutes", name := "byteOf", desc := "(II)I" } : Jvm.MethodName) ∈ am_W := am_W_in (am_run_2 (List.mem_of_getElem? (i := 104) rfl)) rfl
theorem wd_2_105 : Jvm.Cond.code ({ cls := "RoverMinutes", name := "byteOf", desc := "(II)I" } : Jvm.MethodName) prog_1_method_21_code (2 : Nat) (Option.some Jvm.ClassFile.FieldType.int) ∈ am_W := am_W_in (am_run_2 (List.mem_of_getElem? (i := 105) rfl)) rfl
theorem wd_2_106 : Jvm.Cond.methodLink "RoverMinutes" (57 : Nat) ({ cls := "RoverMinutes$Line", name := "canHold", desc := "(I)Z" } : Jvm.MethodName) ∈ am_W := am_W_in (am_run_2 (List.mem_of_getElem? (i := 106) rfl)) rfl
theorem wd_2_107 : Jvm.Cond.static ({ cls := "RoverMinutes$Line", name := "canHold", desc := "(I)Z" } : Jvm.MethodName) ∈ am_W := am_W_in (am_run_2 (List.mem_of_getElem? (i := 107) rfl)) rfl
theorem wd_2_108 : Jvm.Cond.code ({ cls := "RoverMinutes$Line", name := "canHold", desc := "(I)Z" } : Jvm.MethodName) prog_4_method_2_code (1 : Nat) (Option.some Jvm.ClassFile.FieldType.boolean) ∈ am_W := am_W_in (am_run_2 (List.mem_of_getElem? (i := 108) rfl)) rfl
theorem wd_2_109 : Jvm.Cond.classLink "RoverMinutes" (61 : Nat) "java/lang/IllegalArgumentException" ∈ am_W := am_W_in (am_run_2 (List.mem_of_getElem? (i := 109) rfl)) rfl
theorem wd_2_110 : Jvm.Cond.instantiable "java/lang/IllegalArgumentException" (6 : Nat) ∈ am_W := am_W_in (am_run_2 (List.mem_of_getElem? (i := 110) rfl)) rfl
theorem wd_2_118 : Jvm.Cond.selects "java/lang/IllegalArgumentException" ({ cls := "java/lang/Throwable", name := "fillInStackTrace", desc := "(I)Ljava/lang/Throwable;" } : Jvm.MethodName) ({ cls := "java/lang/Throwable", name := "fillInStackTrace", desc := "(I)Ljava/lang/Throwable;" } : Jvm.MethodName) ∈ am_W := am_W_in (am_run_2 (List.mem_of_getElem? (i := 118) rfl)) rfl
theorem wd_2_119 : Jvm.Cond.selects "java/lang/IllegalArgumentException" ({ cls := "java/lang/Throwable", name := "fillInStackTrace", desc := "()Ljava/lang/Throwable;" } : Jvm.MethodName) ({ cls := "java/lang/Throwable", name := "fillInStackTrace", desc := "()Ljava/lang/Throwable;" } : Jvm.MethodName) ∈ am_W := am_W_in (am_run_2 (List.mem_of_getElem? (i := 119) rfl)) rfl
theorem wd_2_120 : Jvm.Cond.lays "java/lang/IllegalArgumentException" "java/lang/Throwable" "cause" "Ljava/lang/Throwable;" ∈ am_W := am_W_in (am_run_2 (List.mem_of_getElem? (i := 120) rfl)) rfl
theorem wd_2_121 : Jvm.Cond.lays "java/lang/Throwable" "java/lang/Throwable" "cause" "Ljava/lang/Throwable;" ∈ am_W := am_W_in (am_run_2 (List.mem_of_getElem? (i := 121) rfl)) rfl
theorem wd_2_122 : Jvm.Cond.lays "java/lang/IllegalArgumentException" "java/lang/Throwable" "stackTrace" "[Ljava/lang/StackTraceElement;" ∈ am_W := am_W_in (am_run_2 (List.mem_of_getElem? (i := 122) rfl)) rfl
theorem wd_2_123 : Jvm.Cond.lays "java/lang/Throwable" "java/lang/Throwable" "stackTrace" "[Ljava/lang/StackTraceElement;" ∈ am_W := am_W_in (am_run_2 (List.mem_of_getElem? (i := 123) rfl)) rfl
theorem wd_2_124 : Jvm.Cond.lays "java/lang/IllegalArgumentException" "java/lang/Throwable" "suppressedExceptions" "Ljava/util/List;" ∈ am_W := am_W_in (am_run_2 (List.mem_of_getElem? (i := 124) rfl)) rfl
theorem wd_2_125 : Jvm.Cond.lays "java/lang/Throwable" "java/lang/Throwable" "suppressedExceptions" "Ljava/util/List;" ∈ am_W := am_W_in (am_run_2 (List.mem_of_getElem? (i := 125) rfl)) rfl
theorem wd_2_126 : Jvm.Cond.lays "java/lang/IllegalArgumentException" "java/lang/Throwable" "detailMessage" "Ljava/lang/String;" ∈ am_W := am_W_in (am_run_2 (List.mem_of_getElem? (i := 126) rfl)) rfl
theorem wd_2_127 : Jvm.Cond.lays "java/lang/Throwable" "java/lang/Throwable" "detailMessage" "Ljava/lang/String;" ∈ am_W := am_W_in (am_run_2 (List.mem_of_getElem? (i := 127) rfl)) rfl
theorem wd_2_128 : Jvm.Cond.lays "java/lang/IllegalArgumentException" "java/lang/Throwable" "backtrace" "Ljava/lang/Object;" ∈ am_W := am_W_in (am_run_2 (List.mem_of_getElem? (i := 128) rfl)) rfl
theorem wd_2_129 : Jvm.Cond.lays "java/lang/Throwable" "java/lang/Throwable" "backtrace" "Ljava/lang/Object;" ∈ am_W := am_W_in (am_run_2 (List.mem_of_getElem? (i := 129) rfl)) rfl
theorem wd_2_130 : Jvm.Cond.fieldLink "java/lang/Throwable" (198 : Nat) "java/lang/Throwable" "backtrace" "Ljava/lang/Object;" ∈ am_W := am_W_in (am_run_2 (List.mem_of_getElem? (i := 130) rfl)) rfl
theorem wd_2_131 : Jvm.Cond.superclass "java/lang/Throwable" "java/lang/Object" ∈ am_W := am_W_in (am_run_2 (List.mem_of_getElem? (i := 131) rfl)) rfl
theorem wd_2_132 : Jvm.Cond.instanceMethod ({ cls := "java/lang/Throwable", name := "<init>", desc := "()V" } : Jvm.MethodName) ∈ am_W := am_W_in (am_run_2 (List.mem_of_getElem? (i := 132) rfl)) rfl
theorem wd_2_133 : Jvm.Cond.code ({ cls := "java/lang/Throwable", name := "<init>", desc := "()V" } : Jvm.MethodName) prog_20_method_1_code (1 : Nat) (Option.none : Option Jvm.ClassFile.FieldType) ∈ am_W := am_W_in (am_run_2 (List.mem_of_getElem? (i := 133) rfl)) rfl
theorem wd_2_134 : Jvm.Cond.methodLink "java/lang/Throwable" (1 : Nat) ({ cls := "java/lang/Object", name := "<init>", desc := "()V" } : Jvm.MethodName) ∈ am_W := am_W_in (am_run_2 (List.mem_of_getElem? (i := 134) rfl)) rfl
theorem wd_2_135 : Jvm.Cond.fieldLink "java/lang/Throwable" (13 : Nat) "java/lang/Throwable" "UNASSIGNED_STACK" "[Ljava/lang/StackTraceElement;" ∈ am_W := am_W_in (am_run_2 (List.mem_of_getElem? (i := 135) rfl)) rfl
theorem wd_2_137 : Jvm.Cond.fieldLink "java/lang/Throwable" (20 : Nat) "java/lang/Throwable" "SUPPRESSED_SENTINEL" "Ljava/util/List;" ∈ am_W := am_W_in (am_run_2 (List.mem_of_getElem? (i := 137) rfl)) rfl
theorem wd_2_139 : Jvm.Cond.methodLink "java/lang/Throwable" (27 : Nat) ({ cls := "java/lang/Throwable", name := "fillInStackTrace", desc := "()Ljava/lang/Throwable;" } : Jvm.MethodName) ∈ am_W := am_W_in (am_run_2 (List.mem_of_getElem? (i := 139) rfl)) rfl
theorem wd_2_140 : Jvm.Cond.instanceMethod ({ cls := "java/lang/Throwable", name := "fillInStackTrace", desc := "()Ljava/lang/Throwable;" } : Jvm.MethodName) ∈ am_W := am_W_in (am_run_2 (List.mem_of_getElem? (i := 140) rfl)) rfl
theorem wd_2_142 : Jvm.Cond.selects "java/lang/IllegalStateException" ({ cls := "java/lang/Throwable", name := "fillInStackTrace", desc := "()Ljava/lang/Throwable;" } : Jvm.MethodName) ({ cls := "java/lang/Throwable", name := "fillInStackTrace", desc := "()Ljava/lang/Throwable;" } : Jvm.MethodName) ∈ am_W := am_W_in (am_run_2 (List.mem_of_getElem? (i := 142) rfl)) rfl
theorem wd_2_143 : Jvm.Cond.selects "java/lang/IndexOutOfBoundsException" ({ cls := "java/lang/Throwable", name := "fillInStackTrace", desc := "()Ljava/lang/Throwable;" } : Jvm.MethodName) ({ cls := "java/lang/Throwable", name := "fillInStackTrace", desc := "()Ljava/lang/Throwable;" } : Jvm.MethodName) ∈ am_W := am_W_in (am_run_2 (List.mem_of_getElem? (i := 143) rfl)) rfl
theorem wd_2_145 : Jvm.Cond.methodLink "java/lang/Throwable" (202 : Nat) ({ cls := "java/lang/Throwable", name := "fillInStackTrace", desc := "(I)Ljava/lang/Throwable;" } : Jvm.MethodName) ∈ am_W := am_W_in (am_run_2 (List.mem_of_getElem? (i := 145) rfl)) rfl
theorem wd_2_147 : Jvm.Cond.instanceMethod ({ cls := "java/lang/Throwable", name := "fillInStackTrace", desc := "(I)Ljava/lang/Throwable;" } : Jvm.MethodName) ∈ am_W := am_W_in (am_run_2 (List.mem_of_getElem? (i := 147) rfl)) rfl
theorem wd_2_148 : Jvm.Cond.instantiable "java/lang/Throwable" (6 : Nat) ∈ am_W := am_W_in (am_run_2 (List.mem_of_getElem? (i := 148) rfl)) rfl
theorem wd_2_150 : Jvm.Cond.methodLink "RoverMinutes" (63 : Nat) ({ cls := "java/lang/IllegalArgumentException", name := "<init>", desc := "()V" } : Jvm.MethodName) ∈ am_W := am_W_in (am_run_2 (List.mem_of_getElem? (i := 150) rfl)) rfl
theorem wd_2_151 : Jvm.Cond.instanceMethod ({ cls := "java/lang/IllegalArgumentException", name := "<init>", desc := "()V" } : Jvm.MethodName) ∈ am_W := am_W_in (am_run_2 (List.mem_of_getElem? (i := 151) rfl)) rfl
theorem wd_2_152 : Jvm.Cond.code ({ cls := "java/lang/IllegalArgumentException", name := "<init>", desc := "()V" } : Jvm.MethodName) prog_12_method_1_code (1 : Nat) (Option.none : Option Jvm.ClassFile.FieldType) ∈ am_W := am_W_in (am_run_2 (List.mem_of_getElem? (i := 152) rfl)) rfl
theorem wd_2_153 : Jvm.Cond.methodLink "java/lang/IllegalArgumentException" (1 : Nat) ({ cls := "java/lang/RuntimeException", name := "<init>", desc := "()V" } : Jvm.MethodName) ∈ am_W := am_W_in (am_run_2 (List.mem_of_getElem? (i := 153) rfl)) rfl
theorem wd_2_154 : Jvm.Cond.instanceMethod ({ cls := "java/lang/RuntimeException", name := "<init>", desc := "()V" } : Jvm.MethodName) ∈ am_W := am_W_in (am_run_2 (List.mem_of_getElem? (i := 154) rfl)) rfl
theorem wd_2_155 : Jvm.Cond.code ({ cls := "java/lang/RuntimeException", name := "<init>", desc := "()V" } : Jvm.MethodName) prog_16_method_1_code (1 : Nat) (Option.none : Option Jvm.ClassFile.FieldType) ∈ am_W := am_W_in (am_run_2 (List.mem_of_getElem? (i := 155) rfl)) rfl
theorem wd_2_156 : Jvm.Cond.methodLink "java/lang/RuntimeException" (1 : Nat) ({ cls := "java/lang/Exception", name := "<init>", desc := "()V" } : Jvm.MethodName) ∈ am_W := am_W_in (am_run_2 (List.mem_of_getElem? (i := 156) rfl)) rfl
theorem wd_2_157 : Jvm.Cond.instanceMethod ({ cls := "java/lang/Exception", name := "<init>", desc := "()V" } : Jvm.MethodName) ∈ am_W := am_W_in (am_run_2 (List.mem_of_getElem? (i := 157) rfl)) rfl
theorem wd_2_158 : Jvm.Cond.code ({ cls := "java/lang/Exception", name := "<init>", desc := "()V" } : Jvm.MethodName) prog_11_method_1_code (1 : Nat) (Option.none : Option Jvm.ClassFile.FieldType) ∈ am_W := am_W_in (am_run_2 (List.mem_of_getElem? (i := 158) rfl)) rfl
theorem wd_2_159 : Jvm.Cond.methodLink "java/lang/Exception" (1 : Nat) ({ cls := "java/lang/Throwable", name := "<init>", desc := "()V" } : Jvm.MethodName) ∈ am_W := am_W_in (am_run_2 (List.mem_of_getElem? (i := 159) rfl)) rfl
theorem wd_2_161 : Jvm.Cond.fieldLink "java/lang/Throwable" (7 : Nat) "java/lang/Throwable" "cause" "Ljava/lang/Throwable;" ∈ am_W := am_W_in (am_run_2 (List.mem_of_getElem? (i := 161) rfl)) rfl
theorem wd_2_162 : Jvm.Cond.fieldLink "java/lang/Throwable" (17 : Nat) "java/lang/Throwable" "stackTrace" "[Ljava/lang/StackTraceElement;" ∈ am_W := am_W_in (am_run_2 (List.mem_of_getElem? (i := 162) rfl)) rfl
theorem wd_2_163 : Jvm.Cond.fieldLink "java/lang/Throwable" (24 : Nat) "java/lang/Throwable" "suppressedExceptions" "Ljava/util/List;" ∈ am_W := am_W_in (am_run_2 (List.mem_of_getElem? (i := 163) rfl)) rfl
theorem wd_2_168 : Jvm.Cond.lays "java/lang/IllegalArgumentException" "java/lang/Throwable" "depth" "I" ∈ am_W := am_W_in (am_run_2 (List.mem_of_getElem? (i := 168) rfl)) rfl
theorem wd_2_171 : Jvm.Cond.superclass "java/lang/IllegalArgumentException" "java/lang/RuntimeException" ∈ am_W := am_W_in (am_run_2 (List.mem_of_getElem? (i := 171) rfl)) rfl
theorem wd_2_172 : Jvm.Cond.methodLink "RoverMinutes" (64 : Nat) ({ cls := "RoverMinutes$Line", name := "hasRoomFor", desc := "(I)Z" } : Jvm.MethodName) ∈ am_W := am_W_in (am_run_2 (List.mem_of_getElem? (i := 172) rfl)) rfl
theorem wd_2_173 : Jvm.Cond.instanceMethod ({ cls := "RoverMinutes$Line", name := "hasRoomFor", desc := "(I)Z" } : Jvm.MethodName) ∈ am_W := am_W_in (am_run_2 (List.mem_of_getElem? (i := 173) rfl)) rfl
theorem wd_2_174 : Jvm.Cond.selects "RoverMinutes$Line" ({ cls := "RoverMinutes$Line", name := "hasRoomFor", desc := "(I)Z" } : Jvm.MethodName) ({ cls := "RoverMinutes$Line", name := "hasRoomFor", desc := "(I)Z" } : Jvm.MethodName) ∈ am_W := am_W_in (am_run_2 (List.mem_of_getElem? (i := 174) rfl)) rfl
theorem wd_2_175 : Jvm.Cond.code ({ cls := "RoverMinutes$Line", name := "hasRoomFor", desc := "(I)Z" } : Jvm.MethodName) prog_4_method_3_code (2 : Nat) (Option.some Jvm.ClassFile.FieldType.boolean) ∈ am_W := am_W_in (am_run_2 (List.mem_of_getElem? (i := 175) rfl)) rfl
theorem wd_2_176 : Jvm.Cond.methodLink "RoverMinutes" (67 : Nat) ({ cls := "RoverMinutes$Line", name := "put", desc := "(C)V" } : Jvm.MethodName) ∈ am_W := am_W_in (am_run_2 (List.mem_of_getElem? (i := 176) rfl)) rfl
theorem wd_2_177 : Jvm.Cond.instanceMethod ({ cls := "RoverMinutes$Line", name := "put", desc := "(C)V" } : Jvm.MethodName) ∈ am_W := am_W_in (am_run_2 (List.mem_of_getElem? (i := 177) rfl)) rfl
theorem wd_2_178 : Jvm.Cond.selects "RoverMinutes$Line" ({ cls := "RoverMinutes$Line", name := "put", desc := "(C)V" } : Jvm.MethodName) ({ cls := "RoverMinutes$Line", name := "put", desc := "(C)V" } : Jvm.MethodName) ∈ am_W := am_W_in (am_run_2 (List.mem_of_getElem? (i := 178) rfl)) rfl
theorem wd_2_179 : Jvm.Cond.code ({ cls := "RoverMinutes$Line", name := "put", desc := "(C)V" } : Jvm.MethodName) prog_4_method_4_code (2 : Nat) (Option.none : Option Jvm.ClassFile.FieldType) ∈ am_W := am_W_in (am_run_2 (List.mem_of_getElem? (i := 179) rfl)) rfl
theorem wd_2_180 : Jvm.Cond.methodLink "RoverMinutesLaw" (76 : Nat) ({ cls := "RoverMinutesLaw", name := "submit", desc := "(LRoverMinutes;[J)I" } : Jvm.MethodName) ∈ am_W := am_W_in (am_run_2 (List.mem_of_getElem? (i := 180) rfl)) rfl
theorem wd_2_181 : Jvm.Cond.static ({ cls := "RoverMinutesLaw", name := "submit", desc := "(LRoverMinutes;[J)I" } : Jvm.MethodName) ∈ am_W := am_W_in (am_run_2 (List.mem_of_getElem? (i := 181) rfl)) rfl
theorem wd_2_182 : Jvm.Cond.codeWith ({ cls := "RoverMinutesLaw", name := "submit", desc := "(LRoverMinutes;[J)I" } : Jvm.MethodName) method_4_code (3 : Nat) (Option.some Jvm.ClassFile.FieldType.int) [((0 : Nat), (8 : Nat), (11 : Nat), (19 : Nat))] ∈ am_W := am_W_in (am_run_2 (List.mem_of_getElem? (i := 182) rfl)) rfl
theorem wd_2_183 : Jvm.Cond.classLink "RoverMinutesLaw" (19 : Nat) "java/lang/IllegalStateException" ∈ am_W := am_W_in (am_run_2 (List.mem_of_getElem? (i := 183) rfl)) rfl
theorem wd_2_184 : Jvm.Cond.methodLink "RoverMinutesLaw" (15 : Nat) ({ cls := "RoverMinutes", name := "submit", desc := "()I" } : Jvm.MethodName) ∈ am_W := am_W_in (am_run_2 (List.mem_of_getElem? (i := 184) rfl)) rfl
theorem wd_2_185 : Jvm.Cond.instanceMethod ({ cls := "RoverMinutes", name := "submit", desc := "()I" } : Jvm.MethodName) ∈ am_W := am_W_in (am_run_2 (List.mem_of_getElem? (i := 185) rfl)) rfl
theorem wd_2_186 : Jvm.Cond.selects "RoverMinutes" ({ cls := "RoverMinutes", name := "submit", desc := "()I" } : Jvm.MethodName) ({ cls := "RoverMinutes", name := "submit", desc := "()I" } : Jvm.MethodName) ∈ am_W := am_W_in (am_run_2 (List.mem_of_getElem? (i := 186) rfl)) rfl
theorem wd_2_187 : Jvm.Cond.code ({ cls := "RoverMinutes", name := "submit", desc := "()I" } : Jvm.MethodName) prog_1_method_3_code (3 : Nat) (Option.some Jvm.ClassFile.FieldType.int) ∈ am_W := am_W_in (am_run_2 (List.mem_of_getElem? (i := 187) rfl)) rfl
theorem wd_2_188 : Jvm.Cond.classLink "RoverMinutes" (71 : Nat) "java/lang/IllegalStateException" ∈ am_W := am_W_in (am_run_2 (List.mem_of_getElem? (i := 188) rfl)) rfl
theorem wd_2_189 : Jvm.Cond.instantiable "java/lang/IllegalStateException" (6 : Nat) ∈ am_W := am_W_in (am_run_2 (List.mem_of_getElem? (i := 189) rfl)) rfl
theorem wd_2_191 : Jvm.Cond.selects "java/lang/IllegalStateException" ({ cls := "java/lang/Throwable", name := "fillInStackTrace", desc := "(I)Ljava/lang/Throwable;" } : Jvm.MethodName) ({ cls := "java/lang/Throwable", name := "fillInStackTrace", desc := "(I)Ljava/lang/Throwable;" } : Jvm.MethodName) ∈ am_W := am_W_in (am_run_2 (List.mem_of_getElem? (i := 191) rfl)) rfl
theorem wd_2_192 : Jvm.Cond.lays "java/lang/IllegalStateException" "java/lang/Throwable" "cause" "Ljava/lang/Throwable;" ∈ am_W := am_W_in (am_run_2 (List.mem_of_getElem? (i := 192) rfl)) rfl
theorem wd_2_193 : Jvm.Cond.lays "java/lang/IllegalStateException" "java/lang/Throwable" "stackTrace" "[Ljava/lang/StackTraceElement;" ∈ am_W := am_W_in (am_run_2 (List.mem_of_getElem? (i := 193) rfl)) rfl
theorem wd_2_194 : Jvm.Cond.lays "java/lang/IllegalStateException" "java/lang/Throwable" "suppressedExceptions" "Ljava/util/List;" ∈ am_W := am_W_in (am_run_2 (List.mem_of_getElem? (i := 194) rfl)) rfl
theorem wd_2_195 : Jvm.Cond.lays "java/lang/IllegalStateException" "java/lang/Throwable" "detailMessage" "Ljava/lang/String;" ∈ am_W := am_W_in (am_run_2 (List.mem_of_getElem? (i := 195) rfl)) rfl
theorem wd_2_196 : Jvm.Cond.lays "java/lang/IllegalStateException" "java/lang/Throwable" "backtrace" "Ljava/lang/Object;" ∈ am_W := am_W_in (am_run_2 (List.mem_of_getElem? (i := 196) rfl)) rfl
theorem wd_2_197 : Jvm.Cond.methodLink "RoverMinutes" (73 : Nat) ({ cls := "java/lang/IllegalStateException", name := "<init>", desc := "()V" } : Jvm.MethodName) ∈ am_W := am_W_in (am_run_2 (List.mem_of_getElem? (i := 197) rfl)) rfl
theorem wd_2_198 : Jvm.Cond.instanceMethod ({ cls := "java/lang/IllegalStateException", name := "<init>", desc := "()V" } : Jvm.MethodName) ∈ am_W := am_W_in (am_run_2 (List.mem_of_getElem? (i := 198) rfl)) rfl
theorem wd_2_199 : Jvm.Cond.code ({ cls := "java/lang/IllegalStateException", name := "<init>", desc := "()V" } : Jvm.MethodName) prog_13_method_1_code (1 : Nat) (Option.none : Option Jvm.ClassFile.FieldType) ∈ am_W := am_W_in (am_run_2 (List.mem_of_getElem? (i := 199) rfl)) rfl
theorem wd_2_200 : Jvm.Cond.methodLink "java/lang/IllegalStateException" (1 : Nat) ({ cls := "java/lang/RuntimeException", name := "<init>", desc := "()V" } : Jvm.MethodName) ∈ am_W := am_W_in (am_run_2 (List.mem_of_getElem? (i := 200) rfl)) rfl
theorem wd_2_201 : Jvm.Cond.lays "java/lang/IllegalStateException" "java/lang/Throwable" "depth" "I" ∈ am_W := am_W_in (am_run_2 (List.mem_of_getElem? (i := 201) rfl)) rfl
theorem wd_2_202 : Jvm.Cond.superclass "java/lang/IllegalStateException" "java/lang/RuntimeException" ∈ am_W := am_W_in (am_run_2 (List.mem_of_getElem? (i := 202) rfl)) rfl
theorem wd_2_203 : Jvm.Cond.methodLink "RoverMinutes" (74 : Nat) ({ cls := "RoverMinutes$PlanReader", name := "read", desc := "(LRoverMinutes$Plan;)I" } : Jvm.MethodName) ∈ am_W := am_W_in (am_run_2 (List.mem_of_getElem? (i := 203) rfl)) rfl
theorem wd_2_204 : Jvm.Cond.instanceMethod ({ cls := "RoverMinutes$PlanReader", name := "read", desc := "(LRoverMinutes$Plan;)I" } : Jvm.MethodName) ∈ am_W := am_W_in (am_run_2 (List.mem_of_getElem? (i := 204) rfl)) rfl
theorem wd_2_205 : Jvm.Cond.selects "RoverMinutes$PlanReader" ({ cls := "RoverMinutes$PlanReader", name := "read", desc := "(LRoverMinutes$Plan;)I" } : Jvm.MethodName) ({ cls := "RoverMinutes$PlanReader", name := "read", desc := "(LRoverMinutes$Plan;)I" } : Jvm.MethodName) ∈ am_W := am_W_in (am_run_2 (List.mem_of_getElem? (i := 205) rfl)) rfl
theorem wd_2_206 : Jvm.Cond.code ({ cls := "RoverMinutes$PlanReader", name := "read", desc := "(LRoverMinutes$Plan;)I" } : Jvm.MethodName) prog_6_method_2_code (4 : Nat) (Option.some Jvm.ClassFile.FieldType.int) ∈ am_W := am_W_in (am_run_2 (List.mem_of_getElem? (i := 206) rfl)) rfl
theorem wd_2_207 : Jvm.Cond.methodLink "RoverMinutes$PlanReader" (25 : Nat) ({ cls := "RoverMinutes$Activity", name := "clear", desc := "()V" } : Jvm.MethodName) ∈ am_W := am_W_in (am_run_2 (List.mem_of_getElem? (i := 207) rfl)) rfl
theorem wd_2_208 : Jvm.Cond.instanceMethod ({ cls := "RoverMinutes$Activity", name := "clear", desc := "()V" } : Jvm.MethodName) ∈ am_W := am_W_in (am_run_2 (List.mem_of_getElem? (i := 208) rfl)) rfl
theorem wd_2_209 : Jvm.Cond.selects "RoverMinutes$Activity" ({ cls := "RoverMinutes$Activity", name := "clear", desc := "()V" } : Jvm.MethodName) ({ cls := "RoverMinutes$Activity", name := "clear", desc := "()V" } : Jvm.MethodName) ∈ am_W := am_W_in (am_run_2 (List.mem_of_getElem? (i := 209) rfl)) rfl
theorem wd_2_210 : Jvm.Cond.code ({ cls := "RoverMinutes$Activity", name := "clear", desc := "()V" } : Jvm.MethodName) prog_2_method_2_code (1 : Nat) (Option.none : Option Jvm.ClassFile.FieldType) ∈ am_W := am_W_in (am_run_2 (List.mem_of_getElem? (i := 210) rfl)) rfl
theorem wd_2_211 : Jvm.Cond.methodLink "RoverMinutes$PlanReader" (30 : Nat) ({ cls := "RoverMinutes$PlanReader", name := "take", desc := "(C)Z" } : Jvm.MethodName) ∈ am_W := am_W_in (am_run_2 (List.mem_of_getElem? (i := 211) rfl)) rfl
theorem wd_2_213 : Jvm.Cond.instanceMethod ({ cls := "RoverMinutes$PlanReader", name := "take", desc := "(C)Z" } : Jvm.MethodName) ∈ am_W := am_W_in (am_run_2 (List.mem_of_getElem? (i := 213) rfl)) rfl
theorem wd_2_214 : Jvm.Cond.code ({ cls := "RoverMinutes$PlanReader", name := "take", desc := "(C)Z" } : Jvm.MethodName) prog_6_method_7_code (2 : Nat) (Option.some Jvm.ClassFile.FieldType.boolean) ∈ am_W := am_W_in (am_run_2 (List.mem_of_getElem? (i := 214) rfl)) rfl
theorem wd_2_215 : Jvm.Cond.methodLink "RoverMinutes$PlanReader" (34 : Nat) ({ cls := "RoverMinutes$PlanReader", name := "readTimes", desc := "(LRoverMinutes$Activity;C)Z" } : Jvm.MethodName) ∈ am_W := am_W_in (am_run_2 (List.mem_of_getElem? (i := 215) rfl)) rfl
theorem wd_2_217 : Jvm.Cond.instanceMethod ({ cls := "RoverMinutes$PlanReader", name := "readTimes", desc := "(LRoverMinutes$Activity;C)Z" } : Jvm.MethodName) ∈ am_W := am_W_in (am_run_2 (List.mem_of_getElem? (i := 217) rfl)) rfl
theorem wd_2_218 : Jvm.Cond.code ({ cls := "RoverMinutes$PlanReader", name := "readTimes", desc := "(LRoverMinutes$Activity;C)Z" } : Jvm.MethodName) prog_6_method_3_code (3 : Nat) (Option.some Jvm.ClassFile.FieldType.boolean) ∈ am_W := am_W_in (am_run_2 (List.mem_of_getElem? (i := 218) rfl)) rfl
theorem wd_2_219 : Jvm.Cond.methodLink "RoverMinutes$PlanReader" (50 : Nat) ({ cls := "RoverMinutes$PlanReader", name := "takeNumber", desc := "()I" } : Jvm.MethodName) ∈ am_W := am_W_in (am_run_2 (List.mem_of_getElem? (i := 219) rfl)) rfl
theorem wd_2_221 : Jvm.Cond.instanceMethod ({ cls := "RoverMinutes$PlanReader", name := "takeNumber", desc := "()I" } : Jvm.MethodName) ∈ am_W := am_W_in (am_run_2 (List.mem_of_getElem? (i := 221) rfl)) rfl
theorem wd_2_222 : Jvm.Cond.code ({ cls := "RoverMinutes$PlanReader", name := "takeNumber", desc := "()I" } : Jvm.MethodName) prog_6_method_8_code (3 : Nat) (Option.some Jvm.ClassFile.FieldType.int) ∈ am_W := am_W_in (am_run_2 (List.mem_of_getElem? (i := 222) rfl)) rfl
theorem wd_2_223 : Jvm.Cond.methodLink "RoverMinutes$PlanReader" (100 : Nat) ({ cls := "RoverMinutes$PlanReader", name := "takeDigit", desc := "()I" } : Jvm.MethodName) ∈ am_W := am_W_in (am_run_2 (List.mem_of_getElem? (i := 223) rfl)) rfl
theorem wd_2_225 : Jvm.Cond.instanceMethod ({ cls := "RoverMinutes$PlanReader", name := "takeDigit", desc := "()I" } : Jvm.MethodName) ∈ am_W := am_W_in (am_run_2 (List.mem_of_getElem? (i := 225) rfl)) rfl
theorem wd_2_226 : Jvm.Cond.code ({ cls := "RoverMinutes$PlanReader", name := "takeDigit", desc := "()I" } : Jvm.MethodName) prog_6_method_9_code (2 : Nat) (Option.some Jvm.ClassFile.FieldType.int) ∈ am_W := am_W_in (am_run_2 (List.mem_of_getElem? (i := 226) rfl)) rfl
theorem wd_2_227 : Jvm.Cond.methodLink "RoverMinutes$PlanReader" (38 : Nat) ({ cls := "RoverMinutes$PlanReader", name := "readOptions", desc := "(LRoverMinutes$Activity;)Z" } : Jvm.MethodName) ∈ am_W := am_W_in (am_run_2 (List.mem_of_getElem? (i := 227) rfl)) rfl
theorem wd_2_229 : Jvm.Cond.instanceMethod ({ cls := "RoverMinutes$PlanReader", name := "readOptions", desc := "(LRoverMinutes$Activity;)Z" } : Jvm.MethodName) ∈ am_W := am_W_in (am_run_2 (List.mem_of_getElem? (i := 229) rfl)) rfl
theorem wd_2_230 : Jvm.Cond.code ({ cls := "RoverMinutes$PlanReader", name := "readOptions", desc := "(LRoverMinutes$Activity;)Z" } : Jvm.MethodName) prog_6_method_4_code (6 : Nat) (Option.some Jvm.ClassFile.FieldType.boolean) ∈ am_W := am_W_in (am_run_2 (List.mem_of_getElem? (i := 230) rfl)) rfl
theorem wd_2_232 : Jvm.Cond.methodLink "RoverMinutes$PlanReader" (66 : Nat) ({ cls := "java/lang/String", name := "indexOf", desc := "(I)I" } : Jvm.MethodName) ∈ am_W := am_W_in (am_run_2 (List.mem_of_getElem? (i := 232) rfl)) rfl
theorem wd_2_233 : Jvm.Cond.instanceMethod ({ cls := "java/lang/String", name := "indexOf", desc := "(I)I" } : Jvm.MethodName) ∈ am_W := am_W_in (am_run_2 (List.mem_of_getElem? (i := 233) rfl)) rfl
theorem wd_2_234 : Jvm.Cond.selects "java/lang/String" ({ cls := "java/lang/String", name := "indexOf", desc := "(I)I" } : Jvm.MethodName) ({ cls := "java/lang/String", name := "indexOf", desc := "(I)I" } : Jvm.MethodName) ∈ am_W := am_W_in (am_run_2 (List.mem_of_getElem? (i := 234) rfl)) rfl
theorem wd_2_235 : Jvm.Cond.code ({ cls := "java/lang/String", name := "indexOf", desc := "(I)I" } : Jvm.MethodName) prog_17_method_79_code (2 : Nat) (Option.some Jvm.ClassFile.FieldType.int) ∈ am_W := am_W_in (am_run_2 (List.mem_of_getElem? (i := 235) rfl)) rfl
theorem wd_2_236 : Jvm.Cond.methodLink "java/lang/String" (633 : Nat) ({ cls := "java/lang/String", name := "indexOf", desc := "(II)I" } : Jvm.MethodName) ∈ am_W := am_W_in (am_run_2 (List.mem_of_getElem? (i := 236) rfl)) rfl
theorem wd_2_237 : Jvm.Cond.instanceMethod ({ cls := "java/lang/String", name := "indexOf", desc := "(II)I" } : Jvm.MethodName) ∈ am_W := am_W_in (am_run_2 (List.mem_of_getElem? (i := 237) rfl)) rfl
theorem wd_2_238 : Jvm.Cond.selects "java/lang/String" ({ cls := "java/lang/String", name := "indexOf", desc := "(II)I" } : Jvm.MethodName) ({ cls := "java/lang/String", name := "indexOf", desc := "(II)I" } : Jvm.MethodName) ∈ am_W := am_W_in (am_run_2 (List.mem_of_getElem? (i := 238) rfl)) rfl
theorem wd_2_239 : Jvm.Cond.code ({ cls := "java/lang/String", name := "indexOf", desc := "(II)I" } : Jvm.MethodName) prog_17_method_80_code (3 : Nat) (Option.some Jvm.ClassFile.FieldType.int) ∈ am_W := am_W_in (am_run_2 (List.mem_of_getElem? (i := 239) rfl)) rfl
theorem wd_3_0 : Jvm.Cond.methodLink "java/lang/String" (492 : Nat) ({ cls := "java/lang/String", name := "isLatin1", desc := "()Z" } : Jvm.MethodName) ∈ am_W := am_W_in (am_run_3 (List.mem_of_getElem? (i := 0) rfl)) rfl
theorem wd_3_1 : Jvm.Cond.instanceMethod ({ cls := "java/lang/String", name := "isLatin1", desc := "()Z" } : Jvm.MethodName) ∈ am_W := am_W_in (am_run_3 (List.mem_of_getElem? (i := 1) rfl)) rfl
theorem wd_3_2 : Jvm.Cond.selects "java/lang/String" ({ cls := "java/lang/String", name := "isLatin1", desc := "()Z" } : Jvm.MethodName) ({ cls := "java/lang/String", name := "isLatin1", desc := "()Z" } : Jvm.MethodName) ∈ am_W := am_W_in (am_run_3 (List.mem_of_getElem? (i := 2) rfl)) rfl
theorem wd_3_3 : Jvm.Cond.code ({ cls := "java/lang/String", name := "isLatin1", desc := "()Z" } : Jvm.MethodName) prog_17_method_154_code (1 : Nat) (Option.some Jvm.ClassFile.FieldType.boolean) ∈ am_W := am_W_in (am_run_3 (List.mem_of_getElem? (i := 3) rfl)) rfl
theorem wd_3_4 : Jvm.Cond.fieldLink "java/lang/String" (38 : Nat) "java/lang/String" "COMPACT_STRINGS" "Z" ∈ am_W := am_W_in (am_run_3 (List.mem_of_getElem? (i := 4) rfl)) rfl
theorem wd_3_6 : Jvm.Cond.methodLink "java/lang/String" (505 : Nat) ({ cls := "java/lang/String", name := "length", desc := "()I" } : Jvm.MethodName) ∈ am_W := am_W_in (am_run_3 (List.mem_of_getElem? (i := 6) rfl)) rfl
theorem wd_3_7 : Jvm.Cond.instanceMethod ({ cls := "java/lang/String", name := "length", desc := "()I" } : Jvm.MethodName) ∈ am_W := am_W_in (am_run_3 (List.mem_of_getElem? (i := 7) rfl)) rfl
theorem wd_3_8 : Jvm.Cond.selects "java/lang/String" ({ cls := "java/lang/String", name := "length", desc := "()I" } : Jvm.MethodName) ({ cls := "java/lang/String", name := "length", desc := "()I" } : Jvm.MethodName) ∈ am_W := am_W_in (am_run_3 (List.mem_of_getElem? (i := 8) rfl)) rfl
theorem wd_3_9 : Jvm.Cond.code ({ cls := "java/lang/String", name := "length", desc := "()I" } : Jvm.MethodName) prog_17_method_54_code (1 : Nat) (Option.some Jvm.ClassFile.FieldType.int) ∈ am_W := am_W_in (am_run_3 (List.mem_of_getElem? (i := 9) rfl)) rfl
theorem wd_3_10 : Jvm.Cond.methodLink "java/lang/String" (335 : Nat) ({ cls := "java/lang/String", name := "coder", desc := "()B" } : Jvm.MethodName) ∈ am_W := am_W_in (am_run_3 (List.mem_of_getElem? (i := 10) rfl)) rfl
theorem wd_3_11 : Jvm.Cond.instanceMethod ({ cls := "java/lang/String", name := "coder", desc := "()B" } : Jvm.MethodName) ∈ am_W := am_W_in (am_run_3 (List.mem_of_getElem? (i := 11) rfl)) rfl
theorem wd_3_12 : Jvm.Cond.selects "java/lang/String" ({ cls := "java/lang/String", name := "coder", desc := "()B" } : Jvm.MethodName) ({ cls := "java/lang/String", name := "coder", desc := "()B" } : Jvm.MethodName) ∈ am_W := am_W_in (am_run_3 (List.mem_of_getElem? (i := 12) rfl)) rfl
theorem wd_3_13 : Jvm.Cond.code ({ cls := "java/lang/String", name := "coder", desc := "()B" } : Jvm.MethodName) prog_17_method_152_code (1 : Nat) (Option.some Jvm.ClassFile.FieldType.byte) ∈ am_W := am_W_in (am_run_3 (List.mem_of_getElem? (i := 13) rfl)) rfl
theorem wd_3_14 : Jvm.Cond.methodLink "java/lang/String" (637 : Nat) ({ cls := "java/lang/StringLatin1", name := "indexOf", desc := "([BIII)I" } : Jvm.MethodName) ∈ am_W := am_W_in (am_run_3 (List.mem_of_getElem? (i := 14) rfl)) rfl
theorem wd_3_15 : Jvm.Cond.static ({ cls := "java/lang/StringLatin1", name := "indexOf", desc := "([BIII)I" } : Jvm.MethodName) ∈ am_W := am_W_in (am_run_3 (List.mem_of_getElem? (i := 15) rfl)) rfl
theorem wd_3_16 : Jvm.Cond.code ({ cls := "java/lang/StringLatin1", name := "indexOf", desc := "([BIII)I" } : Jvm.MethodName) prog_18_method_22_code (4 : Nat) (Option.some Jvm.ClassFile.FieldType.int) ∈ am_W := am_W_in (am_run_3 (List.mem_of_getElem? (i := 16) rfl)) rfl
theorem wd_3_17 : Jvm.Cond.methodLink "java/lang/StringLatin1" (88 : Nat) ({ cls := "java/lang/StringLatin1", name := "canEncode", desc := "(I)Z" } : Jvm.MethodName) ∈ am_W := am_W_in (am_run_3 (List.mem_of_getElem? (i := 17) rfl)) rfl
theorem wd_3_18 : Jvm.Cond.static ({ cls := "java/lang/StringLatin1", name := "canEncode", desc := "(I)Z" } : Jvm.MethodName) ∈ am_W := am_W_in (am_run_3 (List.mem_of_getElem? (i := 18) rfl)) rfl
theorem wd_3_19 : Jvm.Cond.code ({ cls := "java/lang/StringLatin1", name := "canEncode", desc := "(I)Z" } : Jvm.MethodName) prog_18_method_4_code (1 : Nat) (Option.some Jvm.ClassFile.FieldType.boolean) ∈ am_W := am_W_in (am_run_3 (List.mem_of_getElem? (i := 19) rfl)) rfl
theorem wd_3_20 : Jvm.Cond.methodLink "java/lang/StringLatin1" (92 : Nat) ({ cls := "java/lang/Math", name := "max", desc := "(II)I" } : Jvm.MethodName) ∈ am_W := am_W_in (am_run_3 (List.mem_of_getElem? (i := 20) rfl)) rfl
theorem wd_3_21 : Jvm.Cond.methodLink "java/lang/StringLatin1" (38 : Nat) ({ cls := "java/lang/Math", name := "min", desc := "(II)I" } : Jvm.MethodName) ∈ am_W := am_W_in (am_run_3 (List.mem_of_getElem? (i := 21) rfl)) rfl
theorem wd_3_22 : Jvm.Cond.methodLink "java/lang/StringLatin1" (95 : Nat) ({ cls := "java/lang/StringLatin1", name := "indexOfChar", desc := "([BIII)I" } : Jvm.MethodName) ∈ am_W := am_W_in (am_run_3 (List.mem_of_getElem? (i := 22) rfl)) rfl
theorem wd_3_23 : Jvm.Cond.static ({ cls := "java/lang/StringLatin1", name := "indexOfChar", desc := "([BIII)I" } : Jvm.MethodName) ∈ am_W := am_W_in (am_run_3 (List.mem_of_getElem? (i := 23) rfl)) rfl
theorem wd_3_24 : Jvm.Cond.code ({ cls := "java/lang/StringLatin1", name := "indexOfChar", desc := "([BIII)I" } : Jvm.MethodName) prog_18_method_23_code (6 : Nat) (Option.some Jvm.ClassFile.FieldType.int) ∈ am_W := am_W_in (am_run_3 (List.mem_of_getElem? (i := 24) rfl)) rfl
theorem wd_3_25 : Jvm.Cond.methodLink "java/lang/String" (640 : Nat) ({ cls := "java/lang/StringUTF16", name := "indexOf", desc := "([BIII)I" } : Jvm.MethodName) ∈ am_W := am_W_in (am_run_3 (List.mem_of_getElem? (i := 25) rfl)) rfl
theorem wd_3_26 : Jvm.Cond.static ({ cls := "java/lang/StringUTF16", name := "indexOf", desc := "([BIII)I" } : Jvm.MethodName) ∈ am_W := am_W_in (am_run_3 (List.mem_of_getElem? (i := 26) rfl)) rfl
theorem wd_3_27 : Jvm.Cond.code ({ cls := "java/lang/StringUTF16", name := "indexOf", desc := "([BIII)I" } : Jvm.MethodName) prog_19_method_40_code (4 : Nat) (Option.some Jvm.ClassFile.FieldType.int) ∈ am_W := am_W_in (am_run_3 (List.mem_of_getElem? (i := 27) rfl)) rfl
theorem wd_3_28 : Jvm.Cond.methodLink "java/lang/StringUTF16" (224 : Nat) ({ cls := "java/lang/Math", name := "max", desc := "(II)I" } : Jvm.MethodName) ∈ am_W := am_W_in (am_run_3 (List.mem_of_getElem? (i := 28) rfl)) rfl
theorem wd_3_29 : Jvm.Cond.methodLink "java/lang/StringUTF16" (183 : Nat) ({ cls := "java/lang/Math", name := "min", desc := "(II)I" } : Jvm.MethodName) ∈ am_W := am_W_in (am_run_3 (List.mem_of_getElem? (i := 29) rfl)) rfl
theorem wd_3_30 : Jvm.Cond.constant "java/lang/StringUTF16" (227 : Nat) (65536 : Int32) ∈ am_W := am_W_in (am_run_3 (List.mem_of_getElem? (i := 30) rfl)) rfl
theorem wd_3_31 : Jvm.Cond.methodLink "java/lang/StringUTF16" (228 : Nat) ({ cls := "java/lang/StringUTF16", name := "indexOfChar", desc := "([BIII)I" } : Jvm.MethodName) ∈ am_W := am_W_in (am_run_3 (List.mem_of_getElem? (i := 31) rfl)) rfl
theorem wd_3_32 : Jvm.Cond.static ({ cls := "java/lang/StringUTF16", name := "indexOfChar", desc := "([BIII)I" } : Jvm.MethodName) ∈ am_W := am_W_in (am_run_3 (List.mem_of_getElem? (i := 32) rfl)) rfl
theorem wd_3_33 : Jvm.Cond.code ({ cls := "java/lang/StringUTF16", name := "indexOfChar", desc := "([BIII)I" } : Jvm.MethodName) prog_19_method_47_code (4 : Nat) (Option.some Jvm.ClassFile.FieldType.int) ∈ am_W := am_W_in (am_run_3 (List.mem_of_getElem? (i := 33) rfl)) rfl
theorem wd_3_34 : Jvm.Cond.methodLink "java/lang/StringUTF16" (96 : Nat) ({ cls := "java/lang/StringUTF16", name := "checkBoundsBeginEnd", desc := "(II[B)V" } : Jvm.MethodName) ∈ am_W := am_W_in (am_run_3 (List.mem_of_getElem? (i := 34) rfl)) rfl
theorem wd_3_35 : Jvm.Cond.static ({ cls := "java/lang/StringUTF16", name := "checkBoundsBeginEnd", desc := "(II[B)V" } : Jvm.MethodName) ∈ am_W := am_W_in (am_run_3 (List.mem_of_getElem? (i := 35) rfl)) rfl
theorem wd_3_36 : Jvm.Cond.code ({ cls := "java/lang/StringUTF16", name := "checkBoundsBeginEnd", desc := "(II[B)V" } : Jvm.MethodName) prog_19_method_93_code (3 : Nat) (Option.none : Option Jvm.ClassFile.FieldType) ∈ am_W := am_W_in (am_run_3 (List.mem_of_getElem? (i := 36) rfl)) rfl
theorem wd_3_37 : Jvm.Cond.methodLink "java/lang/StringUTF16" (48 : Nat) ({ cls := "java/lang/StringUTF16", name := "length", desc := "([B)I" } : Jvm.MethodName) ∈ am_W := am_W_in (am_run_3 (List.mem_of_getElem? (i := 37) rfl)) rfl
theorem wd_3_38 : Jvm.Cond.static ({ cls := "java/lang/StringUTF16", name := "length", desc := "([B)I" } : Jvm.MethodName) ∈ am_W := am_W_in (am_run_3 (List.mem_of_getElem? (i := 38) rfl)) rfl
theorem wd_3_39 : Jvm.Cond.code ({ cls := "java/lang/StringUTF16", name := "length", desc := "([B)I" } : Jvm.MethodName) prog_19_method_6_code (1 : Nat) (Option.some Jvm.ClassFile.FieldType.int) ∈ am_W := am_W_in (am_run_3 (List.mem_of_getElem? (i := 39) rfl)) rfl
theorem wd_3_40 : Jvm.Cond.methodLink "java/lang/StringUTF16" (241 : Nat) ({ cls := "java/lang/String", name := "checkBoundsBeginEnd", desc := "(III)V" } : Jvm.MethodName) ∈ am_W := am_W_in (am_run_3 (List.mem_of_getElem? (i := 40) rfl)) rfl
theorem wd_3_41 : Jvm.Cond.static ({ cls := "java/lang/String", name := "checkBoundsBeginEnd", desc := "(III)V" } : Jvm.MethodName) ∈ am_W := am_W_in (am_run_3 (List.mem_of_getElem? (i := 41) rfl)) rfl
theorem wd_3_42 : Jvm.Cond.code ({ cls := "java/lang/String", name := "checkBoundsBeginEnd", desc := "(III)V" } : Jvm.MethodName) prog_17_method_158_code (3 : Nat) (Option.none : Option Jvm.ClassFile.FieldType) ∈ am_W := am_W_in (am_run_3 (List.mem_of_getElem? (i := 42) rfl)) rfl
theorem wd_3_43 : Jvm.Cond.fieldLink "java/lang/String" (1053 : Nat) "jdk/internal/util/Preconditions" "SIOOBE_FORMATTER" "Ljava/util/function/BiFunction;" ∈ am_W := am_W_in (am_run_3 (List.mem_of_getElem? (i := 43) rfl)) rfl
theorem wd_3_45 : Jvm.Cond.methodLink "java/lang/String" (1062 : Nat) ({ cls := "jdk/internal/util/Preconditions", name := "checkFromToIndex", desc := "(IIILjava/util/function/BiFunction;)I" } : Jvm.MethodName) ∈ am_W := am_W_in (am_run_3 (List.mem_of_getElem? (i := 45) rfl)) rfl
theorem wd_3_46 : Jvm.Cond.static ({ cls := "jdk/internal/util/Preconditions", name := "checkFromToIndex", desc := "(IIILjava/util/function/BiFunction;)I" } : Jvm.MethodName) ∈ am_W := am_W_in (am_run_3 (List.mem_of_getElem? (i := 46) rfl)) rfl
theorem wd_3_47 : Jvm.Cond.code ({ cls := "jdk/internal/util/Preconditions", name := "checkFromToIndex", desc := "(IIILjava/util/function/BiFunction;)I" } : Jvm.MethodName) prog_21_method_12_code (4 : Nat) (Option.some Jvm.ClassFile.FieldType.int) ∈ am_W := am_W_in (am_run_3 (List.mem_of_getElem? (i := 47) rfl)) rfl
theorem wd_3_48 : Jvm.Cond.methodLink "java/lang/StringUTF16" (244 : Nat) ({ cls := "java/lang/StringUTF16", name := "indexOfCharUnsafe", desc := "([BIII)I" } : Jvm.MethodName) ∈ am_W := am_W_in (am_run_3 (List.mem_of_getElem? (i := 48) rfl)) rfl
theorem wd_3_49 : Jvm.Cond.static ({ cls := "java/lang/StringUTF16", name := "indexOfCharUnsafe", desc := "([BIII)I" } : Jvm.MethodName) ∈ am_W := am_W_in (am_run_3 (List.mem_of_getElem? (i := 49) rfl)) rfl
theorem wd_3_50 : Jvm.Cond.code ({ cls := "java/lang/StringUTF16", name := "indexOfCharUnsafe", desc := "([BIII)I" } : Jvm.MethodName) prog_19_method_48_code (5 : Nat) (Option.some Jvm.ClassFile.FieldType.int) ∈ am_W := am_W_in (am_run_3 (List.mem_of_getElem? (i := 50) rfl)) rfl
theorem wd_3_51 : Jvm.Cond.methodLink "java/lang/StringUTF16" (71 : Nat) ({ cls := "java/lang/StringUTF16", name := "getChar", desc := "([BI)C" } : Jvm.MethodName) ∈ am_W := am_W_in (am_run_3 (List.mem_of_getElem? (i := 51) rfl)) rfl
theorem wd_3_52 : Jvm.Cond.static ({ cls := "java/lang/StringUTF16", name := "getChar", desc := "([BI)C" } : Jvm.MethodName) ∈ am_W := am_W_in (am_run_3 (List.mem_of_getElem? (i := 52) rfl)) rfl
theorem wd_3_53 : Jvm.Cond.code ({ cls := "java/lang/StringUTF16", name := "getChar", desc := "([BI)C" } : Jvm.MethodName) prog_19_method_5_code (2 : Nat) (Option.some Jvm.ClassFile.FieldType.char) ∈ am_W := am_W_in (am_run_3 (List.mem_of_getElem? (i := 53) rfl)) rfl
theorem wd_3_54 : Jvm.Cond.fieldLink "java/lang/StringUTF16" (44 : Nat) "java/lang/StringUTF16" "$assertionsDisabled" "Z" ∈ am_W := am_W_in (am_run_3 (List.mem_of_getElem? (i := 54) rfl)) rfl
theorem wd_3_56 : Jvm.Cond.fieldLink "java/lang/StringUTF16" (59 : Nat) "java/lang/StringUTF16" "HI_BYTE_SHIFT" "I" ∈ am_W := am_W_in (am_run_3 (List.mem_of_getElem? (i := 56) rfl)) rfl
theorem wd_3_58 : Jvm.Cond.fieldLink "java/lang/StringUTF16" (63 : Nat) "java/lang/StringUTF16" "LO_BYTE_SHIFT" "I" ∈ am_W := am_W_in (am_run_3 (List.mem_of_getElem? (i := 58) rfl)) rfl
theorem wd_3_60 : Jvm.Cond.methodLink "java/lang/StringUTF16" (232 : Nat) ({ cls := "java/lang/StringUTF16", name := "indexOfSupplementary", desc := "([BIII)I" } : Jvm.MethodName) ∈ am_W := am_W_in (am_run_3 (List.mem_of_getElem? (i := 60) rfl)) rfl
theorem wd_3_61 : Jvm.Cond.static ({ cls := "java/lang/StringUTF16", name := "indexOfSupplementary", desc := "([BIII)I" } : Jvm.MethodName) ∈ am_W := am_W_in (am_run_3 (List.mem_of_getElem? (i := 61) rfl)) rfl
theorem wd_3_62 : Jvm.Cond.code ({ cls := "java/lang/StringUTF16", name := "indexOfSupplementary", desc := "([BIII)I" } : Jvm.MethodName) prog_19_method_49_code (7 : Nat) (Option.some Jvm.ClassFile.FieldType.int) ∈ am_W := am_W_in (am_run_3 (List.mem_of_getElem? (i := 62) rfl)) rfl
theorem wd_3_63 : Jvm.Cond.methodLink "java/lang/StringUTF16" (164 : Nat) ({ cls := "java/lang/Character", name := "isValidCodePoint", desc := "(I)Z" } : Jvm.MethodName) ∈ am_W := am_W_in (am_run_3 (List.mem_of_getElem? (i := 63) rfl)) rfl
theorem wd_3_64 : Jvm.Cond.static ({ cls := "java/lang/Character", name := "isValidCodePoint", desc := "(I)Z" } : Jvm.MethodName) ∈ am_W := am_W_in (am_run_3 (List.mem_of_getElem? (i := 64) rfl)) rfl
theorem wd_3_65 : Jvm.Cond.code ({ cls := "java/lang/Character", name := "isValidCodePoint", desc := "(I)Z" } : Jvm.MethodName) prog_10_method_11_code (2 : Nat) (Option.some Jvm.ClassFile.FieldType.boolean) ∈ am_W := am_W_in (am_run_3 (List.mem_of_getElem? (i := 65) rfl)) rfl
theorem wd_3_66 : Jvm.Cond.methodLink "java/lang/StringUTF16" (157 : Nat) ({ cls := "java/lang/Character", name := "highSurrogate", desc := "(I)C" } : Jvm.MethodName) ∈ am_W := am_W_in (am_run_3 (List.mem_of_getElem? (i := 66) rfl)) rfl
theorem wd_3_67 : Jvm.Cond.static ({ cls := "java/lang/Character", name := "highSurrogate", desc := "(I)C" } : Jvm.MethodName) ∈ am_W := am_W_in (am_run_3 (List.mem_of_getElem? (i := 67) rfl)) rfl
theorem wd_3_68 : Jvm.Cond.code ({ cls := "java/lang/Character", name := "highSurrogate", desc := "(I)C" } : Jvm.MethodName) prog_10_method_28_code (1 : Nat) (Option.some Jvm.ClassFile.FieldType.char) ∈ am_W := am_W_in (am_run_3 (List.mem_of_getElem? (i := 68) rfl)) rfl
theorem wd_3_69 : Jvm.Cond.constant "java/lang/Character" (110 : Nat) (55232 : Int32) ∈ am_W := am_W_in (am_run_3 (List.mem_of_getElem? (i := 69) rfl)) rfl
theorem wd_3_70 : Jvm.Cond.methodLink "java/lang/StringUTF16" (161 : Nat) ({ cls := "java/lang/Character", name := "lowSurrogate", desc := "(I)C" } : Jvm.MethodName) ∈ am_W := am_W_in (am_run_3 (List.mem_of_getElem? (i := 70) rfl)) rfl
theorem wd_3_71 : Jvm.Cond.static ({ cls := "java/lang/Character", name := "lowSurrogate", desc := "(I)C" } : Jvm.MethodName) ∈ am_W := am_W_in (am_run_3 (List.mem_of_getElem? (i := 71) rfl)) rfl
theorem wd_3_72 : Jvm.Cond.code ({ cls := "java/lang/Character", name := "lowSurrogate", desc := "(I)C" } : Jvm.MethodName) prog_10_method_29_code (1 : Nat) (Option.some Jvm.ClassFile.FieldType.char) ∈ am_W := am_W_in (am_run_3 (List.mem_of_getElem? (i := 72) rfl)) rfl
theorem wd_3_73 : Jvm.Cond.constant "java/lang/Character" (76 : Nat) (56320 : Int32) ∈ am_W := am_W_in (am_run_3 (List.mem_of_getElem? (i := 73) rfl)) rfl
theorem wd_3_74 : Jvm.Cond.methodLink "RoverMinutes$PlanReader" (72 : Nat) ({ cls := "RoverMinutes$PlanReader", name := "readValue", desc := "(LRoverMinutes$Activity;I)Z" } : Jvm.MethodName) ∈ am_W := am_W_in (am_run_3 (List.mem_of_getElem? (i := 74) rfl)) rfl
theorem wd_3_76 : Jvm.Cond.instanceMethod ({ cls := "RoverMinutes$PlanReader", name := "readValue", desc := "(LRoverMinutes$Activity;I)Z" } : Jvm.MethodName) ∈ am_W := am_W_in (am_run_3 (List.mem_of_getElem? (i := 76) rfl)) rfl
theorem wd_3_77 : Jvm.Cond.code ({ cls := "RoverMinutes$PlanReader", name := "readValue", desc := "(LRoverMinutes$Activity;I)Z" } : Jvm.MethodName) prog_6_method_5_code (4 : Nat) (Option.some Jvm.ClassFile.FieldType.boolean) ∈ am_W := am_W_in (am_run_3 (List.mem_of_getElem? (i := 77) rfl)) rfl
theorem wd_3_78 : Jvm.Cond.methodLink "RoverMinutes$PlanReader" (76 : Nat) ({ cls := "RoverMinutes$PlanReader", name := "readLink", desc := "(LRoverMinutes$Activity;C)Z" } : Jvm.MethodName) ∈ am_W := am_W_in (am_run_3 (List.mem_of_getElem? (i := 78) rfl)) rfl
theorem wd_3_80 : Jvm.Cond.instanceMethod ({ cls := "RoverMinutes$PlanReader", name := "readLink", desc := "(LRoverMinutes$Activity;C)Z" } : Jvm.MethodName) ∈ am_W := am_W_in (am_run_3 (List.mem_of_getElem? (i := 80) rfl)) rfl
theorem wd_3_81 : Jvm.Cond.code ({ cls := "RoverMinutes$PlanReader", name := "readLink", desc := "(LRoverMinutes$Activity;C)Z" } : Jvm.MethodName) prog_6_method_6_code (4 : Nat) (Option.some Jvm.ClassFile.FieldType.boolean) ∈ am_W := am_W_in (am_run_3 (List.mem_of_getElem? (i := 81) rfl)) rfl
theorem wd_3_82 : Jvm.Cond.methodLink "RoverMinutes" (78 : Nat) ({ cls := "RoverMinutes$Line", name := "clear", desc := "()V" } : Jvm.MethodName) ∈ am_W := am_W_in (am_run_3 (List.mem_of_getElem? (i := 82) rfl)) rfl
theorem wd_3_83 : Jvm.Cond.instanceMethod ({ cls := "RoverMinutes$Line", name := "clear", desc := "()V" } : Jvm.MethodName) ∈ am_W := am_W_in (am_run_3 (List.mem_of_getElem? (i := 83) rfl)) rfl
theorem wd_3_84 : Jvm.Cond.selects "RoverMinutes$Line" ({ cls := "RoverMinutes$Line", name := "clear", desc := "()V" } : Jvm.MethodName) ({ cls := "RoverMinutes$Line", name := "clear", desc := "()V" } : Jvm.MethodName) ∈ am_W := am_W_in (am_run_3 (List.mem_of_getElem? (i := 84) rfl)) rfl
theorem wd_3_85 : Jvm.Cond.code ({ cls := "RoverMinutes$Line", name := "clear", desc := "()V" } : Jvm.MethodName) prog_4_method_5_code (1 : Nat) (Option.none : Option Jvm.ClassFile.FieldType) ∈ am_W := am_W_in (am_run_3 (List.mem_of_getElem? (i := 85) rfl)) rfl
theorem wd_3_86 : Jvm.Cond.methodLink "RoverMinutes" (81 : Nat) ({ cls := "RoverMinutes$Plan", name := "findUnfit", desc := "()I" } : Jvm.MethodName) ∈ am_W := am_W_in (am_run_3 (List.mem_of_getElem? (i := 86) rfl)) rfl
theorem wd_3_87 : Jvm.Cond.instanceMethod ({ cls := "RoverMinutes$Plan", name := "findUnfit", desc := "()I" } : Jvm.MethodName) ∈ am_W := am_W_in (am_run_3 (List.mem_of_getElem? (i := 87) rfl)) rfl
theorem wd_3_88 : Jvm.Cond.selects "RoverMinutes$Plan" ({ cls := "RoverMinutes$Plan", name := "findUnfit", desc := "()I" } : Jvm.MethodName) ({ cls := "RoverMinutes$Plan", name := "findUnfit", desc := "()I" } : Jvm.MethodName) ∈ am_W := am_W_in (am_run_3 (List.mem_of_getElem? (i := 88) rfl)) rfl
theorem wd_3_89 : Jvm.Cond.code ({ cls := "RoverMinutes$Plan", name := "findUnfit", desc := "()I" } : Jvm.MethodName) prog_5_method_4_code (2 : Nat) (Option.some Jvm.ClassFile.FieldType.int) ∈ am_W := am_W_in (am_run_3 (List.mem_of_getElem? (i := 89) rfl)) rfl
theorem wd_3_90 : Jvm.Cond.methodLink "RoverMinutes$Plan" (23 : Nat) ({ cls := "RoverMinutes$Plan", name := "saysWrong", desc := "(I)Z" } : Jvm.MethodName) ∈ am_W := am_W_in (am_run_3 (List.mem_of_getElem? (i := 90) rfl)) rfl
theorem wd_3_92 : Jvm.Cond.instanceMethod ({ cls := "RoverMinutes$Plan", name := "saysWrong", desc := "(I)Z" } : Jvm.MethodName) ∈ am_W := am_W_in (am_run_3 (List.mem_of_getElem? (i := 92) rfl)) rfl
theorem wd_3_93 : Jvm.Cond.code ({ cls := "RoverMinutes$Plan", name := "saysWrong", desc := "(I)Z" } : Jvm.MethodName) prog_5_method_5_code (4 : Nat) (Option.some Jvm.ClassFile.FieldType.boolean) ∈ am_W := am_W_in (am_run_3 (List.mem_of_getElem? (i := 93) rfl)) rfl
theorem wd_3_94 : Jvm.Cond.methodLink "RoverMinutes$Plan" (27 : Nat) ({ cls := "RoverMinutes$Plan", name := "isInRing", desc := "(I)Z" } : Jvm.MethodName) ∈ am_W := am_W_in (am_run_3 (List.mem_of_getElem? (i := 94) rfl)) rfl
theorem wd_3_96 : Jvm.Cond.instanceMethod ({ cls := "RoverMinutes$Plan", name := "isInRing", desc := "(I)Z" } : Jvm.MethodName) ∈ am_W := am_W_in (am_run_3 (List.mem_of_getElem? (i := 96) rfl)) rfl
theorem wd_3_97 : Jvm.Cond.code ({ cls := "RoverMinutes$Plan", name := "isInRing", desc := "(I)Z" } : Jvm.MethodName) prog_5_method_6_code (5 : Nat) (Option.some Jvm.ClassFile.FieldType.boolean) ∈ am_W := am_W_in (am_run_3 (List.mem_of_getElem? (i := 97) rfl)) rfl
theorem wd_3_98 : Jvm.Cond.methodLink "RoverMinutes$Plan" (30 : Nat) ({ cls := "RoverMinutes$Plan", name := "reckonEarliest", desc := "()V" } : Jvm.MethodName) ∈ am_W := am_W_in (am_run_3 (List.mem_of_getElem? (i := 98) rfl)) rfl
theorem wd_3_100 : Jvm.Cond.instanceMethod ({ cls := "RoverMinutes$Plan", name := "reckonEarliest", desc := "()V" } : Jvm.MethodName) ∈ am_W := am_W_in (am_run_3 (List.mem_of_getElem? (i := 100) rfl)) rfl
theorem wd_3_101 : Jvm.Cond.code ({ cls := "RoverMinutes$Plan", name := "reckonEarliest", desc := "()V" } : Jvm.MethodName) prog_5_method_7_code (3 : Nat) (Option.none : Option Jvm.ClassFile.FieldType) ∈ am_W := am_W_in (am_run_3 (List.mem_of_getElem? (i := 101) rfl)) rfl
theorem wd_3_102 : Jvm.Cond.methodLink "RoverMinutes$Plan" (54 : Nat) ({ cls := "RoverMinutes$Plan", name := "earliestOf", desc := "(LRoverMinutes$Activity;)I" } : Jvm.MethodName) ∈ am_W := am_W_in (am_run_3 (List.mem_of_getElem? (i := 102) rfl)) rfl
theorem wd_3_104 : Jvm.Cond.instanceMethod ({ cls := "RoverMinutes$Plan", name := "earliestOf", desc := "(LRoverMinutes$Activity;)I" } : Jvm.MethodName) ∈ am_W := am_W_in (am_run_3 (List.mem_of_getElem? (i := 104) rfl)) rfl
theorem wd_3_105 : Jvm.Cond.code ({ cls := "RoverMinutes$Plan", name := "earliestOf", desc := "(LRoverMinutes$Activity;)I" } : Jvm.MethodName) prog_5_method_8_code (4 : Nat) (Option.some Jvm.ClassFile.FieldType.int) ∈ am_W := am_W_in (am_run_3 (List.mem_of_getElem? (i := 105) rfl)) rfl
theorem wd_3_106 : Jvm.Cond.methodLink "RoverMinutes$Plan" (58 : Nat) ({ cls := "RoverMinutes$Activity", name := "isAfter", desc := "(I)Z" } : Jvm.MethodName) ∈ am_W := am_W_in (am_run_3 (List.mem_of_getElem? (i := 106) rfl)) rfl
theorem wd_3_107 : Jvm.Cond.instanceMethod ({ cls := "RoverMinutes$Activity", name := "isAfter", desc := "(I)Z" } : Jvm.MethodName) ∈ am_W := am_W_in (am_run_3 (List.mem_of_getElem? (i := 107) rfl)) rfl
theorem wd_3_108 : Jvm.Cond.selects "RoverMinutes$Activity" ({ cls := "RoverMinutes$Activity", name := "isAfter", desc := "(I)Z" } : Jvm.MethodName) ({ cls := "RoverMinutes$Activity", name := "isAfter", desc := "(I)Z" } : Jvm.MethodName) ∈ am_W := am_W_in (am_run_3 (List.mem_of_getElem? (i := 108) rfl)) rfl
theorem wd_3_109 : Jvm.Cond.code ({ cls := "RoverMinutes$Activity", name := "isAfter", desc := "(I)Z" } : Jvm.MethodName) prog_2_method_4_code (2 : Nat) (Option.some Jvm.ClassFile.FieldType.boolean) ∈ am_W := am_W_in (am_run_3 (List.mem_of_getElem? (i := 109) rfl)) rfl
theorem wd_3_110 : Jvm.Cond.methodLink "RoverMinutes$Plan" (61 : Nat) ({ cls := "java/lang/Math", name := "max", desc := "(II)I" } : Jvm.MethodName) ∈ am_W := am_W_in (am_run_3 (List.mem_of_getElem? (i := 110) rfl)) rfl
theorem wd_3_111 : Jvm.Cond.methodLink "RoverMinutes" (85 : Nat) ({ cls := "RoverMinutes$Plan", name := "makeReady", desc := "()V" } : Jvm.MethodName) ∈ am_W := am_W_in (am_run_3 (List.mem_of_getElem? (i := 111) rfl)) rfl
theorem wd_3_112 : Jvm.Cond.instanceMethod ({ cls := "RoverMinutes$Plan", name := "makeReady", desc := "()V" } : Jvm.MethodName) ∈ am_W := am_W_in (am_run_3 (List.mem_of_getElem? (i := 112) rfl)) rfl
theorem wd_3_113 : Jvm.Cond.selects "RoverMinutes$Plan" ({ cls := "RoverMinutes$Plan", name := "makeReady", desc := "()V" } : Jvm.MethodName) ({ cls := "RoverMinutes$Plan", name := "makeReady", desc := "()V" } : Jvm.MethodName) ∈ am_W := am_W_in (am_run_3 (List.mem_of_getElem? (i := 113) rfl)) rfl
theorem wd_3_114 : Jvm.Cond.code ({ cls := "RoverMinutes$Plan", name := "makeReady", desc := "()V" } : Jvm.MethodName) prog_5_method_3_code (2 : Nat) (Option.none : Option Jvm.ClassFile.FieldType) ∈ am_W := am_W_in (am_run_3 (List.mem_of_getElem? (i := 114) rfl)) rfl
theorem wd_3_115 : Jvm.Cond.methodLink "RoverMinutes$Plan" (20 : Nat) ({ cls := "RoverMinutes$Activity", name := "makeReady", desc := "()V" } : Jvm.MethodName) ∈ am_W := am_W_in (am_run_3 (List.mem_of_getElem? (i := 115) rfl)) rfl
theorem wd_3_116 : Jvm.Cond.instanceMethod ({ cls := "RoverMinutes$Activity", name := "makeReady", desc := "()V" } : Jvm.MethodName) ∈ am_W := am_W_in (am_run_3 (List.mem_of_getElem? (i := 116) rfl)) rfl
theorem wd_3_117 : Jvm.Cond.selects "RoverMinutes$Activity" ({ cls := "RoverMinutes$Activity", name := "makeReady", desc := "()V" } : Jvm.MethodName) ({ cls := "RoverMinutes$Activity", name := "makeReady", desc := "()V" } : Jvm.MethodName) ∈ am_W := am_W_in (am_run_3 (List.mem_of_getElem? (i := 117) rfl)) rfl
theorem wd_3_118 : Jvm.Cond.code ({ cls := "RoverMinutes$Activity", name := "makeReady", desc := "()V" } : Jvm.MethodName) prog_2_method_3_code (1 : Nat) (Option.none : Option Jvm.ClassFile.FieldType) ∈ am_W := am_W_in (am_run_3 (List.mem_of_getElem? (i := 118) rfl)) rfl
theorem wd_3_119 : Jvm.Cond.arrayClass Jvm.ClassFile.FieldType.byte ∈ am_W := am_W_in (am_run_3 (List.mem_of_getElem? (i := 119) rfl)) rfl
theorem wd_3_120 : Jvm.Cond.methodLink "RoverMinutesLaw" (80 : Nat) ({ cls := "RoverMinutesLaw", name := "enable", desc := "(LRoverMinutes;[J)I" } : Jvm.MethodName) ∈ am_W := am_W_in (am_run_3 (List.mem_of_getElem? (i := 120) rfl)) rfl
theorem wd_3_121 : Jvm.Cond.static ({ cls := "RoverMinutesLaw", name := "enable", desc := "(LRoverMinutes;[J)I" } : Jvm.MethodName) ∈ am_W := am_W_in (am_run_3 (List.mem_of_getElem? (i := 121) rfl)) rfl
theorem wd_3_122 : Jvm.Cond.codeWith ({ cls := "RoverMinutesLaw", name := "enable", desc := "(LRoverMinutes;[J)I" } : Jvm.MethodName) method_5_code (3 : Nat) (Option.some Jvm.ClassFile.FieldType.int) [((0 : Nat), (8 : Nat), (11 : Nat), (19 : Nat))] ∈ am_W := am_W_in (am_run_3 (List.mem_of_getElem? (i := 122) rfl)) rfl
theorem wd_3_123 : Jvm.Cond.methodLink "RoverMinutesLaw" (21 : Nat) ({ cls := "RoverMinutes", name := "enable", desc := "()I" } : Jvm.MethodName) ∈ am_W := am_W_in (am_run_3 (List.mem_of_getElem? (i := 123) rfl)) rfl
theorem wd_3_124 : Jvm.Cond.instanceMethod ({ cls := "RoverMinutes", name := "enable", desc := "()I" } : Jvm.MethodName) ∈ am_W := am_W_in (am_run_3 (List.mem_of_getElem? (i := 124) rfl)) rfl
theorem wd_3_125 : Jvm.Cond.selects "RoverMinutes" ({ cls := "RoverMinutes", name := "enable", desc := "()I" } : Jvm.MethodName) ({ cls := "RoverMinutes", name := "enable", desc := "()I" } : Jvm.MethodName) ∈ am_W := am_W_in (am_run_3 (List.mem_of_getElem? (i := 125) rfl)) rfl
theorem wd_3_126 : Jvm.Cond.code ({ cls := "RoverMinutes", name := "enable", desc := "()I" } : Jvm.MethodName) prog_1_method_4_code (1 : Nat) (Option.some Jvm.ClassFile.FieldType.int) ∈ am_W := am_W_in (am_run_3 (List.mem_of_getElem? (i := 126) rfl)) rfl
theorem wd_3_127 : Jvm.Cond.methodLink "RoverMinutes" (97 : Nat) ({ cls := "RoverMinutes$Supply", name := "isOpen", desc := "(II)Z" } : Jvm.MethodName) ∈ am_W := am_W_in (am_run_3 (List.mem_of_getElem? (i := 127) rfl)) rfl
theorem wd_3_128 : Jvm.Cond.instanceMethod ({ cls := "RoverMinutes$Supply", name := "isOpen", desc := "(II)Z" } : Jvm.MethodName) ∈ am_W := am_W_in (am_run_3 (List.mem_of_getElem? (i := 128) rfl)) rfl
theorem wd_3_129 : Jvm.Cond.selects "RoverMinutes$Supply" ({ cls := "RoverMinutes$Supply", name := "isOpen", desc := "(II)Z" } : Jvm.MethodName) ({ cls := "RoverMinutes$Supply", name := "isOpen", desc := "(II)Z" } : Jvm.MethodName) ∈ am_W := am_W_in (am_run_3 (List.mem_of_getElem? (i := 129) rfl)) rfl
theorem wd_3_130 : Jvm.Cond.code ({ cls := "RoverMinutes$Supply", name := "isOpen", desc := "(II)Z" } : Jvm.MethodName) prog_7_method_8_code (4 : Nat) (Option.some Jvm.ClassFile.FieldType.boolean) ∈ am_W := am_W_in (am_run_3 (List.mem_of_getElem? (i := 130) rfl)) rfl
theorem wd_3_131 : Jvm.Cond.methodLink "RoverMinutes$Supply" (51 : Nat) ({ cls := "RoverMinutes$Supply", name := "needBehind", desc := "(I)I" } : Jvm.MethodName) ∈ am_W := am_W_in (am_run_3 (List.mem_of_getElem? (i := 131) rfl)) rfl
theorem wd_3_132 : Jvm.Cond.methodLink "RoverMinutes" (104 : Nat) ({ cls := "RoverMinutes$Plan", name := "skipHopeless", desc := "(I)V" } : Jvm.MethodName) ∈ am_W := am_W_in (am_run_3 (List.mem_of_getElem? (i := 132) rfl)) rfl
theorem wd_3_133 : Jvm.Cond.instanceMethod ({ cls := "RoverMinutes$Plan", name := "skipHopeless", desc := "(I)V" } : Jvm.MethodName) ∈ am_W := am_W_in (am_run_3 (List.mem_of_getElem? (i := 133) rfl)) rfl
theorem wd_3_134 : Jvm.Cond.selects "RoverMinutes$Plan" ({ cls := "RoverMinutes$Plan", name := "skipHopeless", desc := "(I)V" } : Jvm.MethodName) ({ cls := "RoverMinutes$Plan", name := "skipHopeless", desc := "(I)V" } : Jvm.MethodName) ∈ am_W := am_W_in (am_run_3 (List.mem_of_getElem? (i := 134) rfl)) rfl
theorem wd_3_135 : Jvm.Cond.code ({ cls := "RoverMinutes$Plan", name := "skipHopeless", desc := "(I)V" } : Jvm.MethodName) prog_5_method_13_code (4 : Nat) (Option.none : Option Jvm.ClassFile.FieldType) ∈ am_W := am_W_in (am_run_3 (List.mem_of_getElem? (i := 135) rfl)) rfl
theorem wd_3_136 : Jvm.Cond.methodLink "RoverMinutes$Plan" (83 : Nat) ({ cls := "RoverMinutes$Activity", name := "isWaiting", desc := "()Z" } : Jvm.MethodName) ∈ am_W := am_W_in (am_run_3 (List.mem_of_getElem? (i := 136) rfl)) rfl
theorem wd_3_137 : Jvm.Cond.instanceMethod ({ cls := "RoverMinutes$Activity", name := "isWaiting", desc := "()Z" } : Jvm.MethodName) ∈ am_W := am_W_in (am_run_3 (List.mem_of_getElem? (i := 137) rfl)) rfl
theorem wd_3_138 : Jvm.Cond.selects "RoverMinutes$Activity" ({ cls := "RoverMinutes$Activity", name := "isWaiting", desc := "()Z" } : Jvm.MethodName) ({ cls := "RoverMinutes$Activity", name := "isWaiting", desc := "()Z" } : Jvm.MethodName) ∈ am_W := am_W_in (am_run_3 (List.mem_of_getElem? (i := 138) rfl)) rfl
theorem wd_3_139 : Jvm.Cond.code ({ cls := "RoverMinutes$Activity", name := "isWaiting", desc := "()Z" } : Jvm.MethodName) prog_2_method_7_code (1 : Nat) (Option.some Jvm.ClassFile.FieldType.boolean) ∈ am_W := am_W_in (am_run_3 (List.mem_of_getElem? (i := 139) rfl)) rfl
theorem wd_3_140 : Jvm.Cond.methodLink "RoverMinutes$Plan" (86 : Nat) ({ cls := "RoverMinutes$Plan", name := "isHopeless", desc := "(LRoverMinutes$Activity;I)Z" } : Jvm.MethodName) ∈ am_W := am_W_in (am_run_3 (List.mem_of_getElem? (i := 140) rfl)) rfl
theorem wd_3_142 : Jvm.Cond.instanceMethod ({ cls := "RoverMinutes$Plan", name := "isHopeless", desc := "(LRoverMinutes$Activity;I)Z" } : Jvm.MethodName) ∈ am_W := am_W_in (am_run_3 (List.mem_of_getElem? (i := 142) rfl)) rfl
theorem wd_3_143 : Jvm.Cond.code ({ cls := "RoverMinutes$Plan", name := "isHopeless", desc := "(LRoverMinutes$Activity;I)Z" } : Jvm.MethodName) prog_5_method_14_code (4 : Nat) (Option.some Jvm.ClassFile.FieldType.boolean) ∈ am_W := am_W_in (am_run_3 (List.mem_of_getElem? (i := 143) rfl)) rfl
theorem wd_3_144 : Jvm.Cond.methodLink "RoverMinutes$Plan" (93 : Nat) ({ cls := "RoverMinutes$Activity", name := "hasFailed", desc := "()Z" } : Jvm.MethodName) ∈ am_W := am_W_in (am_run_3 (List.mem_of_getElem? (i := 144) rfl)) rfl
theorem wd_3_145 : Jvm.Cond.instanceMethod ({ cls := "RoverMinutes$Activity", name := "hasFailed", desc := "()Z" } : Jvm.MethodName) ∈ am_W := am_W_in (am_run_3 (List.mem_of_getElem? (i := 145) rfl)) rfl
theorem wd_3_146 : Jvm.Cond.selects "RoverMinutes$Activity" ({ cls := "RoverMinutes$Activity", name := "hasFailed", desc := "()Z" } : Jvm.MethodName) ({ cls := "RoverMinutes$Activity", name := "hasFailed", desc := "()Z" } : Jvm.MethodName) ∈ am_W := am_W_in (am_run_3 (List.mem_of_getElem? (i := 146) rfl)) rfl
theorem wd_3_147 : Jvm.Cond.code ({ cls := "RoverMinutes$Activity", name := "hasFailed", desc := "()Z" } : Jvm.MethodName) prog_2_method_9_code (1 : Nat) (Option.some Jvm.ClassFile.FieldType.boolean) ∈ am_W := am_W_in (am_run_3 (List.mem_of_getElem? (i := 147) rfl)) rfl
theorem wd_3_148 : Jvm.Cond.methodLink "RoverMinutes$Plan" (96 : Nat) ({ cls := "RoverMinutes$Activity", name := "isInsteadOf", desc := "(I)Z" } : Jvm.MethodName) ∈ am_W := am_W_in (am_run_3 (List.mem_of_getElem? (i := 148) rfl)) rfl
theorem wd_3_149 : Jvm.Cond.instanceMethod ({ cls := "RoverMinutes$Activity", name := "isInsteadOf", desc := "(I)Z" } : Jvm.MethodName) ∈ am_W := am_W_in (am_run_3 (List.mem_of_getElem? (i := 149) rfl)) rfl
theorem wd_3_150 : Jvm.Cond.selects "RoverMinutes$Activity" ({ cls := "RoverMinutes$Activity", name := "isInsteadOf", desc := "(I)Z" } : Jvm.MethodName) ({ cls := "RoverMinutes$Activity", name := "isInsteadOf", desc := "(I)Z" } : Jvm.MethodName) ∈ am_W := am_W_in (am_run_3 (List.mem_of_getElem? (i := 150) rfl)) rfl
theorem wd_3_151 : Jvm.Cond.code ({ cls := "RoverMinutes$Activity", name := "isInsteadOf", desc := "(I)Z" } : Jvm.MethodName) prog_2_method_5_code (2 : Nat) (Option.some Jvm.ClassFile.FieldType.boolean) ∈ am_W := am_W_in (am_run_3 (List.mem_of_getElem? (i := 151) rfl)) rfl
theorem wd_3_152 : Jvm.Cond.methodLink "RoverMinutes$Plan" (99 : Nat) ({ cls := "RoverMinutes$Activity", name := "isDone", desc := "()Z" } : Jvm.MethodName) ∈ am_W := am_W_in (am_run_3 (List.mem_of_getElem? (i := 152) rfl)) rfl
theorem wd_3_153 : Jvm.Cond.instanceMethod ({ cls := "RoverMinutes$Activity", name := "isDone", desc := "()Z" } : Jvm.MethodName) ∈ am_W := am_W_in (am_run_3 (List.mem_of_getElem? (i := 153) rfl)) rfl
theorem wd_3_154 : Jvm.Cond.selects "RoverMinutes$Activity" ({ cls := "RoverMinutes$Activity", name := "isDone", desc := "()Z" } : Jvm.MethodName) ({ cls := "RoverMinutes$Activity", name := "isDone", desc := "()Z" } : Jvm.MethodName) ∈ am_W := am_W_in (am_run_3 (List.mem_of_getElem? (i := 154) rfl)) rfl
theorem wd_3_155 : Jvm.Cond.code ({ cls := "RoverMinutes$Activity", name := "isDone", desc := "()Z" } : Jvm.MethodName) prog_2_method_8_code (1 : Nat) (Option.some Jvm.ClassFile.FieldType.boolean) ∈ am_W := am_W_in (am_run_3 (List.mem_of_getElem? (i := 155) rfl)) rfl
theorem wd_3_156 : Jvm.Cond.methodLink "RoverMinutes" (108 : Nat) ({ cls := "RoverMinutes", name := "startAndSettle", desc := "()I" } : Jvm.MethodName) ∈ am_W := am_W_in (am_run_3 (List.mem_of_getElem? (i := 156) rfl)) rfl
theorem wd_3_158 : Jvm.Cond.instanceMethod ({ cls := "RoverMinutes", name := "startAndSettle", desc := "()I" } : Jvm.MethodName) ∈ am_W := am_W_in (am_run_3 (List.mem_of_getElem? (i := 158) rfl)) rfl
theorem wd_3_159 : Jvm.Cond.code ({ cls := "RoverMinutes", name := "startAndSettle", desc := "()I" } : Jvm.MethodName) prog_1_method_25_code (3 : Nat) (Option.some Jvm.ClassFile.FieldType.int) ∈ am_W := am_W_in (am_run_3 (List.mem_of_getElem? (i := 159) rfl)) rfl
theorem wd_3_160 : Jvm.Cond.methodLink "RoverMinutes" (187 : Nat) ({ cls := "RoverMinutes", name := "mayStart", desc := "(I)Z" } : Jvm.MethodName) ∈ am_W := am_W_in (am_run_3 (List.mem_of_getElem? (i := 160) rfl)) rfl
theorem wd_3_162 : Jvm.Cond.instanceMethod ({ cls := "RoverMinutes", name := "mayStart", desc := "(I)Z" } : Jvm.MethodName) ∈ am_W := am_W_in (am_run_3 (List.mem_of_getElem? (i := 162) rfl)) rfl
theorem wd_3_163 : Jvm.Cond.code ({ cls := "RoverMinutes", name := "mayStart", desc := "(I)Z" } : Jvm.MethodName) prog_1_method_26_code (2 : Nat) (Option.some Jvm.ClassFile.FieldType.boolean) ∈ am_W := am_W_in (am_run_3 (List.mem_of_getElem? (i := 163) rfl)) rfl
theorem wd_3_164 : Jvm.Cond.methodLink "RoverMinutes" (221 : Nat) ({ cls := "RoverMinutes$Plan", name := "isReady", desc := "(I)Z" } : Jvm.MethodName) ∈ am_W := am_W_in (am_run_3 (List.mem_of_getElem? (i := 164) rfl)) rfl
theorem wd_3_165 : Jvm.Cond.instanceMethod ({ cls := "RoverMinutes$Plan", name := "isReady", desc := "(I)Z" } : Jvm.MethodName) ∈ am_W := am_W_in (am_run_3 (List.mem_of_getElem? (i := 165) rfl)) rfl
theorem wd_3_166 : Jvm.Cond.selects "RoverMinutes$Plan" ({ cls := "RoverMinutes$Plan", name := "isReady", desc := "(I)Z" } : Jvm.MethodName) ({ cls := "RoverMinutes$Plan", name := "isReady", desc := "(I)Z" } : Jvm.MethodName) ∈ am_W := am_W_in (am_run_3 (List.mem_of_getElem? (i := 166) rfl)) rfl
theorem wd_3_167 : Jvm.Cond.code ({ cls := "RoverMinutes$Plan", name := "isReady", desc := "(I)Z" } : Jvm.MethodName) prog_5_method_15_code (4 : Nat) (Option.some Jvm.ClassFile.FieldType.boolean) ∈ am_W := am_W_in (am_run_3 (List.mem_of_getElem? (i := 167) rfl)) rfl
theorem wd_3_168 : Jvm.Cond.methodLink "RoverMinutes" (224 : Nat) ({ cls := "RoverMinutes$Envelope", name := "holds", desc := "(LRoverMinutes$Supply;I)Z" } : Jvm.MethodName) ∈ am_W := am_W_in (am_run_3 (List.mem_of_getElem? (i := 168) rfl)) rfl
theorem wd_3_169 : Jvm.Cond.instanceMethod ({ cls := "RoverMinutes$Envelope", name := "holds", desc := "(LRoverMinutes$Supply;I)Z" } : Jvm.MethodName) ∈ am_W := am_W_in (am_run_3 (List.mem_of_getElem? (i := 169) rfl)) rfl
theorem wd_3_170 : Jvm.Cond.selects "RoverMinutes$Envelope" ({ cls := "RoverMinutes$Envelope", name := "holds", desc := "(LRoverMinutes$Supply;I)Z" } : Jvm.MethodName) ({ cls := "RoverMinutes$Envelope", name := "holds", desc := "(LRoverMinutes$Supply;I)Z" } : Jvm.MethodName) ∈ am_W := am_W_in (am_run_3 (List.mem_of_getElem? (i := 170) rfl)) rfl
theorem wd_3_171 : Jvm.Cond.code ({ cls := "RoverMinutes$Envelope", name := "holds", desc := "(LRoverMinutes$Supply;I)Z" } : Jvm.MethodName) prog_3_method_5_code (6 : Nat) (Option.some Jvm.ClassFile.FieldType.boolean) ∈ am_W := am_W_in (am_run_3 (List.mem_of_getElem? (i := 171) rfl)) rfl
theorem wd_3_172 : Jvm.Cond.methodLink "RoverMinutes$Envelope" (68 : Nat) ({ cls := "RoverMinutes$Supply", name := "isOpen", desc := "(II)Z" } : Jvm.MethodName) ∈ am_W := am_W_in (am_run_3 (List.mem_of_getElem? (i := 172) rfl)) rfl
theorem wd_3_173 : Jvm.Cond.methodLink "RoverMinutes" (214 : Nat) ({ cls := "RoverMinutes$Activity", name := "start", desc := "(I)V" } : Jvm.MethodName) ∈ am_W := am_W_in (am_run_3 (List.mem_of_getElem? (i := 173) rfl)) rfl
theorem wd_3_174 : Jvm.Cond.instanceMethod ({ cls := "RoverMinutes$Activity", name := "start", desc := "(I)V" } : Jvm.MethodName) ∈ am_W := am_W_in (am_run_3 (List.mem_of_getElem? (i := 174) rfl)) rfl
theorem wd_3_175 : Jvm.Cond.selects "RoverMinutes$Activity" ({ cls := "RoverMinutes$Activity", name := "start", desc := "(I)V" } : Jvm.MethodName) ({ cls := "RoverMinutes$Activity", name := "start", desc := "(I)V" } : Jvm.MethodName) ∈ am_W := am_W_in (am_run_3 (List.mem_of_getElem? (i := 175) rfl)) rfl
theorem wd_3_176 : Jvm.Cond.code ({ cls := "RoverMinutes$Activity", name := "start", desc := "(I)V" } : Jvm.MethodName) prog_2_method_10_code (2 : Nat) (Option.none : Option Jvm.ClassFile.FieldType) ∈ am_W := am_W_in (am_run_3 (List.mem_of_getElem? (i := 176) rfl)) rfl
theorem wd_3_177 : Jvm.Cond.methodLink "RoverMinutes" (217 : Nat) ({ cls := "RoverMinutes$Plan", name := "isOver", desc := "()Z" } : Jvm.MethodName) ∈ am_W := am_W_in (am_run_3 (List.mem_of_getElem? (i := 177) rfl)) rfl
theorem wd_3_178 : Jvm.Cond.instanceMethod ({ cls := "RoverMinutes$Plan", name := "isOver", desc := "()Z" } : Jvm.MethodName) ∈ am_W := am_W_in (am_run_3 (List.mem_of_getElem? (i := 178) rfl)) rfl
theorem wd_3_179 : Jvm.Cond.selects "RoverMinutes$Plan" ({ cls := "RoverMinutes$Plan", name := "isOver", desc := "()Z" } : Jvm.MethodName) ({ cls := "RoverMinutes$Plan", name := "isOver", desc := "()Z" } : Jvm.MethodName) ∈ am_W := am_W_in (am_run_3 (List.mem_of_getElem? (i := 179) rfl)) rfl
theorem wd_3_180 : Jvm.Cond.code ({ cls := "RoverMinutes$Plan", name := "isOver", desc := "()Z" } : Jvm.MethodName) prog_5_method_17_code (2 : Nat) (Option.some Jvm.ClassFile.FieldType.boolean) ∈ am_W := am_W_in (am_run_3 (List.mem_of_getElem? (i := 180) rfl)) rfl
theorem wd_3_181 : Jvm.Cond.methodLink "RoverMinutes$Plan" (67 : Nat) ({ cls := "RoverMinutes$Activity", name := "isRunning", desc := "()Z" } : Jvm.MethodName) ∈ am_W := am_W_in (am_run_3 (List.mem_of_getElem? (i := 181) rfl)) rfl
theorem wd_3_182 : Jvm.Cond.methodLink "RoverMinutesLaw" (83 : Nat) ({ cls := "RoverMinutesLaw", name := "cancel", desc := "(LRoverMinutes;)I" } : Jvm.MethodName) ∈ am_W := am_W_in (am_run_3 (List.mem_of_getElem? (i := 182) rfl)) rfl
theorem wd_3_183 : Jvm.Cond.static ({ cls := "RoverMinutesLaw", name := "cancel", desc := "(LRoverMinutes;)I" } : Jvm.MethodName) ∈ am_W := am_W_in (am_run_3 (List.mem_of_getElem? (i := 183) rfl)) rfl
theorem wd_3_184 : Jvm.Cond.codeWith ({ cls := "RoverMinutesLaw", name := "cancel", desc := "(LRoverMinutes;)I" } : Jvm.MethodName) method_6_code (2 : Nat) (Option.some Jvm.ClassFile.FieldType.int) [((0 : Nat), (4 : Nat), (7 : Nat), (19 : Nat))] ∈ am_W := am_W_in (am_run_3 (List.mem_of_getElem? (i := 184) rfl)) rfl
theorem wd_3_185 : Jvm.Cond.methodLink "RoverMinutesLaw" (24 : Nat) ({ cls := "RoverMinutes", name := "cancel", desc := "()V" } : Jvm.MethodName) ∈ am_W := am_W_in (am_run_3 (List.mem_of_getElem? (i := 185) rfl)) rfl
theorem wd_3_186 : Jvm.Cond.instanceMethod ({ cls := "RoverMinutes", name := "cancel", desc := "()V" } : Jvm.MethodName) ∈ am_W := am_W_in (am_run_3 (List.mem_of_getElem? (i := 186) rfl)) rfl
theorem wd_3_187 : Jvm.Cond.selects "RoverMinutes" ({ cls := "RoverMinutes", name := "cancel", desc := "()V" } : Jvm.MethodName) ({ cls := "RoverMinutes", name := "cancel", desc := "()V" } : Jvm.MethodName) ∈ am_W := am_W_in (am_run_3 (List.mem_of_getElem? (i := 187) rfl)) rfl
theorem wd_3_188 : Jvm.Cond.code ({ cls := "RoverMinutes", name := "cancel", desc := "()V" } : Jvm.MethodName) prog_1_method_5_code (1 : Nat) (Option.none : Option Jvm.ClassFile.FieldType) ∈ am_W := am_W_in (am_run_3 (List.mem_of_getElem? (i := 188) rfl)) rfl
theorem wd_3_189 : Jvm.Cond.methodLink "RoverMinutes" (111 : Nat) ({ cls := "RoverMinutes", name := "beginReturn", desc := "()V" } : Jvm.MethodName) ∈ am_W := am_W_in (am_run_3 (List.mem_of_getElem? (i := 189) rfl)) rfl
theorem wd_3_191 : Jvm.Cond.instanceMethod ({ cls := "RoverMinutes", name := "beginReturn", desc := "()V" } : Jvm.MethodName) ∈ am_W := am_W_in (am_run_3 (List.mem_of_getElem? (i := 191) rfl)) rfl
theorem wd_3_192 : Jvm.Cond.code ({ cls := "RoverMinutes", name := "beginReturn", desc := "()V" } : Jvm.MethodName) prog_1_method_24_code (1 : Nat) (Option.none : Option Jvm.ClassFile.FieldType) ∈ am_W := am_W_in (am_run_3 (List.mem_of_getElem? (i := 192) rfl)) rfl
theorem wd_3_193 : Jvm.Cond.methodLink "RoverMinutes" (208 : Nat) ({ cls := "RoverMinutes$Plan", name := "giveUp", desc := "()V" } : Jvm.MethodName) ∈ am_W := am_W_in (am_run_3 (List.mem_of_getElem? (i := 193) rfl)) rfl
theorem wd_3_194 : Jvm.Cond.instanceMethod ({ cls := "RoverMinutes$Plan", name := "giveUp", desc := "()V" } : Jvm.MethodName) ∈ am_W := am_W_in (am_run_3 (List.mem_of_getElem? (i := 194) rfl)) rfl
theorem wd_3_195 : Jvm.Cond.selects "RoverMinutes$Plan" ({ cls := "RoverMinutes$Plan", name := "giveUp", desc := "()V" } : Jvm.MethodName) ({ cls := "RoverMinutes$Plan", name := "giveUp", desc := "()V" } : Jvm.MethodName) ∈ am_W := am_W_in (am_run_3 (List.mem_of_getElem? (i := 195) rfl)) rfl
theorem wd_3_196 : Jvm.Cond.code ({ cls := "RoverMinutes$Plan", name := "giveUp", desc := "()V" } : Jvm.MethodName) prog_5_method_16_code (2 : Nat) (Option.none : Option Jvm.ClassFile.FieldType) ∈ am_W := am_W_in (am_run_3 (List.mem_of_getElem? (i := 196) rfl)) rfl
theorem wd_3_197 : Jvm.Cond.methodLink "RoverMinutesLaw" (87 : Nat) ({ cls := "RoverMinutesLaw", name := "minutes", desc := "(LRoverMinutes;I[J)I" } : Jvm.MethodName) ∈ am_W := am_W_in (am_run_3 (List.mem_of_getElem? (i := 197) rfl)) rfl
theorem wd_3_198 : Jvm.Cond.static ({ cls := "RoverMinutesLaw", name := "minutes", desc := "(LRoverMinutes;I[J)I" } : Jvm.MethodName) ∈ am_W := am_W_in (am_run_3 (List.mem_of_getElem? (i := 198) rfl)) rfl
theorem wd_3_199 : Jvm.Cond.codeWith ({ cls := "RoverMinutesLaw", name := "minutes", desc := "(LRoverMinutes;I[J)I" } : Jvm.MethodName) method_7_code (4 : Nat) (Option.some Jvm.ClassFile.FieldType.int) [((0 : Nat), (9 : Nat), (12 : Nat), (13 : Nat))] ∈ am_W := am_W_in (am_run_3 (List.mem_of_getElem? (i := 199) rfl)) rfl
theorem wd_3_200 : Jvm.Cond.methodLink "RoverMinutesLaw" (27 : Nat) ({ cls := "RoverMinutes", name := "minutes", desc := "(I)I" } : Jvm.MethodName) ∈ am_W := am_W_in (am_run_3 (List.mem_of_getElem? (i := 200) rfl)) rfl
theorem wd_3_201 : Jvm.Cond.instanceMethod ({ cls := "RoverMinutes", name := "minutes", desc := "(I)I" } : Jvm.MethodName) ∈ am_W := am_W_in (am_run_3 (List.mem_of_getElem? (i := 201) rfl)) rfl
theorem wd_3_202 : Jvm.Cond.selects "RoverMinutes" ({ cls := "RoverMinutes", name := "minutes", desc := "(I)I" } : Jvm.MethodName) ({ cls := "RoverMinutes", name := "minutes", desc := "(I)I" } : Jvm.MethodName) ∈ am_W := am_W_in (am_run_3 (List.mem_of_getElem? (i := 202) rfl)) rfl
theorem wd_3_203 : Jvm.Cond.code ({ cls := "RoverMinutes", name := "minutes", desc := "(I)I" } : Jvm.MethodName) prog_1_method_6_code (4 : Nat) (Option.some Jvm.ClassFile.FieldType.int) ∈ am_W := am_W_in (am_run_3 (List.mem_of_getElem? (i := 203) rfl)) rfl
theorem wd_3_204 : Jvm.Cond.methodLink "RoverMinutes" (114 : Nat) ({ cls := "RoverMinutes", name := "passInPlan", desc := "()I" } : Jvm.MethodName) ∈ am_W := am_W_in (am_run_3 (List.mem_of_getElem? (i := 204) rfl)) rfl
theorem wd_3_206 : Jvm.Cond.instanceMethod ({ cls := "RoverMinutes", name := "passInPlan", desc := "()I" } : Jvm.MethodName) ∈ am_W := am_W_in (am_run_3 (List.mem_of_getElem? (i := 206) rfl)) rfl
theorem wd_3_207 : Jvm.Cond.code ({ cls := "RoverMinutes", name := "passInPlan", desc := "()I" } : Jvm.MethodName) prog_1_method_22_code (1 : Nat) (Option.some Jvm.ClassFile.FieldType.int) ∈ am_W := am_W_in (am_run_3 (List.mem_of_getElem? (i := 207) rfl)) rfl
theorem wd_3_208 : Jvm.Cond.methodLink "RoverMinutes" (190 : Nat) ({ cls := "RoverMinutes$Plan", name := "runningDraw", desc := "()I" } : Jvm.MethodName) ∈ am_W := am_W_in (am_run_3 (List.mem_of_getElem? (i := 208) rfl)) rfl
theorem wd_3_209 : Jvm.Cond.instanceMethod ({ cls := "RoverMinutes$Plan", name := "runningDraw", desc := "()I" } : Jvm.MethodName) ∈ am_W := am_W_in (am_run_3 (List.mem_of_getElem? (i := 209) rfl)) rfl
theorem wd_3_210 : Jvm.Cond.selects "RoverMinutes$Plan" ({ cls := "RoverMinutes$Plan", name := "runningDraw", desc := "()I" } : Jvm.MethodName) ({ cls := "RoverMinutes$Plan", name := "runningDraw", desc := "()I" } : Jvm.MethodName) ∈ am_W := am_W_in (am_run_3 (List.mem_of_getElem? (i := 210) rfl)) rfl
theorem wd_3_211 : Jvm.Cond.code ({ cls := "RoverMinutes$Plan", name := "runningDraw", desc := "()I" } : Jvm.MethodName) prog_5_method_9_code (3 : Nat) (Option.some Jvm.ClassFile.FieldType.int) ∈ am_W := am_W_in (am_run_3 (List.mem_of_getElem? (i := 211) rfl)) rfl
theorem wd_3_212 : Jvm.Cond.methodLink "RoverMinutes" (120 : Nat) ({ cls := "RoverMinutes$Supply", name := "pass", desc := "(II)V" } : Jvm.MethodName) ∈ am_W := am_W_in (am_run_3 (List.mem_of_getElem? (i := 212) rfl)) rfl
theorem wd_3_213 : Jvm.Cond.instanceMethod ({ cls := "RoverMinutes$Supply", name := "pass", desc := "(II)V" } : Jvm.MethodName) ∈ am_W := am_W_in (am_run_3 (List.mem_of_getElem? (i := 213) rfl)) rfl
theorem wd_3_214 : Jvm.Cond.selects "RoverMinutes$Supply" ({ cls := "RoverMinutes$Supply", name := "pass", desc := "(II)V" } : Jvm.MethodName) ({ cls := "RoverMinutes$Supply", name := "pass", desc := "(II)V" } : Jvm.MethodName) ∈ am_W := am_W_in (am_run_3 (List.mem_of_getElem? (i := 214) rfl)) rfl
theorem wd_3_215 : Jvm.Cond.code ({ cls := "RoverMinutes$Supply", name := "pass", desc := "(II)V" } : Jvm.MethodName) prog_7_method_10_code (4 : Nat) (Option.none : Option Jvm.ClassFile.FieldType) ∈ am_W := am_W_in (am_run_3 (List.mem_of_getElem? (i := 215) rfl)) rfl
theorem wd_3_216 : Jvm.Cond.methodLink "RoverMinutes$Supply" (57 : Nat) ({ cls := "RoverMinutes$Supply", name := "lowerGain", desc := "(I)I" } : Jvm.MethodName) ∈ am_W := am_W_in (am_run_3 (List.mem_of_getElem? (i := 216) rfl)) rfl
theorem wd_3_217 : Jvm.Cond.methodLink "RoverMinutes$Supply" (60 : Nat) ({ cls := "RoverMinutes$Supply", name := "goOn", desc := "(III)I" } : Jvm.MethodName) ∈ am_W := am_W_in (am_run_3 (List.mem_of_getElem? (i := 217) rfl)) rfl
theorem wd_3_218 : Jvm.Cond.methodLink "RoverMinutes" (193 : Nat) ({ cls := "RoverMinutes$Plan", name := "runningData", desc := "()I" } : Jvm.MethodName) ∈ am_W := am_W_in (am_run_3 (List.mem_of_getElem? (i := 218) rfl)) rfl
theorem wd_3_219 : Jvm.Cond.instanceMethod ({ cls := "RoverMinutes$Plan", name := "runningData", desc := "()I" } : Jvm.MethodName) ∈ am_W := am_W_in (am_run_3 (List.mem_of_getElem? (i := 219) rfl)) rfl
theorem wd_3_220 : Jvm.Cond.selects "RoverMinutes$Plan" ({ cls := "RoverMinutes$Plan", name := "runningData", desc := "()I" } : Jvm.MethodName) ({ cls := "RoverMinutes$Plan", name := "runningData", desc := "()I" } : Jvm.MethodName) ∈ am_W := am_W_in (am_run_3 (List.mem_of_getElem? (i := 220) rfl)) rfl
theorem wd_3_221 : Jvm.Cond.code ({ cls := "RoverMinutes$Plan", name := "runningData", desc := "()I" } : Jvm.MethodName) prog_5_method_10_code (3 : Nat) (Option.some Jvm.ClassFile.FieldType.int) ∈ am_W := am_W_in (am_run_3 (List.mem_of_getElem? (i := 221) rfl)) rfl
theorem wd_3_222 : Jvm.Cond.methodLink "RoverMinutes" (196 : Nat) ({ cls := "RoverMinutes$Supply", name := "keep", desc := "(I)V" } : Jvm.MethodName) ∈ am_W := am_W_in (am_run_3 (List.mem_of_getElem? (i := 222) rfl)) rfl
theorem wd_3_223 : Jvm.Cond.instanceMethod ({ cls := "RoverMinutes$Supply", name := "keep", desc := "(I)V" } : Jvm.MethodName) ∈ am_W := am_W_in (am_run_3 (List.mem_of_getElem? (i := 223) rfl)) rfl
theorem wd_3_224 : Jvm.Cond.selects "RoverMinutes$Supply" ({ cls := "RoverMinutes$Supply", name := "keep", desc := "(I)V" } : Jvm.MethodName) ({ cls := "RoverMinutes$Supply", name := "keep", desc := "(I)V" } : Jvm.MethodName) ∈ am_W := am_W_in (am_run_3 (List.mem_of_getElem? (i := 224) rfl)) rfl
theorem wd_3_225 : Jvm.Cond.code ({ cls := "RoverMinutes$Supply", name := "keep", desc := "(I)V" } : Jvm.MethodName) prog_7_method_11_code (2 : Nat) (Option.none : Option Jvm.ClassFile.FieldType) ∈ am_W := am_W_in (am_run_3 (List.mem_of_getElem? (i := 225) rfl)) rfl
theorem wd_3_226 : Jvm.Cond.methodLink "RoverMinutes" (199 : Nat) ({ cls := "RoverMinutes$Plan", name := "growOlder", desc := "()V" } : Jvm.MethodName) ∈ am_W := am_W_in (am_run_3 (List.mem_of_getElem? (i := 226) rfl)) rfl
theorem wd_3_227 : Jvm.Cond.instanceMethod ({ cls := "RoverMinutes$Plan", name := "growOlder", desc := "()V" } : Jvm.MethodName) ∈ am_W := am_W_in (am_run_3 (List.mem_of_getElem? (i := 227) rfl)) rfl
theorem wd_3_228 : Jvm.Cond.selects "RoverMinutes$Plan" ({ cls := "RoverMinutes$Plan", name := "growOlder", desc := "()V" } : Jvm.MethodName) ({ cls := "RoverMinutes$Plan", name := "growOlder", desc := "()V" } : Jvm.MethodName) ∈ am_W := am_W_in (am_run_3 (List.mem_of_getElem? (i := 228) rfl)) rfl
theorem wd_3_229 : Jvm.Cond.code ({ cls := "RoverMinutes$Plan", name := "growOlder", desc := "()V" } : Jvm.MethodName) prog_5_method_12_code (2 : Nat) (Option.none : Option Jvm.ClassFile.FieldType) ∈ am_W := am_W_in (am_run_3 (List.mem_of_getElem? (i := 229) rfl)) rfl
theorem wd_3_230 : Jvm.Cond.methodLink "RoverMinutes$Plan" (80 : Nat) ({ cls := "RoverMinutes$Activity", name := "growOlder", desc := "()V" } : Jvm.MethodName) ∈ am_W := am_W_in (am_run_3 (List.mem_of_getElem? (i := 230) rfl)) rfl
theorem wd_3_231 : Jvm.Cond.instanceMethod ({ cls := "RoverMinutes$Activity", name := "growOlder", desc := "()V" } : Jvm.MethodName) ∈ am_W := am_W_in (am_run_3 (List.mem_of_getElem? (i := 231) rfl)) rfl
theorem wd_3_232 : Jvm.Cond.selects "RoverMinutes$Activity" ({ cls := "RoverMinutes$Activity", name := "growOlder", desc := "()V" } : Jvm.MethodName) ({ cls := "RoverMinutes$Activity", name := "growOlder", desc := "()V" } : Jvm.MethodName) ∈ am_W := am_W_in (am_run_3 (List.mem_of_getElem? (i := 232) rfl)) rfl
theorem wd_3_233 : Jvm.Cond.code ({ cls := "RoverMinutes$Activity", name := "growOlder", desc := "()V" } : Jvm.MethodName) prog_2_method_11_code (1 : Nat) (Option.none : Option Jvm.ClassFile.FieldType) ∈ am_W := am_W_in (am_run_3 (List.mem_of_getElem? (i := 233) rfl)) rfl
theorem wd_3_234 : Jvm.Cond.methodLink "RoverMinutes$Activity" (69 : Nat) ({ cls := "RoverMinutes$Activity", name := "stop", desc := "()V" } : Jvm.MethodName) ∈ am_W := am_W_in (am_run_3 (List.mem_of_getElem? (i := 234) rfl)) rfl
theorem wd_3_236 : Jvm.Cond.instanceMethod ({ cls := "RoverMinutes$Activity", name := "stop", desc := "()V" } : Jvm.MethodName) ∈ am_W := am_W_in (am_run_3 (List.mem_of_getElem? (i := 236) rfl)) rfl
theorem wd_3_237 : Jvm.Cond.code ({ cls := "RoverMinutes$Activity", name := "stop", desc := "()V" } : Jvm.MethodName) prog_2_method_12_code (1 : Nat) (Option.none : Option Jvm.ClassFile.FieldType) ∈ am_W := am_W_in (am_run_3 (List.mem_of_getElem? (i := 237) rfl)) rfl
theorem wd_3_238 : Jvm.Cond.methodLink "RoverMinutes" (117 : Nat) ({ cls := "RoverMinutes", name := "passInReturn", desc := "()V" } : Jvm.MethodName) ∈ am_W := am_W_in (am_run_3 (List.mem_of_getElem? (i := 238) rfl)) rfl
theorem wd_4_0 : Jvm.Cond.instanceMethod ({ cls := "RoverMinutes", name := "passInReturn", desc := "()V" } : Jvm.MethodName) ∈ am_W := am_W_in (am_run_4 (List.mem_of_getElem? (i := 0) rfl)) rfl
theorem wd_4_1 : Jvm.Cond.code ({ cls := "RoverMinutes", name := "passInReturn", desc := "()V" } : Jvm.MethodName) prog_1_method_23_code (1 : Nat) (Option.none : Option Jvm.ClassFile.FieldType) ∈ am_W := am_W_in (am_run_4 (List.mem_of_getElem? (i := 1) rfl)) rfl
theorem wd_4_2 : Jvm.Cond.methodLink "RoverMinutesLaw" (90 : Nat) ({ cls := "RoverMinutesLaw", name := "lasts", desc := "(LRoverMinutes;II)I" } : Jvm.MethodName) ∈ am_W := am_W_in (am_run_4 (List.mem_of_getElem? (i := 2) rfl)) rfl
theorem wd_4_3 : Jvm.Cond.static ({ cls := "RoverMinutesLaw", name := "lasts", desc := "(LRoverMinutes;II)I" } : Jvm.MethodName) ∈ am_W := am_W_in (am_run_4 (List.mem_of_getElem? (i := 3) rfl)) rfl
theorem wd_4_4 : Jvm.Cond.codeWith ({ cls := "RoverMinutesLaw", name := "lasts", desc := "(LRoverMinutes;II)I" } : Jvm.MethodName) method_8_code (4 : Nat) (Option.some Jvm.ClassFile.FieldType.int) [((0 : Nat), (6 : Nat), (9 : Nat), (35 : Nat)), ((0 : Nat), (6 : Nat), (12 : Nat), (13 : Nat))] ∈ am_W := am_W_in (am_run_4 (List.mem_of_getElem? (i := 4) rfl)) rfl
theorem wd_4_5 : Jvm.Cond.classLink "RoverMinutesLaw" (35 : Nat) "java/lang/IndexOutOfBoundsException" ∈ am_W := am_W_in (am_run_4 (List.mem_of_getElem? (i := 5) rfl)) rfl
theorem wd_4_6 : Jvm.Cond.methodLink "RoverMinutesLaw" (31 : Nat) ({ cls := "RoverMinutes", name := "lasts", desc := "(II)V" } : Jvm.MethodName) ∈ am_W := am_W_in (am_run_4 (List.mem_of_getElem? (i := 6) rfl)) rfl
theorem wd_4_7 : Jvm.Cond.instanceMethod ({ cls := "RoverMinutes", name := "lasts", desc := "(II)V" } : Jvm.MethodName) ∈ am_W := am_W_in (am_run_4 (List.mem_of_getElem? (i := 7) rfl)) rfl
theorem wd_4_8 : Jvm.Cond.selects "RoverMinutes" ({ cls := "RoverMinutes", name := "lasts", desc := "(II)V" } : Jvm.MethodName) ({ cls := "RoverMinutes", name := "lasts", desc := "(II)V" } : Jvm.MethodName) ∈ am_W := am_W_in (am_run_4 (List.mem_of_getElem? (i := 8) rfl)) rfl
theorem wd_4_9 : Jvm.Cond.code ({ cls := "RoverMinutes", name := "lasts", desc := "(II)V" } : Jvm.MethodName) prog_1_method_7_code (3 : Nat) (Option.none : Option Jvm.ClassFile.FieldType) ∈ am_W := am_W_in (am_run_4 (List.mem_of_getElem? (i := 9) rfl)) rfl
theorem wd_4_10 : Jvm.Cond.methodLink "RoverMinutes" (124 : Nat) ({ cls := "RoverMinutes$Plan", name := "has", desc := "(I)Z" } : Jvm.MethodName) ∈ am_W := am_W_in (am_run_4 (List.mem_of_getElem? (i := 10) rfl)) rfl
theorem wd_4_11 : Jvm.Cond.instanceMethod ({ cls := "RoverMinutes$Plan", name := "has", desc := "(I)Z" } : Jvm.MethodName) ∈ am_W := am_W_in (am_run_4 (List.mem_of_getElem? (i := 11) rfl)) rfl
theorem wd_4_12 : Jvm.Cond.selects "RoverMinutes$Plan" ({ cls := "RoverMinutes$Plan", name := "has", desc := "(I)Z" } : Jvm.MethodName) ({ cls := "RoverMinutes$Plan", name := "has", desc := "(I)Z" } : Jvm.MethodName) ∈ am_W := am_W_in (am_run_4 (List.mem_of_getElem? (i := 12) rfl)) rfl
theorem wd_4_13 : Jvm.Cond.code ({ cls := "RoverMinutes$Plan", name := "has", desc := "(I)Z" } : Jvm.MethodName) prog_5_method_2_code (2 : Nat) (Option.some Jvm.ClassFile.FieldType.boolean) ∈ am_W := am_W_in (am_run_4 (List.mem_of_getElem? (i := 13) rfl)) rfl
theorem wd_4_14 : Jvm.Cond.classLink "RoverMinutes" (127 : Nat) "java/lang/IndexOutOfBoundsException" ∈ am_W := am_W_in (am_run_4 (List.mem_of_getElem? (i := 14) rfl)) rfl
theorem wd_4_15 : Jvm.Cond.instantiable "java/lang/IndexOutOfBoundsException" (6 : Nat) ∈ am_W := am_W_in (am_run_4 (List.mem_of_getElem? (i := 15) rfl)) rfl
theorem wd_4_17 : Jvm.Cond.selects "java/lang/IndexOutOfBoundsException" ({ cls := "java/lang/Throwable", name := "fillInStackTrace", desc := "(I)Ljava/lang/Throwable;" } : Jvm.MethodName) ({ cls := "java/lang/Throwable", name := "fillInStackTrace", desc := "(I)Ljava/lang/Throwable;" } : Jvm.MethodName) ∈ am_W := am_W_in (am_run_4 (List.mem_of_getElem? (i := 17) rfl)) rfl
theorem wd_4_18 : Jvm.Cond.lays "java/lang/IndexOutOfBoundsException" "java/lang/Throwable" "cause" "Ljava/lang/Throwable;" ∈ am_W := am_W_in (am_run_4 (List.mem_of_getElem? (i := 18) rfl)) rfl
theorem wd_4_19 : Jvm.Cond.lays "java/lang/IndexOutOfBoundsException" "java/lang/Throwable" "stackTrace" "[Ljava/lang/StackTraceElement;" ∈ am_W := am_W_in (am_run_4 (List.mem_of_getElem? (i := 19) rfl)) rfl
theorem wd_4_20 : Jvm.Cond.lays "java/lang/IndexOutOfBoundsException" "java/lang/Throwable" "suppressedExceptions" "Ljava/util/List;" ∈ am_W := am_W_in (am_run_4 (List.mem_of_getElem? (i := 20) rfl)) rfl
theorem wd_4_21 : Jvm.Cond.lays "java/lang/IndexOutOfBoundsException" "java/lang/Throwable" "detailMessage" "Ljava/lang/String;" ∈ am_W := am_W_in (am_run_4 (List.mem_of_getElem? (i := 21) rfl)) rfl
theorem wd_4_22 : Jvm.Cond.lays "java/lang/IndexOutOfBoundsException" "java/lang/Throwable" "backtrace" "Ljava/lang/Object;" ∈ am_W := am_W_in (am_run_4 (List.mem_of_getElem? (i := 22) rfl)) rfl
theorem wd_4_23 : Jvm.Cond.methodLink "RoverMinutes" (129 : Nat) ({ cls := "java/lang/IndexOutOfBoundsException", name := "<init>", desc := "()V" } : Jvm.MethodName) ∈ am_W := am_W_in (am_run_4 (List.mem_of_getElem? (i := 23) rfl)) rfl
theorem wd_4_24 : Jvm.Cond.instanceMethod ({ cls := "java/lang/IndexOutOfBoundsException", name := "<init>", desc := "()V" } : Jvm.MethodName) ∈ am_W := am_W_in (am_run_4 (List.mem_of_getElem? (i := 24) rfl)) rfl
theorem wd_4_25 : Jvm.Cond.code ({ cls := "java/lang/IndexOutOfBoundsException", name := "<init>", desc := "()V" } : Jvm.MethodName) prog_14_method_1_code (1 : Nat) (Option.none : Option Jvm.ClassFile.FieldType) ∈ am_W := am_W_in (am_run_4 (List.mem_of_getElem? (i := 25) rfl)) rfl
theorem wd_4_26 : Jvm.Cond.methodLink "java/lang/IndexOutOfBoundsException" (1 : Nat) ({ cls := "java/lang/RuntimeException", name := "<init>", desc := "()V" } : Jvm.MethodName) ∈ am_W := am_W_in (am_run_4 (List.mem_of_getElem? (i := 26) rfl)) rfl
theorem wd_4_27 : Jvm.Cond.lays "java/lang/IndexOutOfBoundsException" "java/lang/Throwable" "depth" "I" ∈ am_W := am_W_in (am_run_4 (List.mem_of_getElem? (i := 27) rfl)) rfl
theorem wd_4_28 : Jvm.Cond.superclass "java/lang/IndexOutOfBoundsException" "java/lang/RuntimeException" ∈ am_W := am_W_in (am_run_4 (List.mem_of_getElem? (i := 28) rfl)) rfl
theorem wd_4_29 : Jvm.Cond.methodLink "RoverMinutesLaw" (94 : Nat) ({ cls := "RoverMinutesLaw", name := "draws", desc := "(LRoverMinutes;II)I" } : Jvm.MethodName) ∈ am_W := am_W_in (am_run_4 (List.mem_of_getElem? (i := 29) rfl)) rfl
theorem wd_4_30 : Jvm.Cond.static ({ cls := "RoverMinutesLaw", name := "draws", desc := "(LRoverMinutes;II)I" } : Jvm.MethodName) ∈ am_W := am_W_in (am_run_4 (List.mem_of_getElem? (i := 30) rfl)) rfl
theorem wd_4_31 : Jvm.Cond.codeWith ({ cls := "RoverMinutesLaw", name := "draws", desc := "(LRoverMinutes;II)I" } : Jvm.MethodName) method_9_code (4 : Nat) (Option.some Jvm.ClassFile.FieldType.int) [((0 : Nat), (6 : Nat), (9 : Nat), (35 : Nat)), ((0 : Nat), (6 : Nat), (12 : Nat), (13 : Nat))] ∈ am_W := am_W_in (am_run_4 (List.mem_of_getElem? (i := 31) rfl)) rfl
theorem wd_4_32 : Jvm.Cond.methodLink "RoverMinutesLaw" (37 : Nat) ({ cls := "RoverMinutes", name := "draws", desc := "(II)V" } : Jvm.MethodName) ∈ am_W := am_W_in (am_run_4 (List.mem_of_getElem? (i := 32) rfl)) rfl
theorem wd_4_33 : Jvm.Cond.instanceMethod ({ cls := "RoverMinutes", name := "draws", desc := "(II)V" } : Jvm.MethodName) ∈ am_W := am_W_in (am_run_4 (List.mem_of_getElem? (i := 33) rfl)) rfl
theorem wd_4_34 : Jvm.Cond.selects "RoverMinutes" ({ cls := "RoverMinutes", name := "draws", desc := "(II)V" } : Jvm.MethodName) ({ cls := "RoverMinutes", name := "draws", desc := "(II)V" } : Jvm.MethodName) ∈ am_W := am_W_in (am_run_4 (List.mem_of_getElem? (i := 34) rfl)) rfl
theorem wd_4_35 : Jvm.Cond.code ({ cls := "RoverMinutes", name := "draws", desc := "(II)V" } : Jvm.MethodName) prog_1_method_8_code (3 : Nat) (Option.none : Option Jvm.ClassFile.FieldType) ∈ am_W := am_W_in (am_run_4 (List.mem_of_getElem? (i := 35) rfl)) rfl
theorem wd_4_36 : Jvm.Cond.methodLink "RoverMinutesLaw" (97 : Nat) ({ cls := "RoverMinutesLaw", name := "curve", desc := "(LRoverMinutes;II)I" } : Jvm.MethodName) ∈ am_W := am_W_in (am_run_4 (List.mem_of_getElem? (i := 36) rfl)) rfl
theorem wd_4_37 : Jvm.Cond.static ({ cls := "RoverMinutesLaw", name := "curve", desc := "(LRoverMinutes;II)I" } : Jvm.MethodName) ∈ am_W := am_W_in (am_run_4 (List.mem_of_getElem? (i := 37) rfl)) rfl
theorem wd_4_38 : Jvm.Cond.codeWith ({ cls := "RoverMinutesLaw", name := "curve", desc := "(LRoverMinutes;II)I" } : Jvm.MethodName) method_10_code (4 : Nat) (Option.some Jvm.ClassFile.FieldType.int) [((0 : Nat), (6 : Nat), (9 : Nat), (35 : Nat)), ((0 : Nat), (6 : Nat), (12 : Nat), (13 : Nat))] ∈ am_W := am_W_in (am_run_4 (List.mem_of_getElem? (i := 38) rfl)) rfl
theorem wd_4_39 : Jvm.Cond.methodLink "RoverMinutesLaw" (40 : Nat) ({ cls := "RoverMinutes", name := "curve", desc := "(II)V" } : Jvm.MethodName) ∈ am_W := am_W_in (am_run_4 (List.mem_of_getElem? (i := 39) rfl)) rfl
theorem wd_4_40 : Jvm.Cond.instanceMethod ({ cls := "RoverMinutes", name := "curve", desc := "(II)V" } : Jvm.MethodName) ∈ am_W := am_W_in (am_run_4 (List.mem_of_getElem? (i := 40) rfl)) rfl
theorem wd_4_41 : Jvm.Cond.selects "RoverMinutes" ({ cls := "RoverMinutes", name := "curve", desc := "(II)V" } : Jvm.MethodName) ({ cls := "RoverMinutes", name := "curve", desc := "(II)V" } : Jvm.MethodName) ∈ am_W := am_W_in (am_run_4 (List.mem_of_getElem? (i := 41) rfl)) rfl
theorem wd_4_42 : Jvm.Cond.code ({ cls := "RoverMinutes", name := "curve", desc := "(II)V" } : Jvm.MethodName) prog_1_method_9_code (3 : Nat) (Option.none : Option Jvm.ClassFile.FieldType) ∈ am_W := am_W_in (am_run_4 (List.mem_of_getElem? (i := 42) rfl)) rfl
theorem wd_4_43 : Jvm.Cond.methodLink "RoverMinutes" (142 : Nat) ({ cls := "RoverMinutes$Supply", name := "setLowerGain", desc := "(II)V" } : Jvm.MethodName) ∈ am_W := am_W_in (am_run_4 (List.mem_of_getElem? (i := 43) rfl)) rfl
theorem wd_4_44 : Jvm.Cond.instanceMethod ({ cls := "RoverMinutes$Supply", name := "setLowerGain", desc := "(II)V" } : Jvm.MethodName) ∈ am_W := am_W_in (am_run_4 (List.mem_of_getElem? (i := 44) rfl)) rfl
theorem wd_4_45 : Jvm.Cond.selects "RoverMinutes$Supply" ({ cls := "RoverMinutes$Supply", name := "setLowerGain", desc := "(II)V" } : Jvm.MethodName) ({ cls := "RoverMinutes$Supply", name := "setLowerGain", desc := "(II)V" } : Jvm.MethodName) ∈ am_W := am_W_in (am_run_4 (List.mem_of_getElem? (i := 45) rfl)) rfl
theorem wd_4_46 : Jvm.Cond.code ({ cls := "RoverMinutes$Supply", name := "setLowerGain", desc := "(II)V" } : Jvm.MethodName) prog_7_method_3_code (3 : Nat) (Option.none : Option Jvm.ClassFile.FieldType) ∈ am_W := am_W_in (am_run_4 (List.mem_of_getElem? (i := 46) rfl)) rfl
theorem wd_4_47 : Jvm.Cond.methodLink "RoverMinutesLaw" (100 : Nat) ({ cls := "RoverMinutesLaw", name := "gain", desc := "(LRoverMinutes;I)I" } : Jvm.MethodName) ∈ am_W := am_W_in (am_run_4 (List.mem_of_getElem? (i := 47) rfl)) rfl
theorem wd_4_48 : Jvm.Cond.static ({ cls := "RoverMinutesLaw", name := "gain", desc := "(LRoverMinutes;I)I" } : Jvm.MethodName) ∈ am_W := am_W_in (am_run_4 (List.mem_of_getElem? (i := 48) rfl)) rfl
theorem wd_4_49 : Jvm.Cond.codeWith ({ cls := "RoverMinutesLaw", name := "gain", desc := "(LRoverMinutes;I)I" } : Jvm.MethodName) method_11_code (3 : Nat) (Option.some Jvm.ClassFile.FieldType.int) [((0 : Nat), (5 : Nat), (8 : Nat), (13 : Nat))] ∈ am_W := am_W_in (am_run_4 (List.mem_of_getElem? (i := 49) rfl)) rfl
theorem wd_4_50 : Jvm.Cond.methodLink "RoverMinutesLaw" (43 : Nat) ({ cls := "RoverMinutes", name := "gain", desc := "(I)V" } : Jvm.MethodName) ∈ am_W := am_W_in (am_run_4 (List.mem_of_getElem? (i := 50) rfl)) rfl
theorem wd_4_51 : Jvm.Cond.instanceMethod ({ cls := "RoverMinutes", name := "gain", desc := "(I)V" } : Jvm.MethodName) ∈ am_W := am_W_in (am_run_4 (List.mem_of_getElem? (i := 51) rfl)) rfl
theorem wd_4_52 : Jvm.Cond.selects "RoverMinutes" ({ cls := "RoverMinutes", name := "gain", desc := "(I)V" } : Jvm.MethodName) ({ cls := "RoverMinutes", name := "gain", desc := "(I)V" } : Jvm.MethodName) ∈ am_W := am_W_in (am_run_4 (List.mem_of_getElem? (i := 52) rfl)) rfl
theorem wd_4_53 : Jvm.Cond.code ({ cls := "RoverMinutes", name := "gain", desc := "(I)V" } : Jvm.MethodName) prog_1_method_10_code (2 : Nat) (Option.none : Option Jvm.ClassFile.FieldType) ∈ am_W := am_W_in (am_run_4 (List.mem_of_getElem? (i := 53) rfl)) rfl
theorem wd_4_54 : Jvm.Cond.methodLink "RoverMinutesLaw" (104 : Nat) ({ cls := "RoverMinutesLaw", name := "home", desc := "(LRoverMinutes;II)I" } : Jvm.MethodName) ∈ am_W := am_W_in (am_run_4 (List.mem_of_getElem? (i := 54) rfl)) rfl
theorem wd_4_55 : Jvm.Cond.static ({ cls := "RoverMinutesLaw", name := "home", desc := "(LRoverMinutes;II)I" } : Jvm.MethodName) ∈ am_W := am_W_in (am_run_4 (List.mem_of_getElem? (i := 55) rfl)) rfl
theorem wd_4_56 : Jvm.Cond.codeWith ({ cls := "RoverMinutesLaw", name := "home", desc := "(LRoverMinutes;II)I" } : Jvm.MethodName) method_12_code (4 : Nat) (Option.some Jvm.ClassFile.FieldType.int) [((0 : Nat), (6 : Nat), (9 : Nat), (13 : Nat)), ((0 : Nat), (6 : Nat), (12 : Nat), (19 : Nat))] ∈ am_W := am_W_in (am_run_4 (List.mem_of_getElem? (i := 56) rfl)) rfl
theorem wd_4_57 : Jvm.Cond.methodLink "RoverMinutesLaw" (47 : Nat) ({ cls := "RoverMinutes", name := "home", desc := "(II)V" } : Jvm.MethodName) ∈ am_W := am_W_in (am_run_4 (List.mem_of_getElem? (i := 57) rfl)) rfl
theorem wd_4_58 : Jvm.Cond.instanceMethod ({ cls := "RoverMinutes", name := "home", desc := "(II)V" } : Jvm.MethodName) ∈ am_W := am_W_in (am_run_4 (List.mem_of_getElem? (i := 58) rfl)) rfl
theorem wd_4_59 : Jvm.Cond.selects "RoverMinutes" ({ cls := "RoverMinutes", name := "home", desc := "(II)V" } : Jvm.MethodName) ({ cls := "RoverMinutes", name := "home", desc := "(II)V" } : Jvm.MethodName) ∈ am_W := am_W_in (am_run_4 (List.mem_of_getElem? (i := 59) rfl)) rfl
theorem wd_4_60 : Jvm.Cond.code ({ cls := "RoverMinutes", name := "home", desc := "(II)V" } : Jvm.MethodName) prog_1_method_11_code (3 : Nat) (Option.none : Option Jvm.ClassFile.FieldType) ∈ am_W := am_W_in (am_run_4 (List.mem_of_getElem? (i := 60) rfl)) rfl
theorem wd_4_61 : Jvm.Cond.methodLink "RoverMinutes" (148 : Nat) ({ cls := "RoverMinutes$Supply", name := "setWayHome", desc := "(II)V" } : Jvm.MethodName) ∈ am_W := am_W_in (am_run_4 (List.mem_of_getElem? (i := 61) rfl)) rfl
theorem wd_4_62 : Jvm.Cond.methodLink "RoverMinutesLaw" (107 : Nat) ({ cls := "RoverMinutesLaw", name := "fill", desc := "(LRoverMinutes;II)I" } : Jvm.MethodName) ∈ am_W := am_W_in (am_run_4 (List.mem_of_getElem? (i := 62) rfl)) rfl
theorem wd_4_63 : Jvm.Cond.static ({ cls := "RoverMinutesLaw", name := "fill", desc := "(LRoverMinutes;II)I" } : Jvm.MethodName) ∈ am_W := am_W_in (am_run_4 (List.mem_of_getElem? (i := 63) rfl)) rfl
theorem wd_4_64 : Jvm.Cond.codeWith ({ cls := "RoverMinutesLaw", name := "fill", desc := "(LRoverMinutes;II)I" } : Jvm.MethodName) method_13_code (4 : Nat) (Option.some Jvm.ClassFile.FieldType.int) [((0 : Nat), (6 : Nat), (9 : Nat), (13 : Nat)), ((0 : Nat), (6 : Nat), (12 : Nat), (19 : Nat))] ∈ am_W := am_W_in (am_run_4 (List.mem_of_getElem? (i := 64) rfl)) rfl
theorem wd_4_65 : Jvm.Cond.methodLink "RoverMinutesLaw" (50 : Nat) ({ cls := "RoverMinutes", name := "fill", desc := "(II)V" } : Jvm.MethodName) ∈ am_W := am_W_in (am_run_4 (List.mem_of_getElem? (i := 65) rfl)) rfl
theorem wd_4_66 : Jvm.Cond.instanceMethod ({ cls := "RoverMinutes", name := "fill", desc := "(II)V" } : Jvm.MethodName) ∈ am_W := am_W_in (am_run_4 (List.mem_of_getElem? (i := 66) rfl)) rfl
theorem wd_4_67 : Jvm.Cond.selects "RoverMinutes" ({ cls := "RoverMinutes", name := "fill", desc := "(II)V" } : Jvm.MethodName) ({ cls := "RoverMinutes", name := "fill", desc := "(II)V" } : Jvm.MethodName) ∈ am_W := am_W_in (am_run_4 (List.mem_of_getElem? (i := 67) rfl)) rfl
theorem wd_4_68 : Jvm.Cond.code ({ cls := "RoverMinutes", name := "fill", desc := "(II)V" } : Jvm.MethodName) prog_1_method_12_code (3 : Nat) (Option.none : Option Jvm.ClassFile.FieldType) ∈ am_W := am_W_in (am_run_4 (List.mem_of_getElem? (i := 68) rfl)) rfl
theorem wd_4_69 : Jvm.Cond.methodLink "RoverMinutesLaw" (118 : Nat) ({ cls := "RoverMinutesLaw", name := "level", desc := "(LRoverMinutes;I[J)I" } : Jvm.MethodName) ∈ am_W := am_W_in (am_run_4 (List.mem_of_getElem? (i := 69) rfl)) rfl
theorem wd_4_70 : Jvm.Cond.static ({ cls := "RoverMinutesLaw", name := "level", desc := "(LRoverMinutes;I[J)I" } : Jvm.MethodName) ∈ am_W := am_W_in (am_run_4 (List.mem_of_getElem? (i := 70) rfl)) rfl
theorem wd_4_71 : Jvm.Cond.codeWith ({ cls := "RoverMinutesLaw", name := "level", desc := "(LRoverMinutes;I[J)I" } : Jvm.MethodName) method_14_code (4 : Nat) (Option.some Jvm.ClassFile.FieldType.int) [((0 : Nat), (9 : Nat), (12 : Nat), (35 : Nat))] ∈ am_W := am_W_in (am_run_4 (List.mem_of_getElem? (i := 71) rfl)) rfl
theorem wd_4_72 : Jvm.Cond.methodLink "RoverMinutesLaw" (53 : Nat) ({ cls := "RoverMinutes", name := "level", desc := "(I)I" } : Jvm.MethodName) ∈ am_W := am_W_in (am_run_4 (List.mem_of_getElem? (i := 72) rfl)) rfl
theorem wd_4_73 : Jvm.Cond.instanceMethod ({ cls := "RoverMinutes", name := "level", desc := "(I)I" } : Jvm.MethodName) ∈ am_W := am_W_in (am_run_4 (List.mem_of_getElem? (i := 73) rfl)) rfl
theorem wd_4_74 : Jvm.Cond.selects "RoverMinutes" ({ cls := "RoverMinutes", name := "level", desc := "(I)I" } : Jvm.MethodName) ({ cls := "RoverMinutes", name := "level", desc := "(I)I" } : Jvm.MethodName) ∈ am_W := am_W_in (am_run_4 (List.mem_of_getElem? (i := 74) rfl)) rfl
theorem wd_4_75 : Jvm.Cond.code ({ cls := "RoverMinutes", name := "level", desc := "(I)I" } : Jvm.MethodName) prog_1_method_15_code (2 : Nat) (Option.some Jvm.ClassFile.FieldType.int) ∈ am_W := am_W_in (am_run_4 (List.mem_of_getElem? (i := 75) rfl)) rfl
theorem wd_4_76 : Jvm.Cond.methodLink "RoverMinutes" (154 : Nat) ({ cls := "RoverMinutes$Plan", name := "runningHeat", desc := "()I" } : Jvm.MethodName) ∈ am_W := am_W_in (am_run_4 (List.mem_of_getElem? (i := 76) rfl)) rfl
theorem wd_4_77 : Jvm.Cond.instanceMethod ({ cls := "RoverMinutes$Plan", name := "runningHeat", desc := "()I" } : Jvm.MethodName) ∈ am_W := am_W_in (am_run_4 (List.mem_of_getElem? (i := 77) rfl)) rfl
theorem wd_4_78 : Jvm.Cond.selects "RoverMinutes$Plan" ({ cls := "RoverMinutes$Plan", name := "runningHeat", desc := "()I" } : Jvm.MethodName) ({ cls := "RoverMinutes$Plan", name := "runningHeat", desc := "()I" } : Jvm.MethodName) ∈ am_W := am_W_in (am_run_4 (List.mem_of_getElem? (i := 78) rfl)) rfl
theorem wd_4_79 : Jvm.Cond.code ({ cls := "RoverMinutes$Plan", name := "runningHeat", desc := "()I" } : Jvm.MethodName) prog_5_method_11_code (3 : Nat) (Option.some Jvm.ClassFile.FieldType.int) ∈ am_W := am_W_in (am_run_4 (List.mem_of_getElem? (i := 79) rfl)) rfl
theorem wd_4_80 : Jvm.Cond.methodLink "RoverMinutesLaw" (129 : Nat) ({ cls := "RoverMinutesLaw", name := "activity", desc := "(LRoverMinutes;II[J)I" } : Jvm.MethodName) ∈ am_W := am_W_in (am_run_4 (List.mem_of_getElem? (i := 80) rfl)) rfl
theorem wd_4_81 : Jvm.Cond.static ({ cls := "RoverMinutesLaw", name := "activity", desc := "(LRoverMinutes;II[J)I" } : Jvm.MethodName) ∈ am_W := am_W_in (am_run_4 (List.mem_of_getElem? (i := 81) rfl)) rfl
theorem wd_4_82 : Jvm.Cond.codeWith ({ cls := "RoverMinutesLaw", name := "activity", desc := "(LRoverMinutes;II[J)I" } : Jvm.MethodName) method_15_code (5 : Nat) (Option.some Jvm.ClassFile.FieldType.int) [((0 : Nat), (10 : Nat), (13 : Nat), (35 : Nat))] ∈ am_W := am_W_in (am_run_4 (List.mem_of_getElem? (i := 82) rfl)) rfl
theorem wd_4_83 : Jvm.Cond.methodLink "RoverMinutesLaw" (56 : Nat) ({ cls := "RoverMinutes", name := "activity", desc := "(II)I" } : Jvm.MethodName) ∈ am_W := am_W_in (am_run_4 (List.mem_of_getElem? (i := 83) rfl)) rfl
theorem wd_4_84 : Jvm.Cond.instanceMethod ({ cls := "RoverMinutes", name := "activity", desc := "(II)I" } : Jvm.MethodName) ∈ am_W := am_W_in (am_run_4 (List.mem_of_getElem? (i := 84) rfl)) rfl
theorem wd_4_85 : Jvm.Cond.selects "RoverMinutes" ({ cls := "RoverMinutes", name := "activity", desc := "(II)I" } : Jvm.MethodName) ({ cls := "RoverMinutes", name := "activity", desc := "(II)I" } : Jvm.MethodName) ∈ am_W := am_W_in (am_run_4 (List.mem_of_getElem? (i := 85) rfl)) rfl
theorem wd_4_86 : Jvm.Cond.code ({ cls := "RoverMinutes", name := "activity", desc := "(II)I" } : Jvm.MethodName) prog_1_method_18_code (4 : Nat) (Option.some Jvm.ClassFile.FieldType.int) ∈ am_W := am_W_in (am_run_4 (List.mem_of_getElem? (i := 86) rfl)) rfl
theorem wd_4_87 : Jvm.Cond.methodLink "RoverMinutesLaw" (137 : Nat) ({ cls := "RoverMinutesLaw", name := "could", desc := "(LRoverMinutes;I[J)I" } : Jvm.MethodName) ∈ am_W := am_W_in (am_run_4 (List.mem_of_getElem? (i := 87) rfl)) rfl
theorem wd_4_88 : Jvm.Cond.static ({ cls := "RoverMinutesLaw", name := "could", desc := "(LRoverMinutes;I[J)I" } : Jvm.MethodName) ∈ am_W := am_W_in (am_run_4 (List.mem_of_getElem? (i := 88) rfl)) rfl
theorem wd_4_89 : Jvm.Cond.codeWith ({ cls := "RoverMinutesLaw", name := "could", desc := "(LRoverMinutes;I[J)I" } : Jvm.MethodName) method_16_code (4 : Nat) (Option.some Jvm.ClassFile.FieldType.int) [((0 : Nat), (16 : Nat), (19 : Nat), (35 : Nat))] ∈ am_W := am_W_in (am_run_4 (List.mem_of_getElem? (i := 89) rfl)) rfl
theorem wd_4_90 : Jvm.Cond.methodLink "RoverMinutesLaw" (60 : Nat) ({ cls := "RoverMinutes", name := "could", desc := "(I)Z" } : Jvm.MethodName) ∈ am_W := am_W_in (am_run_4 (List.mem_of_getElem? (i := 90) rfl)) rfl
theorem wd_4_91 : Jvm.Cond.instanceMethod ({ cls := "RoverMinutes", name := "could", desc := "(I)Z" } : Jvm.MethodName) ∈ am_W := am_W_in (am_run_4 (List.mem_of_getElem? (i := 91) rfl)) rfl
theorem wd_4_92 : Jvm.Cond.selects "RoverMinutes" ({ cls := "RoverMinutes", name := "could", desc := "(I)Z" } : Jvm.MethodName) ({ cls := "RoverMinutes", name := "could", desc := "(I)Z" } : Jvm.MethodName) ∈ am_W := am_W_in (am_run_4 (List.mem_of_getElem? (i := 92) rfl)) rfl
theorem wd_4_93 : Jvm.Cond.code ({ cls := "RoverMinutes", name := "could", desc := "(I)Z" } : Jvm.MethodName) prog_1_method_20_code (2 : Nat) (Option.some Jvm.ClassFile.FieldType.boolean) ∈ am_W := am_W_in (am_run_4 (List.mem_of_getElem? (i := 93) rfl)) rfl
theorem wd_4_94 : Jvm.Cond.classLink "RoverMinutesLaw" (64 : Nat) "RoverMinutesModel" ∈ am_W := am_W_in (am_run_4 (List.mem_of_getElem? (i := 94) rfl)) rfl
theorem wd_4_95 : Jvm.Cond.instantiable "RoverMinutesModel" (31 : Nat) ∈ am_W := am_W_in (am_run_4 (List.mem_of_getElem? (i := 95) rfl)) rfl
theorem wd_4_96 : Jvm.Cond.methodLink "RoverMinutesLaw" (66 : Nat) ({ cls := "RoverMinutesModel", name := "<init>", desc := "()V" } : Jvm.MethodName) ∈ am_W := am_W_in (am_run_4 (List.mem_of_getElem? (i := 96) rfl)) rfl
theorem wd_4_97 : Jvm.Cond.instanceMethod ({ cls := "RoverMinutesModel", name := "<init>", desc := "()V" } : Jvm.MethodName) ∈ am_W := am_W_in (am_run_4 (List.mem_of_getElem? (i := 97) rfl)) rfl
theorem wd_4_98 : Jvm.Cond.code ({ cls := "RoverMinutesModel", name := "<init>", desc := "()V" } : Jvm.MethodName) prog_9_method_1_code (1 : Nat) (Option.none : Option Jvm.ClassFile.FieldType) ∈ am_W := am_W_in (am_run_4 (List.mem_of_getElem? (i := 98) rfl)) rfl
theorem wd_4_99 : Jvm.Cond.methodLink "RoverMinutesModel" (1 : Nat) ({ cls := "java/lang/Object", name := "<init>", desc := "()V" } : Jvm.MethodName) ∈ am_W := am_W_in (am_run_4 (List.mem_of_getElem? (i := 99) rfl)) rfl
theorem wd_4_100 : Jvm.Cond.fieldLink "RoverMinutesModel" (74 : Nat) "RoverMinutesModel" "thrown" "I" ∈ am_W := am_W_in (am_run_4 (List.mem_of_getElem? (i := 100) rfl)) rfl
theorem wd_4_101 : Jvm.Cond.fieldLink "RoverMinutesModel" (7 : Nat) "RoverMinutesModel" "line" "[I" ∈ am_W := am_W_in (am_run_4 (List.mem_of_getElem? (i := 101) rfl)) rfl
theorem wd_4_102 : Jvm.Cond.fieldLink "RoverMinutesModel" (71 : Nat) "RoverMinutesModel" "typed" "I" ∈ am_W := am_W_in (am_run_4 (List.mem_of_getElem? (i := 102) rfl)) rfl
theorem wd_4_103 : Jvm.Cond.fieldLink "RoverMinutesModel" (77 : Nat) "RoverMinutesModel" "at" "I" ∈ am_W := am_W_in (am_run_4 (List.mem_of_getElem? (i := 103) rfl)) rfl
theorem wd_4_104 : Jvm.Cond.fieldLink "RoverMinutesModel" (91 : Nat) "RoverMinutesModel" "readCount" "I" ∈ am_W := am_W_in (am_run_4 (List.mem_of_getElem? (i := 104) rfl)) rfl
theorem wd_4_105 : Jvm.Cond.fieldLink "RoverMinutesModel" (98 : Nat) "RoverMinutesModel" "seen" "I" ∈ am_W := am_W_in (am_run_4 (List.mem_of_getElem? (i := 105) rfl)) rfl
theorem wd_4_106 : Jvm.Cond.fieldLink "RoverMinutesModel" (13 : Nat) "RoverMinutesModel" "read" "[I" ∈ am_W := am_W_in (am_run_4 (List.mem_of_getElem? (i := 106) rfl)) rfl
theorem wd_4_107 : Jvm.Cond.fieldLink "RoverMinutesModel" (16 : Nat) "RoverMinutesModel" "rings" "[I" ∈ am_W := am_W_in (am_run_4 (List.mem_of_getElem? (i := 107) rfl)) rfl
theorem wd_4_108 : Jvm.Cond.fieldLink "RoverMinutesModel" (19 : Nat) "RoverMinutesModel" "firsts" "[I" ∈ am_W := am_W_in (am_run_4 (List.mem_of_getElem? (i := 108) rfl)) rfl
theorem wd_4_109 : Jvm.Cond.fieldLink "RoverMinutesModel" (120 : Nat) "RoverMinutesModel" "count" "I" ∈ am_W := am_W_in (am_run_4 (List.mem_of_getElem? (i := 109) rfl)) rfl
theorem wd_4_110 : Jvm.Cond.fieldLink "RoverMinutesModel" (22 : Nat) "RoverMinutesModel" "plan" "[I" ∈ am_W := am_W_in (am_run_4 (List.mem_of_getElem? (i := 110) rfl)) rfl
theorem wd_4_111 : Jvm.Cond.fieldLink "RoverMinutesModel" (25 : Nat) "RoverMinutesModel" "earliest" "[I" ∈ am_W := am_W_in (am_run_4 (List.mem_of_getElem? (i := 111) rfl)) rfl
theorem wd_4_112 : Jvm.Cond.fieldLink "RoverMinutesModel" (28 : Nat) "RoverMinutesModel" "states" "[I" ∈ am_W := am_W_in (am_run_4 (List.mem_of_getElem? (i := 112) rfl)) rfl
theorem wd_4_113 : Jvm.Cond.fieldLink "RoverMinutesModel" (31 : Nat) "RoverMinutesModel" "started" "[I" ∈ am_W := am_W_in (am_run_4 (List.mem_of_getElem? (i := 113) rfl)) rfl
theorem wd_4_114 : Jvm.Cond.fieldLink "RoverMinutesModel" (34 : Nat) "RoverMinutesModel" "ages" "[I" ∈ am_W := am_W_in (am_run_4 (List.mem_of_getElem? (i := 114) rfl)) rfl
theorem wd_4_115 : Jvm.Cond.fieldLink "RoverMinutesModel" (37 : Nat) "RoverMinutesModel" "retries" "[I" ∈ am_W := am_W_in (am_run_4 (List.mem_of_getElem? (i := 115) rfl)) rfl
theorem wd_4_116 : Jvm.Cond.fieldLink "RoverMinutesModel" (40 : Nat) "RoverMinutesModel" "starts" "[I" ∈ am_W := am_W_in (am_run_4 (List.mem_of_getElem? (i := 116) rfl)) rfl
theorem wd_4_117 : Jvm.Cond.fieldLink "RoverMinutesModel" (43 : Nat) "RoverMinutesModel" "lengths" "[I" ∈ am_W := am_W_in (am_run_4 (List.mem_of_getElem? (i := 117) rfl)) rfl
theorem wd_4_118 : Jvm.Cond.fieldLink "RoverMinutesModel" (46 : Nat) "RoverMinutesModel" "pulls" "[I" ∈ am_W := am_W_in (am_run_4 (List.mem_of_getElem? (i := 118) rfl)) rfl
theorem wd_4_119 : Jvm.Cond.fieldLink "RoverMinutesModel" (49 : Nat) "RoverMinutesModel" "saidLength" "[I" ∈ am_W := am_W_in (am_run_4 (List.mem_of_getElem? (i := 119) rfl)) rfl
theorem wd_4_120 : Jvm.Cond.fieldLink "RoverMinutesModel" (52 : Nat) "RoverMinutesModel" "saidPull" "[I" ∈ am_W := am_W_in (am_run_4 (List.mem_of_getElem? (i := 120) rfl)) rfl
theorem wd_4_121 : Jvm.Cond.fieldLink "RoverMinutesModel" (154 : Nat) "RoverMinutesModel" "time" "I" ∈ am_W := am_W_in (am_run_4 (List.mem_of_getElem? (i := 121) rfl)) rfl
theorem wd_4_122 : Jvm.Cond.fieldLink "RoverMinutesModel" (123 : Nat) "RoverMinutesModel" "mode" "I" ∈ am_W := am_W_in (am_run_4 (List.mem_of_getElem? (i := 122) rfl)) rfl
theorem wd_4_123 : Jvm.Cond.fieldLink "RoverMinutesModel" (55 : Nat) "RoverMinutesModel" "level" "I" ∈ am_W := am_W_in (am_run_4 (List.mem_of_getElem? (i := 123) rfl)) rfl
theorem wd_4_124 : Jvm.Cond.fieldLink "RoverMinutesModel" (151 : Nat) "RoverMinutesModel" "store" "I" ∈ am_W := am_W_in (am_run_4 (List.mem_of_getElem? (i := 124) rfl)) rfl
theorem wd_4_125 : Jvm.Cond.fieldLink "RoverMinutesModel" (59 : Nat) "RoverMinutesModel" "curve" "[I" ∈ am_W := am_W_in (am_run_4 (List.mem_of_getElem? (i := 125) rfl)) rfl
theorem wd_4_126 : Jvm.Cond.fieldLink "RoverMinutesModel" (62 : Nat) "RoverMinutesModel" "trueGain" "I" ∈ am_W := am_W_in (am_run_4 (List.mem_of_getElem? (i := 126) rfl)) rfl
theorem wd_4_127 : Jvm.Cond.fieldLink "RoverMinutesModel" (65 : Nat) "RoverMinutesModel" "homeMinutes" "I" ∈ am_W := am_W_in (am_run_4 (List.mem_of_getElem? (i := 127) rfl)) rfl
theorem wd_4_128 : Jvm.Cond.fieldLink "RoverMinutesModel" (68 : Nat) "RoverMinutesModel" "homeDraw" "I" ∈ am_W := am_W_in (am_run_4 (List.mem_of_getElem? (i := 128) rfl)) rfl
theorem wd_4_129 : Jvm.Cond.fieldLink "RoverMinutesModel" (179 : Nat) "RoverMinutesModel" "homeLeft" "I" ∈ am_W := am_W_in (am_run_4 (List.mem_of_getElem? (i := 129) rfl)) rfl
theorem wd_4_130 : Jvm.Cond.fieldLink "RoverMinutesModel" (163 : Nat) "RoverMinutesModel" "enabledAt" "I" ∈ am_W := am_W_in (am_run_4 (List.mem_of_getElem? (i := 130) rfl)) rfl
theorem wd_4_131 : Jvm.Cond.lays "RoverMinutesModel" "RoverMinutesModel" "thrown" "I" ∈ am_W := am_W_in (am_run_4 (List.mem_of_getElem? (i := 131) rfl)) rfl
theorem wd_4_133 : Jvm.Cond.laysFinal "RoverMinutesModel" "RoverMinutesModel" "line" "[I" ∈ am_W := am_W_in (am_run_4 (List.mem_of_getElem? (i := 133) rfl)) rfl
theorem wd_4_135 : Jvm.Cond.lays "RoverMinutesModel" "RoverMinutesModel" "typed" "I" ∈ am_W := am_W_in (am_run_4 (List.mem_of_getElem? (i := 135) rfl)) rfl
theorem wd_4_137 : Jvm.Cond.lays "RoverMinutesModel" "RoverMinutesModel" "at" "I" ∈ am_W := am_W_in (am_run_4 (List.mem_of_getElem? (i := 137) rfl)) rfl
theorem wd_4_139 : Jvm.Cond.lays "RoverMinutesModel" "RoverMinutesModel" "readCount" "I" ∈ am_W := am_W_in (am_run_4 (List.mem_of_getElem? (i := 139) rfl)) rfl
theorem wd_4_141 : Jvm.Cond.lays "RoverMinutesModel" "RoverMinutesModel" "seen" "I" ∈ am_W := am_W_in (am_run_4 (List.mem_of_getElem? (i := 141) rfl)) rfl
theorem wd_4_143 : Jvm.Cond.laysFinal "RoverMinutesModel" "RoverMinutesModel" "read" "[I" ∈ am_W := am_W_in (am_run_4 (List.mem_of_getElem? (i := 143) rfl)) rfl
theorem wd_4_145 : Jvm.Cond.laysFinal "RoverMinutesModel" "RoverMinutesModel" "rings" "[I" ∈ am_W := am_W_in (am_run_4 (List.mem_of_getElem? (i := 145) rfl)) rfl
theorem wd_4_147 : Jvm.Cond.laysFinal "RoverMinutesModel" "RoverMinutesModel" "firsts" "[I" ∈ am_W := am_W_in (am_run_4 (List.mem_of_getElem? (i := 147) rfl)) rfl
theorem wd_4_149 : Jvm.Cond.lays "RoverMinutesModel" "RoverMinutesModel" "count" "I" ∈ am_W := am_W_in (am_run_4 (List.mem_of_getElem? (i := 149) rfl)) rfl
theorem wd_4_151 : Jvm.Cond.laysFinal "RoverMinutesModel" "RoverMinutesModel" "plan" "[I" ∈ am_W := am_W_in (am_run_4 (List.mem_of_getElem? (i := 151) rfl)) rfl
theorem wd_4_153 : Jvm.Cond.laysFinal "RoverMinutesModel" "RoverMinutesModel" "earliest" "[I" ∈ am_W := am_W_in (am_run_4 (List.mem_of_getElem? (i := 153) rfl)) rfl
theorem wd_4_155 : Jvm.Cond.laysFinal "RoverMinutesModel" "RoverMinutesModel" "states" "[I" ∈ am_W := am_W_in (am_run_4 (List.mem_of_getElem? (i := 155) rfl)) rfl
theorem wd_4_157 : Jvm.Cond.laysFinal "RoverMinutesModel" "RoverMinutesModel" "started" "[I" ∈ am_W := am_W_in (am_run_4 (List.mem_of_getElem? (i := 157) rfl)) rfl
theorem wd_4_159 : Jvm.Cond.laysFinal "RoverMinutesModel" "RoverMinutesModel" "ages" "[I" ∈ am_W := am_W_in (am_run_4 (List.mem_of_getElem? (i := 159) rfl)) rfl
theorem wd_4_161 : Jvm.Cond.laysFinal "RoverMinutesModel" "RoverMinutesModel" "retries" "[I" ∈ am_W := am_W_in (am_run_4 (List.mem_of_getElem? (i := 161) rfl)) rfl
theorem wd_4_163 : Jvm.Cond.laysFinal "RoverMinutesModel" "RoverMinutesModel" "starts" "[I" ∈ am_W := am_W_in (am_run_4 (List.mem_of_getElem? (i := 163) rfl)) rfl
theorem wd_4_165 : Jvm.Cond.laysFinal "RoverMinutesModel" "RoverMinutesModel" "lengths" "[I" ∈ am_W := am_W_in (am_run_4 (List.mem_of_getElem? (i := 165) rfl)) rfl
theorem wd_4_167 : Jvm.Cond.laysFinal "RoverMinutesModel" "RoverMinutesModel" "pulls" "[I" ∈ am_W := am_W_in (am_run_4 (List.mem_of_getElem? (i := 167) rfl)) rfl
theorem wd_4_169 : Jvm.Cond.laysFinal "RoverMinutesModel" "RoverMinutesModel" "saidLength" "[I" ∈ am_W := am_W_in (am_run_4 (List.mem_of_getElem? (i := 169) rfl)) rfl
theorem wd_4_171 : Jvm.Cond.laysFinal "RoverMinutesModel" "RoverMinutesModel" "saidPull" "[I" ∈ am_W := am_W_in (am_run_4 (List.mem_of_getElem? (i := 171) rfl)) rfl
theorem wd_4_173 : Jvm.Cond.lays "RoverMinutesModel" "RoverMinutesModel" "time" "I" ∈ am_W := am_W_in (am_run_4 (List.mem_of_getElem? (i := 173) rfl)) rfl
theorem wd_4_175 : Jvm.Cond.lays "RoverMinutesModel" "RoverMinutesModel" "mode" "I" ∈ am_W := am_W_in (am_run_4 (List.mem_of_getElem? (i := 175) rfl)) rfl
theorem wd_4_177 : Jvm.Cond.lays "RoverMinutesModel" "RoverMinutesModel" "level" "I" ∈ am_W := am_W_in (am_run_4 (List.mem_of_getElem? (i := 177) rfl)) rfl
theorem wd_4_179 : Jvm.Cond.lays "RoverMinutesModel" "RoverMinutesModel" "store" "I" ∈ am_W := am_W_in (am_run_4 (List.mem_of_getElem? (i := 179) rfl)) rfl
theorem wd_4_181 : Jvm.Cond.laysFinal "RoverMinutesModel" "RoverMinutesModel" "curve" "[I" ∈ am_W := am_W_in (am_run_4 (List.mem_of_getElem? (i := 181) rfl)) rfl
theorem wd_4_183 : Jvm.Cond.lays "RoverMinutesModel" "RoverMinutesModel" "trueGain" "I" ∈ am_W := am_W_in (am_run_4 (List.mem_of_getElem? (i := 183) rfl)) rfl
theorem wd_4_185 : Jvm.Cond.lays "RoverMinutesModel" "RoverMinutesModel" "homeMinutes" "I" ∈ am_W := am_W_in (am_run_4 (List.mem_of_getElem? (i := 185) rfl)) rfl
theorem wd_4_187 : Jvm.Cond.lays "RoverMinutesModel" "RoverMinutesModel" "homeDraw" "I" ∈ am_W := am_W_in (am_run_4 (List.mem_of_getElem? (i := 187) rfl)) rfl
theorem wd_4_189 : Jvm.Cond.lays "RoverMinutesModel" "RoverMinutesModel" "homeLeft" "I" ∈ am_W := am_W_in (am_run_4 (List.mem_of_getElem? (i := 189) rfl)) rfl
theorem wd_4_191 : Jvm.Cond.lays "RoverMinutesModel" "RoverMinutesModel" "enabledAt" "I" ∈ am_W := am_W_in (am_run_4 (List.mem_of_getElem? (i := 191) rfl)) rfl
theorem wd_4_193 : Jvm.Cond.superclass "RoverMinutesModel" "java/lang/Object" ∈ am_W := am_W_in (am_run_4 (List.mem_of_getElem? (i := 193) rfl)) rfl
theorem wd_4_194 : Jvm.Cond.methodLink "RoverMinutesLaw" (73 : Nat) ({ cls := "RoverMinutesModel", name := "thrown", desc := "()I" } : Jvm.MethodName) ∈ am_W := am_W_in (am_run_4 (List.mem_of_getElem? (i := 194) rfl)) rfl
theorem wd_4_195 : Jvm.Cond.instanceMethod ({ cls := "RoverMinutesModel", name := "thrown", desc := "()I" } : Jvm.MethodName) ∈ am_W := am_W_in (am_run_4 (List.mem_of_getElem? (i := 195) rfl)) rfl
theorem wd_4_196 : Jvm.Cond.selects "RoverMinutesModel" ({ cls := "RoverMinutesModel", name := "thrown", desc := "()I" } : Jvm.MethodName) ({ cls := "RoverMinutesModel", name := "thrown", desc := "()I" } : Jvm.MethodName) ∈ am_W := am_W_in (am_run_4 (List.mem_of_getElem? (i := 196) rfl)) rfl
theorem wd_4_197 : Jvm.Cond.code ({ cls := "RoverMinutesModel", name := "thrown", desc := "()I" } : Jvm.MethodName) prog_9_method_2_code (1 : Nat) (Option.some Jvm.ClassFile.FieldType.int) ∈ am_W := am_W_in (am_run_4 (List.mem_of_getElem? (i := 197) rfl)) rfl
theorem wd_4_198 : Jvm.Cond.methodLink "RoverMinutesLaw" (72 : Nat) ({ cls := "RoverMinutesModel", name := "type", desc := "(I)Z" } : Jvm.MethodName) ∈ am_W := am_W_in (am_run_4 (List.mem_of_getElem? (i := 198) rfl)) rfl
theorem wd_4_199 : Jvm.Cond.instanceMethod ({ cls := "RoverMinutesModel", name := "type", desc := "(I)Z" } : Jvm.MethodName) ∈ am_W := am_W_in (am_run_4 (List.mem_of_getElem? (i := 199) rfl)) rfl
theorem wd_4_200 : Jvm.Cond.selects "RoverMinutesModel" ({ cls := "RoverMinutesModel", name := "type", desc := "(I)Z" } : Jvm.MethodName) ({ cls := "RoverMinutesModel", name := "type", desc := "(I)Z" } : Jvm.MethodName) ∈ am_W := am_W_in (am_run_4 (List.mem_of_getElem? (i := 200) rfl)) rfl
theorem wd_4_201 : Jvm.Cond.code ({ cls := "RoverMinutesModel", name := "type", desc := "(I)Z" } : Jvm.MethodName) prog_9_method_4_code (7 : Nat) (Option.some Jvm.ClassFile.FieldType.boolean) ∈ am_W := am_W_in (am_run_4 (List.mem_of_getElem? (i := 201) rfl)) rfl
theorem wd_4_202 : Jvm.Cond.methodLink "RoverMinutesLaw" (79 : Nat) ({ cls := "RoverMinutesModel", name := "submit", desc := "()I" } : Jvm.MethodName) ∈ am_W := am_W_in (am_run_4 (List.mem_of_getElem? (i := 202) rfl)) rfl
theorem wd_4_203 : Jvm.Cond.instanceMethod ({ cls := "RoverMinutesModel", name := "submit", desc := "()I" } : Jvm.MethodName) ∈ am_W := am_W_in (am_run_4 (List.mem_of_getElem? (i := 203) rfl)) rfl
theorem wd_4_204 : Jvm.Cond.selects "RoverMinutesModel" ({ cls := "RoverMinutesModel", name := "submit", desc := "()I" } : Jvm.MethodName) ({ cls := "RoverMinutesModel", name := "submit", desc := "()I" } : Jvm.MethodName) ∈ am_W := am_W_in (am_run_4 (List.mem_of_getElem? (i := 204) rfl)) rfl
theorem wd_4_205 : Jvm.Cond.code ({ cls := "RoverMinutesModel", name := "submit", desc := "()I" } : Jvm.MethodName) prog_9_method_18_code (4 : Nat) (Option.some Jvm.ClassFile.FieldType.int) ∈ am_W := am_W_in (am_run_4 (List.mem_of_getElem? (i := 205) rfl)) rfl
theorem wd_4_206 : Jvm.Cond.methodLink "RoverMinutesModel" (126 : Nat) ({ cls := "RoverMinutesModel", name := "refused", desc := "(ZZ)Z" } : Jvm.MethodName) ∈ am_W := am_W_in (am_run_4 (List.mem_of_getElem? (i := 206) rfl)) rfl
theorem wd_4_208 : Jvm.Cond.instanceMethod ({ cls := "RoverMinutesModel", name := "refused", desc := "(ZZ)Z" } : Jvm.MethodName) ∈ am_W := am_W_in (am_run_4 (List.mem_of_getElem? (i := 208) rfl)) rfl
theorem wd_4_209 : Jvm.Cond.code ({ cls := "RoverMinutesModel", name := "refused", desc := "(ZZ)Z" } : Jvm.MethodName) prog_9_method_3_code (3 : Nat) (Option.some Jvm.ClassFile.FieldType.boolean) ∈ am_W := am_W_in (am_run_4 (List.mem_of_getElem? (i := 209) rfl)) rfl
theorem wd_4_210 : Jvm.Cond.methodLink "RoverMinutesModel" (130 : Nat) ({ cls := "RoverMinutesModel", name := "readLine", desc := "()Z" } : Jvm.MethodName) ∈ am_W := am_W_in (am_run_4 (List.mem_of_getElem? (i := 210) rfl)) rfl
theorem wd_4_212 : Jvm.Cond.instanceMethod ({ cls := "RoverMinutesModel", name := "readLine", desc := "()Z" } : Jvm.MethodName) ∈ am_W := am_W_in (am_run_4 (List.mem_of_getElem? (i := 212) rfl)) rfl
theorem wd_4_213 : Jvm.Cond.code ({ cls := "RoverMinutesModel", name := "readLine", desc := "()Z" } : Jvm.MethodName) prog_9_method_12_code (2 : Nat) (Option.some Jvm.ClassFile.FieldType.boolean) ∈ am_W := am_W_in (am_run_4 (List.mem_of_getElem? (i := 213) rfl)) rfl
theorem wd_4_214 : Jvm.Cond.methodLink "RoverMinutesModel" (108 : Nat) ({ cls := "RoverMinutesModel", name := "readActivity", desc := "()Z" } : Jvm.MethodName) ∈ am_W := am_W_in (am_run_4 (List.mem_of_getElem? (i := 214) rfl)) rfl
theorem wd_4_216 : Jvm.Cond.instanceMethod ({ cls := "RoverMinutesModel", name := "readActivity", desc := "()Z" } : Jvm.MethodName) ∈ am_W := am_W_in (am_run_4 (List.mem_of_getElem? (i := 216) rfl)) rfl
theorem wd_4_217 : Jvm.Cond.code ({ cls := "RoverMinutesModel", name := "readActivity", desc := "()Z" } : Jvm.MethodName) prog_9_method_11_code (2 : Nat) (Option.some Jvm.ClassFile.FieldType.boolean) ∈ am_W := am_W_in (am_run_4 (List.mem_of_getElem? (i := 217) rfl)) rfl
theorem wd_4_218 : Jvm.Cond.methodLink "RoverMinutesModel" (80 : Nat) ({ cls := "RoverMinutesModel", name := "look", desc := "()I" } : Jvm.MethodName) ∈ am_W := am_W_in (am_run_4 (List.mem_of_getElem? (i := 218) rfl)) rfl
theorem wd_4_220 : Jvm.Cond.instanceMethod ({ cls := "RoverMinutesModel", name := "look", desc := "()I" } : Jvm.MethodName) ∈ am_W := am_W_in (am_run_4 (List.mem_of_getElem? (i := 220) rfl)) rfl
theorem wd_4_221 : Jvm.Cond.code ({ cls := "RoverMinutesModel", name := "look", desc := "()I" } : Jvm.MethodName) prog_9_method_5_code (1 : Nat) (Option.some Jvm.ClassFile.FieldType.int) ∈ am_W := am_W_in (am_run_4 (List.mem_of_getElem? (i := 221) rfl)) rfl
theorem wd_4_222 : Jvm.Cond.methodLink "RoverMinutesModel" (101 : Nat) ({ cls := "RoverMinutesModel", name := "readInto", desc := "(I)Z" } : Jvm.MethodName) ∈ am_W := am_W_in (am_run_4 (List.mem_of_getElem? (i := 222) rfl)) rfl
theorem wd_4_224 : Jvm.Cond.instanceMethod ({ cls := "RoverMinutesModel", name := "readInto", desc := "(I)Z" } : Jvm.MethodName) ∈ am_W := am_W_in (am_run_4 (List.mem_of_getElem? (i := 224) rfl)) rfl
theorem wd_4_225 : Jvm.Cond.code ({ cls := "RoverMinutesModel", name := "readInto", desc := "(I)Z" } : Jvm.MethodName) prog_9_method_8_code (3 : Nat) (Option.some Jvm.ClassFile.FieldType.boolean) ∈ am_W := am_W_in (am_run_4 (List.mem_of_getElem? (i := 225) rfl)) rfl
theorem wd_4_226 : Jvm.Cond.methodLink "RoverMinutesModel" (88 : Nat) ({ cls := "RoverMinutesModel", name := "readNumber", desc := "()I" } : Jvm.MethodName) ∈ am_W := am_W_in (am_run_4 (List.mem_of_getElem? (i := 226) rfl)) rfl
theorem wd_4_228 : Jvm.Cond.instanceMethod ({ cls := "RoverMinutesModel", name := "readNumber", desc := "()I" } : Jvm.MethodName) ∈ am_W := am_W_in (am_run_4 (List.mem_of_getElem? (i := 228) rfl)) rfl
theorem wd_4_229 : Jvm.Cond.code ({ cls := "RoverMinutesModel", name := "readNumber", desc := "()I" } : Jvm.MethodName) prog_9_method_7_code (2 : Nat) (Option.some Jvm.ClassFile.FieldType.int) ∈ am_W := am_W_in (am_run_4 (List.mem_of_getElem? (i := 229) rfl)) rfl
theorem wd_4_230 : Jvm.Cond.methodLink "RoverMinutesModel" (84 : Nat) ({ cls := "RoverMinutesModel", name := "isDigit", desc := "()Z" } : Jvm.MethodName) ∈ am_W := am_W_in (am_run_4 (List.mem_of_getElem? (i := 230) rfl)) rfl
theorem wd_4_232 : Jvm.Cond.instanceMethod ({ cls := "RoverMinutesModel", name := "isDigit", desc := "()Z" } : Jvm.MethodName) ∈ am_W := am_W_in (am_run_4 (List.mem_of_getElem? (i := 232) rfl)) rfl
theorem wd_4_233 : Jvm.Cond.code ({ cls := "RoverMinutesModel", name := "isDigit", desc := "()Z" } : Jvm.MethodName) prog_9_method_6_code (1 : Nat) (Option.some Jvm.ClassFile.FieldType.boolean) ∈ am_W := am_W_in (am_run_4 (List.mem_of_getElem? (i := 233) rfl)) rfl
theorem wd_4_234 : Jvm.Cond.methodLink "RoverMinutesModel" (105 : Nat) ({ cls := "RoverMinutesModel", name := "readOption", desc := "()I" } : Jvm.MethodName) ∈ am_W := am_W_in (am_run_4 (List.mem_of_getElem? (i := 234) rfl)) rfl
theorem wd_4_236 : Jvm.Cond.instanceMethod ({ cls := "RoverMinutesModel", name := "readOption", desc := "()I" } : Jvm.MethodName) ∈ am_W := am_W_in (am_run_4 (List.mem_of_getElem? (i := 236) rfl)) rfl
theorem wd_4_237 : Jvm.Cond.code ({ cls := "RoverMinutesModel", name := "readOption", desc := "()I" } : Jvm.MethodName) prog_9_method_10_code (4 : Nat) (Option.some Jvm.ClassFile.FieldType.int) ∈ am_W := am_W_in (am_run_4 (List.mem_of_getElem? (i := 237) rfl)) rfl
theorem wd_4_238 : Jvm.Cond.methodLink "RoverMinutesModel" (94 : Nat) ({ cls := "RoverMinutesModel", name := "rowOf", desc := "(I)I" } : Jvm.MethodName) ∈ am_W := am_W_in (am_run_4 (List.mem_of_getElem? (i := 238) rfl)) rfl
theorem wd_4_239 : Jvm.Cond.static ({ cls := "RoverMinutesModel", name := "rowOf", desc := "(I)I" } : Jvm.MethodName) ∈ am_W := am_W_in (am_run_4 (List.mem_of_getElem? (i := 239) rfl)) rfl
theorem wd_5_0 : Jvm.Cond.code ({ cls := "RoverMinutesModel", name := "rowOf", desc := "(I)I" } : Jvm.MethodName) prog_9_method_9_code (1 : Nat) (Option.some Jvm.ClassFile.FieldType.int) ∈ am_W := am_W_in (am_run_5 (List.mem_of_getElem? (i := 0) rfl)) rfl
theorem wd_5_1 : Jvm.Cond.methodLink "RoverMinutesModel" (133 : Nat) ({ cls := "RoverMinutesModel", name := "unfit", desc := "()I" } : Jvm.MethodName) ∈ am_W := am_W_in (am_run_5 (List.mem_of_getElem? (i := 1) rfl)) rfl
theorem wd_5_3 : Jvm.Cond.instanceMethod ({ cls := "RoverMinutesModel", name := "unfit", desc := "()I" } : Jvm.MethodName) ∈ am_W := am_W_in (am_run_5 (List.mem_of_getElem? (i := 3) rfl)) rfl
theorem wd_5_4 : Jvm.Cond.code ({ cls := "RoverMinutesModel", name := "unfit", desc := "()I" } : Jvm.MethodName) prog_9_method_16_code (2 : Nat) (Option.some Jvm.ClassFile.FieldType.int) ∈ am_W := am_W_in (am_run_5 (List.mem_of_getElem? (i := 4) rfl)) rfl
theorem wd_5_5 : Jvm.Cond.methodLink "RoverMinutesModel" (111 : Nat) ({ cls := "RoverMinutesModel", name := "isWrong", desc := "(I)Z" } : Jvm.MethodName) ∈ am_W := am_W_in (am_run_5 (List.mem_of_getElem? (i := 5) rfl)) rfl
theorem wd_5_7 : Jvm.Cond.instanceMethod ({ cls := "RoverMinutesModel", name := "isWrong", desc := "(I)Z" } : Jvm.MethodName) ∈ am_W := am_W_in (am_run_5 (List.mem_of_getElem? (i := 7) rfl)) rfl
theorem wd_5_8 : Jvm.Cond.code ({ cls := "RoverMinutesModel", name := "isWrong", desc := "(I)Z" } : Jvm.MethodName) prog_9_method_13_code (6 : Nat) (Option.some Jvm.ClassFile.FieldType.boolean) ∈ am_W := am_W_in (am_run_5 (List.mem_of_getElem? (i := 8) rfl)) rfl
theorem wd_5_9 : Jvm.Cond.methodLink "RoverMinutesModel" (114 : Nat) ({ cls := "RoverMinutesModel", name := "findRings", desc := "()V" } : Jvm.MethodName) ∈ am_W := am_W_in (am_run_5 (List.mem_of_getElem? (i := 9) rfl)) rfl
theorem wd_5_11 : Jvm.Cond.instanceMethod ({ cls := "RoverMinutesModel", name := "findRings", desc := "()V" } : Jvm.MethodName) ∈ am_W := am_W_in (am_run_5 (List.mem_of_getElem? (i := 11) rfl)) rfl
theorem wd_5_12 : Jvm.Cond.code ({ cls := "RoverMinutesModel", name := "findRings", desc := "()V" } : Jvm.MethodName) prog_9_method_14_code (4 : Nat) (Option.none : Option Jvm.ClassFile.FieldType) ∈ am_W := am_W_in (am_run_5 (List.mem_of_getElem? (i := 12) rfl)) rfl
theorem wd_5_13 : Jvm.Cond.methodLink "RoverMinutesModel" (117 : Nat) ({ cls := "RoverMinutesModel", name := "findFirsts", desc := "()V" } : Jvm.MethodName) ∈ am_W := am_W_in (am_run_5 (List.mem_of_getElem? (i := 13) rfl)) rfl
theorem wd_5_15 : Jvm.Cond.instanceMethod ({ cls := "RoverMinutesModel", name := "findFirsts", desc := "()V" } : Jvm.MethodName) ∈ am_W := am_W_in (am_run_5 (List.mem_of_getElem? (i := 15) rfl)) rfl
theorem wd_5_16 : Jvm.Cond.code ({ cls := "RoverMinutesModel", name := "findFirsts", desc := "()V" } : Jvm.MethodName) prog_9_method_15_code (5 : Nat) (Option.none : Option Jvm.ClassFile.FieldType) ∈ am_W := am_W_in (am_run_5 (List.mem_of_getElem? (i := 16) rfl)) rfl
theorem wd_5_17 : Jvm.Cond.methodLink "RoverMinutesModel" (136 : Nat) ({ cls := "RoverMinutesModel", name := "rest", desc := "()V" } : Jvm.MethodName) ∈ am_W := am_W_in (am_run_5 (List.mem_of_getElem? (i := 17) rfl)) rfl
theorem wd_5_19 : Jvm.Cond.instanceMethod ({ cls := "RoverMinutesModel", name := "rest", desc := "()V" } : Jvm.MethodName) ∈ am_W := am_W_in (am_run_5 (List.mem_of_getElem? (i := 19) rfl)) rfl
theorem wd_5_20 : Jvm.Cond.code ({ cls := "RoverMinutesModel", name := "rest", desc := "()V" } : Jvm.MethodName) prog_9_method_17_code (2 : Nat) (Option.none : Option Jvm.ClassFile.FieldType) ∈ am_W := am_W_in (am_run_5 (List.mem_of_getElem? (i := 20) rfl)) rfl
theorem wd_5_21 : Jvm.Cond.methodLink "RoverMinutesLaw" (82 : Nat) ({ cls := "RoverMinutesModel", name := "enable", desc := "()I" } : Jvm.MethodName) ∈ am_W := am_W_in (am_run_5 (List.mem_of_getElem? (i := 21) rfl)) rfl
theorem wd_5_22 : Jvm.Cond.instanceMethod ({ cls := "RoverMinutesModel", name := "enable", desc := "()I" } : Jvm.MethodName) ∈ am_W := am_W_in (am_run_5 (List.mem_of_getElem? (i := 22) rfl)) rfl
theorem wd_5_23 : Jvm.Cond.selects "RoverMinutesModel" ({ cls := "RoverMinutesModel", name := "enable", desc := "()I" } : Jvm.MethodName) ({ cls := "RoverMinutesModel", name := "enable", desc := "()I" } : Jvm.MethodName) ∈ am_W := am_W_in (am_run_5 (List.mem_of_getElem? (i := 23) rfl)) rfl
theorem wd_5_24 : Jvm.Cond.code ({ cls := "RoverMinutesModel", name := "enable", desc := "()I" } : Jvm.MethodName) prog_9_method_31_code (1 : Nat) (Option.some Jvm.ClassFile.FieldType.int) ∈ am_W := am_W_in (am_run_5 (List.mem_of_getElem? (i := 24) rfl)) rfl
theorem wd_5_25 : Jvm.Cond.methodLink "RoverMinutesModel" (157 : Nat) ({ cls := "RoverMinutesModel", name := "isOpen", desc := "(II)Z" } : Jvm.MethodName) ∈ am_W := am_W_in (am_run_5 (List.mem_of_getElem? (i := 25) rfl)) rfl
theorem wd_5_27 : Jvm.Cond.instanceMethod ({ cls := "RoverMinutesModel", name := "isOpen", desc := "(II)Z" } : Jvm.MethodName) ∈ am_W := am_W_in (am_run_5 (List.mem_of_getElem? (i := 27) rfl)) rfl
theorem wd_5_28 : Jvm.Cond.code ({ cls := "RoverMinutesModel", name := "isOpen", desc := "(II)Z" } : Jvm.MethodName) prog_9_method_20_code (6 : Nat) (Option.some Jvm.ClassFile.FieldType.boolean) ∈ am_W := am_W_in (am_run_5 (List.mem_of_getElem? (i := 28) rfl)) rfl
theorem wd_5_29 : Jvm.Cond.methodLink "RoverMinutesModel" (139 : Nat) ({ cls := "RoverMinutesModel", name := "afterMinute", desc := "(III)I" } : Jvm.MethodName) ∈ am_W := am_W_in (am_run_5 (List.mem_of_getElem? (i := 29) rfl)) rfl
theorem wd_5_31 : Jvm.Cond.instanceMethod ({ cls := "RoverMinutesModel", name := "afterMinute", desc := "(III)I" } : Jvm.MethodName) ∈ am_W := am_W_in (am_run_5 (List.mem_of_getElem? (i := 31) rfl)) rfl
theorem wd_5_32 : Jvm.Cond.code ({ cls := "RoverMinutesModel", name := "afterMinute", desc := "(III)I" } : Jvm.MethodName) prog_9_method_19_code (5 : Nat) (Option.some Jvm.ClassFile.FieldType.int) ∈ am_W := am_W_in (am_run_5 (List.mem_of_getElem? (i := 32) rfl)) rfl
theorem wd_5_33 : Jvm.Cond.methodLink "RoverMinutesModel" (182 : Nat) ({ cls := "RoverMinutesModel", name := "skip", desc := "()V" } : Jvm.MethodName) ∈ am_W := am_W_in (am_run_5 (List.mem_of_getElem? (i := 33) rfl)) rfl
theorem wd_5_35 : Jvm.Cond.instanceMethod ({ cls := "RoverMinutesModel", name := "skip", desc := "()V" } : Jvm.MethodName) ∈ am_W := am_W_in (am_run_5 (List.mem_of_getElem? (i := 35) rfl)) rfl
theorem wd_5_36 : Jvm.Cond.code ({ cls := "RoverMinutesModel", name := "skip", desc := "()V" } : Jvm.MethodName) prog_9_method_27_code (4 : Nat) (Option.none : Option Jvm.ClassFile.FieldType) ∈ am_W := am_W_in (am_run_5 (List.mem_of_getElem? (i := 36) rfl)) rfl
theorem wd_5_37 : Jvm.Cond.methodLink "RoverMinutesModel" (166 : Nat) ({ cls := "RoverMinutesModel", name := "hasIn", desc := "(III)Z" } : Jvm.MethodName) ∈ am_W := am_W_in (am_run_5 (List.mem_of_getElem? (i := 37) rfl)) rfl
theorem wd_5_39 : Jvm.Cond.instanceMethod ({ cls := "RoverMinutesModel", name := "hasIn", desc := "(III)Z" } : Jvm.MethodName) ∈ am_W := am_W_in (am_run_5 (List.mem_of_getElem? (i := 39) rfl)) rfl
theorem wd_5_40 : Jvm.Cond.code ({ cls := "RoverMinutesModel", name := "hasIn", desc := "(III)Z" } : Jvm.MethodName) prog_9_method_26_code (6 : Nat) (Option.some Jvm.ClassFile.FieldType.boolean) ∈ am_W := am_W_in (am_run_5 (List.mem_of_getElem? (i := 40) rfl)) rfl
theorem wd_5_41 : Jvm.Cond.methodLink "RoverMinutesModel" (185 : Nat) ({ cls := "RoverMinutesModel", name := "startAll", desc := "()I" } : Jvm.MethodName) ∈ am_W := am_W_in (am_run_5 (List.mem_of_getElem? (i := 41) rfl)) rfl
theorem wd_5_43 : Jvm.Cond.instanceMethod ({ cls := "RoverMinutesModel", name := "startAll", desc := "()I" } : Jvm.MethodName) ∈ am_W := am_W_in (am_run_5 (List.mem_of_getElem? (i := 43) rfl)) rfl
theorem wd_5_44 : Jvm.Cond.code ({ cls := "RoverMinutesModel", name := "startAll", desc := "()I" } : Jvm.MethodName) prog_9_method_29_code (3 : Nat) (Option.some Jvm.ClassFile.FieldType.int) ∈ am_W := am_W_in (am_run_5 (List.mem_of_getElem? (i := 44) rfl)) rfl
theorem wd_5_45 : Jvm.Cond.methodLink "RoverMinutesModel" (173 : Nat) ({ cls := "RoverMinutesModel", name := "mayStart", desc := "(I)Z" } : Jvm.MethodName) ∈ am_W := am_W_in (am_run_5 (List.mem_of_getElem? (i := 45) rfl)) rfl
theorem wd_5_47 : Jvm.Cond.instanceMethod ({ cls := "RoverMinutesModel", name := "mayStart", desc := "(I)Z" } : Jvm.MethodName) ∈ am_W := am_W_in (am_run_5 (List.mem_of_getElem? (i := 47) rfl)) rfl
theorem wd_5_48 : Jvm.Cond.code ({ cls := "RoverMinutesModel", name := "mayStart", desc := "(I)Z" } : Jvm.MethodName) prog_9_method_28_code (4 : Nat) (Option.some Jvm.ClassFile.FieldType.boolean) ∈ am_W := am_W_in (am_run_5 (List.mem_of_getElem? (i := 48) rfl)) rfl
theorem wd_5_49 : Jvm.Cond.methodLink "RoverMinutesModel" (170 : Nat) ({ cls := "RoverMinutesModel", name := "holds", desc := "(I)Z" } : Jvm.MethodName) ∈ am_W := am_W_in (am_run_5 (List.mem_of_getElem? (i := 49) rfl)) rfl
theorem wd_5_51 : Jvm.Cond.instanceMethod ({ cls := "RoverMinutesModel", name := "holds", desc := "(I)Z" } : Jvm.MethodName) ∈ am_W := am_W_in (am_run_5 (List.mem_of_getElem? (i := 51) rfl)) rfl
theorem wd_5_52 : Jvm.Cond.code ({ cls := "RoverMinutesModel", name := "holds", desc := "(I)Z" } : Jvm.MethodName) prog_9_method_24_code (7 : Nat) (Option.some Jvm.ClassFile.FieldType.boolean) ∈ am_W := am_W_in (am_run_5 (List.mem_of_getElem? (i := 52) rfl)) rfl
theorem wd_5_53 : Jvm.Cond.methodLink "RoverMinutesModel" (143 : Nat) ({ cls := "RoverMinutesModel", name := "isRunningOr", desc := "(II)Z" } : Jvm.MethodName) ∈ am_W := am_W_in (am_run_5 (List.mem_of_getElem? (i := 53) rfl)) rfl
theorem wd_5_55 : Jvm.Cond.instanceMethod ({ cls := "RoverMinutesModel", name := "isRunningOr", desc := "(II)Z" } : Jvm.MethodName) ∈ am_W := am_W_in (am_run_5 (List.mem_of_getElem? (i := 55) rfl)) rfl
theorem wd_5_56 : Jvm.Cond.code ({ cls := "RoverMinutesModel", name := "isRunningOr", desc := "(II)Z" } : Jvm.MethodName) prog_9_method_21_code (3 : Nat) (Option.some Jvm.ClassFile.FieldType.boolean) ∈ am_W := am_W_in (am_run_5 (List.mem_of_getElem? (i := 56) rfl)) rfl
theorem wd_5_57 : Jvm.Cond.methodLink "RoverMinutesModel" (147 : Nat) ({ cls := "RoverMinutesModel", name := "leftOf", desc := "(II)I" } : Jvm.MethodName) ∈ am_W := am_W_in (am_run_5 (List.mem_of_getElem? (i := 57) rfl)) rfl
theorem wd_5_59 : Jvm.Cond.instanceMethod ({ cls := "RoverMinutesModel", name := "leftOf", desc := "(II)I" } : Jvm.MethodName) ∈ am_W := am_W_in (am_run_5 (List.mem_of_getElem? (i := 59) rfl)) rfl
theorem wd_5_60 : Jvm.Cond.code ({ cls := "RoverMinutesModel", name := "leftOf", desc := "(II)I" } : Jvm.MethodName) prog_9_method_22_code (3 : Nat) (Option.some Jvm.ClassFile.FieldType.int) ∈ am_W := am_W_in (am_run_5 (List.mem_of_getElem? (i := 60) rfl)) rfl
theorem wd_5_61 : Jvm.Cond.methodLink "RoverMinutesModel" (160 : Nat) ({ cls := "RoverMinutesModel", name := "drawIn", desc := "(II)I" } : Jvm.MethodName) ∈ am_W := am_W_in (am_run_5 (List.mem_of_getElem? (i := 61) rfl)) rfl
theorem wd_5_63 : Jvm.Cond.instanceMethod ({ cls := "RoverMinutesModel", name := "drawIn", desc := "(II)I" } : Jvm.MethodName) ∈ am_W := am_W_in (am_run_5 (List.mem_of_getElem? (i := 63) rfl)) rfl
theorem wd_5_64 : Jvm.Cond.code ({ cls := "RoverMinutesModel", name := "drawIn", desc := "(II)I" } : Jvm.MethodName) prog_9_method_23_code (7 : Nat) (Option.some Jvm.ClassFile.FieldType.int) ∈ am_W := am_W_in (am_run_5 (List.mem_of_getElem? (i := 64) rfl)) rfl
theorem wd_5_65 : Jvm.Cond.methodLink "RoverMinutesModel" (176 : Nat) ({ cls := "RoverMinutesModel", name := "howMany", desc := "(I)I" } : Jvm.MethodName) ∈ am_W := am_W_in (am_run_5 (List.mem_of_getElem? (i := 65) rfl)) rfl
theorem wd_5_67 : Jvm.Cond.instanceMethod ({ cls := "RoverMinutesModel", name := "howMany", desc := "(I)I" } : Jvm.MethodName) ∈ am_W := am_W_in (am_run_5 (List.mem_of_getElem? (i := 67) rfl)) rfl
theorem wd_5_68 : Jvm.Cond.code ({ cls := "RoverMinutesModel", name := "howMany", desc := "(I)I" } : Jvm.MethodName) prog_9_method_25_code (4 : Nat) (Option.some Jvm.ClassFile.FieldType.int) ∈ am_W := am_W_in (am_run_5 (List.mem_of_getElem? (i := 68) rfl)) rfl
theorem wd_5_69 : Jvm.Cond.methodLink "RoverMinutesLaw" (86 : Nat) ({ cls := "RoverMinutesModel", name := "cancel", desc := "()V" } : Jvm.MethodName) ∈ am_W := am_W_in (am_run_5 (List.mem_of_getElem? (i := 69) rfl)) rfl
theorem wd_5_70 : Jvm.Cond.instanceMethod ({ cls := "RoverMinutesModel", name := "cancel", desc := "()V" } : Jvm.MethodName) ∈ am_W := am_W_in (am_run_5 (List.mem_of_getElem? (i := 70) rfl)) rfl
theorem wd_5_71 : Jvm.Cond.selects "RoverMinutesModel" ({ cls := "RoverMinutesModel", name := "cancel", desc := "()V" } : Jvm.MethodName) ({ cls := "RoverMinutesModel", name := "cancel", desc := "()V" } : Jvm.MethodName) ∈ am_W := am_W_in (am_run_5 (List.mem_of_getElem? (i := 71) rfl)) rfl
theorem wd_5_72 : Jvm.Cond.code ({ cls := "RoverMinutesModel", name := "cancel", desc := "()V" } : Jvm.MethodName) prog_9_method_32_code (1 : Nat) (Option.none : Option Jvm.ClassFile.FieldType) ∈ am_W := am_W_in (am_run_5 (List.mem_of_getElem? (i := 72) rfl)) rfl
theorem wd_5_73 : Jvm.Cond.methodLink "RoverMinutesModel" (188 : Nat) ({ cls := "RoverMinutesModel", name := "goHome", desc := "()V" } : Jvm.MethodName) ∈ am_W := am_W_in (am_run_5 (List.mem_of_getElem? (i := 73) rfl)) rfl
theorem wd_5_75 : Jvm.Cond.instanceMethod ({ cls := "RoverMinutesModel", name := "goHome", desc := "()V" } : Jvm.MethodName) ∈ am_W := am_W_in (am_run_5 (List.mem_of_getElem? (i := 75) rfl)) rfl
theorem wd_5_76 : Jvm.Cond.code ({ cls := "RoverMinutesModel", name := "goHome", desc := "()V" } : Jvm.MethodName) prog_9_method_30_code (2 : Nat) (Option.none : Option Jvm.ClassFile.FieldType) ∈ am_W := am_W_in (am_run_5 (List.mem_of_getElem? (i := 76) rfl)) rfl
theorem wd_5_77 : Jvm.Cond.methodLink "RoverMinutesLaw" (89 : Nat) ({ cls := "RoverMinutesModel", name := "minutes", desc := "(I)I" } : Jvm.MethodName) ∈ am_W := am_W_in (am_run_5 (List.mem_of_getElem? (i := 77) rfl)) rfl
theorem wd_5_78 : Jvm.Cond.instanceMethod ({ cls := "RoverMinutesModel", name := "minutes", desc := "(I)I" } : Jvm.MethodName) ∈ am_W := am_W_in (am_run_5 (List.mem_of_getElem? (i := 78) rfl)) rfl
theorem wd_5_79 : Jvm.Cond.selects "RoverMinutesModel" ({ cls := "RoverMinutesModel", name := "minutes", desc := "(I)I" } : Jvm.MethodName) ({ cls := "RoverMinutesModel", name := "minutes", desc := "(I)I" } : Jvm.MethodName) ∈ am_W := am_W_in (am_run_5 (List.mem_of_getElem? (i := 79) rfl)) rfl
theorem wd_5_80 : Jvm.Cond.code ({ cls := "RoverMinutesModel", name := "minutes", desc := "(I)I" } : Jvm.MethodName) prog_9_method_36_code (4 : Nat) (Option.some Jvm.ClassFile.FieldType.int) ∈ am_W := am_W_in (am_run_5 (List.mem_of_getElem? (i := 80) rfl)) rfl
theorem wd_5_81 : Jvm.Cond.methodLink "RoverMinutesModel" (198 : Nat) ({ cls := "RoverMinutesModel", name := "minute", desc := "()I" } : Jvm.MethodName) ∈ am_W := am_W_in (am_run_5 (List.mem_of_getElem? (i := 81) rfl)) rfl
theorem wd_5_83 : Jvm.Cond.instanceMethod ({ cls := "RoverMinutesModel", name := "minute", desc := "()I" } : Jvm.MethodName) ∈ am_W := am_W_in (am_run_5 (List.mem_of_getElem? (i := 83) rfl)) rfl
theorem wd_5_84 : Jvm.Cond.code ({ cls := "RoverMinutesModel", name := "minute", desc := "()I" } : Jvm.MethodName) prog_9_method_35_code (1 : Nat) (Option.some Jvm.ClassFile.FieldType.int) ∈ am_W := am_W_in (am_run_5 (List.mem_of_getElem? (i := 84) rfl)) rfl
theorem wd_5_85 : Jvm.Cond.methodLink "RoverMinutesModel" (191 : Nat) ({ cls := "RoverMinutesModel", name := "draw", desc := "(I)V" } : Jvm.MethodName) ∈ am_W := am_W_in (am_run_5 (List.mem_of_getElem? (i := 85) rfl)) rfl
theorem wd_5_87 : Jvm.Cond.instanceMethod ({ cls := "RoverMinutesModel", name := "draw", desc := "(I)V" } : Jvm.MethodName) ∈ am_W := am_W_in (am_run_5 (List.mem_of_getElem? (i := 87) rfl)) rfl
theorem wd_5_88 : Jvm.Cond.code ({ cls := "RoverMinutesModel", name := "draw", desc := "(I)V" } : Jvm.MethodName) prog_9_method_33_code (4 : Nat) (Option.none : Option Jvm.ClassFile.FieldType) ∈ am_W := am_W_in (am_run_5 (List.mem_of_getElem? (i := 88) rfl)) rfl
theorem wd_5_89 : Jvm.Cond.methodLink "RoverMinutesModel" (195 : Nat) ({ cls := "RoverMinutesModel", name := "age", desc := "()V" } : Jvm.MethodName) ∈ am_W := am_W_in (am_run_5 (List.mem_of_getElem? (i := 89) rfl)) rfl
theorem wd_5_91 : Jvm.Cond.instanceMethod ({ cls := "RoverMinutesModel", name := "age", desc := "()V" } : Jvm.MethodName) ∈ am_W := am_W_in (am_run_5 (List.mem_of_getElem? (i := 91) rfl)) rfl
theorem wd_5_92 : Jvm.Cond.code ({ cls := "RoverMinutesModel", name := "age", desc := "()V" } : Jvm.MethodName) prog_9_method_34_code (4 : Nat) (Option.none : Option Jvm.ClassFile.FieldType) ∈ am_W := am_W_in (am_run_5 (List.mem_of_getElem? (i := 92) rfl)) rfl
theorem wd_5_93 : Jvm.Cond.methodLink "RoverMinutesLaw" (93 : Nat) ({ cls := "RoverMinutesModel", name := "lasts", desc := "(II)V" } : Jvm.MethodName) ∈ am_W := am_W_in (am_run_5 (List.mem_of_getElem? (i := 93) rfl)) rfl
theorem wd_5_94 : Jvm.Cond.instanceMethod ({ cls := "RoverMinutesModel", name := "lasts", desc := "(II)V" } : Jvm.MethodName) ∈ am_W := am_W_in (am_run_5 (List.mem_of_getElem? (i := 94) rfl)) rfl
theorem wd_5_95 : Jvm.Cond.selects "RoverMinutesModel" ({ cls := "RoverMinutesModel", name := "lasts", desc := "(II)V" } : Jvm.MethodName) ({ cls := "RoverMinutesModel", name := "lasts", desc := "(II)V" } : Jvm.MethodName) ∈ am_W := am_W_in (am_run_5 (List.mem_of_getElem? (i := 95) rfl)) rfl
theorem wd_5_96 : Jvm.Cond.code ({ cls := "RoverMinutesModel", name := "lasts", desc := "(II)V" } : Jvm.MethodName) prog_9_method_38_code (3 : Nat) (Option.none : Option Jvm.ClassFile.FieldType) ∈ am_W := am_W_in (am_run_5 (List.mem_of_getElem? (i := 96) rfl)) rfl
theorem wd_5_97 : Jvm.Cond.methodLink "RoverMinutesModel" (201 : Nat) ({ cls := "RoverMinutesModel", name := "isActivity", desc := "(I)Z" } : Jvm.MethodName) ∈ am_W := am_W_in (am_run_5 (List.mem_of_getElem? (i := 97) rfl)) rfl
theorem wd_5_99 : Jvm.Cond.instanceMethod ({ cls := "RoverMinutesModel", name := "isActivity", desc := "(I)Z" } : Jvm.MethodName) ∈ am_W := am_W_in (am_run_5 (List.mem_of_getElem? (i := 99) rfl)) rfl
theorem wd_5_100 : Jvm.Cond.code ({ cls := "RoverMinutesModel", name := "isActivity", desc := "(I)Z" } : Jvm.MethodName) prog_9_method_37_code (2 : Nat) (Option.some Jvm.ClassFile.FieldType.boolean) ∈ am_W := am_W_in (am_run_5 (List.mem_of_getElem? (i := 100) rfl)) rfl
theorem wd_5_101 : Jvm.Cond.methodLink "RoverMinutesLaw" (96 : Nat) ({ cls := "RoverMinutesModel", name := "draws", desc := "(II)V" } : Jvm.MethodName) ∈ am_W := am_W_in (am_run_5 (List.mem_of_getElem? (i := 101) rfl)) rfl
theorem wd_5_102 : Jvm.Cond.instanceMethod ({ cls := "RoverMinutesModel", name := "draws", desc := "(II)V" } : Jvm.MethodName) ∈ am_W := am_W_in (am_run_5 (List.mem_of_getElem? (i := 102) rfl)) rfl
theorem wd_5_103 : Jvm.Cond.selects "RoverMinutesModel" ({ cls := "RoverMinutesModel", name := "draws", desc := "(II)V" } : Jvm.MethodName) ({ cls := "RoverMinutesModel", name := "draws", desc := "(II)V" } : Jvm.MethodName) ∈ am_W := am_W_in (am_run_5 (List.mem_of_getElem? (i := 103) rfl)) rfl
theorem wd_5_104 : Jvm.Cond.code ({ cls := "RoverMinutesModel", name := "draws", desc := "(II)V" } : Jvm.MethodName) prog_9_method_39_code (3 : Nat) (Option.none : Option Jvm.ClassFile.FieldType) ∈ am_W := am_W_in (am_run_5 (List.mem_of_getElem? (i := 104) rfl)) rfl
theorem wd_5_105 : Jvm.Cond.methodLink "RoverMinutesLaw" (99 : Nat) ({ cls := "RoverMinutesModel", name := "curve", desc := "(II)V" } : Jvm.MethodName) ∈ am_W := am_W_in (am_run_5 (List.mem_of_getElem? (i := 105) rfl)) rfl
theorem wd_5_106 : Jvm.Cond.instanceMethod ({ cls := "RoverMinutesModel", name := "curve", desc := "(II)V" } : Jvm.MethodName) ∈ am_W := am_W_in (am_run_5 (List.mem_of_getElem? (i := 106) rfl)) rfl
theorem wd_5_107 : Jvm.Cond.selects "RoverMinutesModel" ({ cls := "RoverMinutesModel", name := "curve", desc := "(II)V" } : Jvm.MethodName) ({ cls := "RoverMinutesModel", name := "curve", desc := "(II)V" } : Jvm.MethodName) ∈ am_W := am_W_in (am_run_5 (List.mem_of_getElem? (i := 107) rfl)) rfl
theorem wd_5_108 : Jvm.Cond.code ({ cls := "RoverMinutesModel", name := "curve", desc := "(II)V" } : Jvm.MethodName) prog_9_method_40_code (3 : Nat) (Option.none : Option Jvm.ClassFile.FieldType) ∈ am_W := am_W_in (am_run_5 (List.mem_of_getElem? (i := 108) rfl)) rfl
theorem wd_5_109 : Jvm.Cond.methodLink "RoverMinutesLaw" (103 : Nat) ({ cls := "RoverMinutesModel", name := "gain", desc := "(I)V" } : Jvm.MethodName) ∈ am_W := am_W_in (am_run_5 (List.mem_of_getElem? (i := 109) rfl)) rfl
theorem wd_5_110 : Jvm.Cond.instanceMethod ({ cls := "RoverMinutesModel", name := "gain", desc := "(I)V" } : Jvm.MethodName) ∈ am_W := am_W_in (am_run_5 (List.mem_of_getElem? (i := 110) rfl)) rfl
theorem wd_5_111 : Jvm.Cond.selects "RoverMinutesModel" ({ cls := "RoverMinutesModel", name := "gain", desc := "(I)V" } : Jvm.MethodName) ({ cls := "RoverMinutesModel", name := "gain", desc := "(I)V" } : Jvm.MethodName) ∈ am_W := am_W_in (am_run_5 (List.mem_of_getElem? (i := 111) rfl)) rfl
theorem wd_5_112 : Jvm.Cond.code ({ cls := "RoverMinutesModel", name := "gain", desc := "(I)V" } : Jvm.MethodName) prog_9_method_41_code (2 : Nat) (Option.none : Option Jvm.ClassFile.FieldType) ∈ am_W := am_W_in (am_run_5 (List.mem_of_getElem? (i := 112) rfl)) rfl
theorem wd_5_113 : Jvm.Cond.methodLink "RoverMinutesLaw" (106 : Nat) ({ cls := "RoverMinutesModel", name := "home", desc := "(II)V" } : Jvm.MethodName) ∈ am_W := am_W_in (am_run_5 (List.mem_of_getElem? (i := 113) rfl)) rfl
theorem wd_5_114 : Jvm.Cond.instanceMethod ({ cls := "RoverMinutesModel", name := "home", desc := "(II)V" } : Jvm.MethodName) ∈ am_W := am_W_in (am_run_5 (List.mem_of_getElem? (i := 114) rfl)) rfl
theorem wd_5_115 : Jvm.Cond.selects "RoverMinutesModel" ({ cls := "RoverMinutesModel", name := "home", desc := "(II)V" } : Jvm.MethodName) ({ cls := "RoverMinutesModel", name := "home", desc := "(II)V" } : Jvm.MethodName) ∈ am_W := am_W_in (am_run_5 (List.mem_of_getElem? (i := 115) rfl)) rfl
theorem wd_5_116 : Jvm.Cond.code ({ cls := "RoverMinutesModel", name := "home", desc := "(II)V" } : Jvm.MethodName) prog_9_method_42_code (3 : Nat) (Option.none : Option Jvm.ClassFile.FieldType) ∈ am_W := am_W_in (am_run_5 (List.mem_of_getElem? (i := 116) rfl)) rfl
theorem wd_5_117 : Jvm.Cond.methodLink "RoverMinutesLaw" (109 : Nat) ({ cls := "RoverMinutesModel", name := "fill", desc := "(II)V" } : Jvm.MethodName) ∈ am_W := am_W_in (am_run_5 (List.mem_of_getElem? (i := 117) rfl)) rfl
theorem wd_5_118 : Jvm.Cond.instanceMethod ({ cls := "RoverMinutesModel", name := "fill", desc := "(II)V" } : Jvm.MethodName) ∈ am_W := am_W_in (am_run_5 (List.mem_of_getElem? (i := 118) rfl)) rfl
theorem wd_5_119 : Jvm.Cond.selects "RoverMinutesModel" ({ cls := "RoverMinutesModel", name := "fill", desc := "(II)V" } : Jvm.MethodName) ({ cls := "RoverMinutesModel", name := "fill", desc := "(II)V" } : Jvm.MethodName) ∈ am_W := am_W_in (am_run_5 (List.mem_of_getElem? (i := 119) rfl)) rfl
theorem wd_5_120 : Jvm.Cond.code ({ cls := "RoverMinutesModel", name := "fill", desc := "(II)V" } : Jvm.MethodName) prog_9_method_43_code (3 : Nat) (Option.none : Option Jvm.ClassFile.FieldType) ∈ am_W := am_W_in (am_run_5 (List.mem_of_getElem? (i := 120) rfl)) rfl
theorem wd_5_121 : Jvm.Cond.methodLink "RoverMinutesLaw" (113 : Nat) ({ cls := "RoverMinutesModel", name := "now", desc := "()I" } : Jvm.MethodName) ∈ am_W := am_W_in (am_run_5 (List.mem_of_getElem? (i := 121) rfl)) rfl
theorem wd_5_122 : Jvm.Cond.instanceMethod ({ cls := "RoverMinutesModel", name := "now", desc := "()I" } : Jvm.MethodName) ∈ am_W := am_W_in (am_run_5 (List.mem_of_getElem? (i := 122) rfl)) rfl
theorem wd_5_123 : Jvm.Cond.selects "RoverMinutesModel" ({ cls := "RoverMinutesModel", name := "now", desc := "()I" } : Jvm.MethodName) ({ cls := "RoverMinutesModel", name := "now", desc := "()I" } : Jvm.MethodName) ∈ am_W := am_W_in (am_run_5 (List.mem_of_getElem? (i := 123) rfl)) rfl
theorem wd_5_124 : Jvm.Cond.code ({ cls := "RoverMinutesModel", name := "now", desc := "()I" } : Jvm.MethodName) prog_9_method_44_code (1 : Nat) (Option.some Jvm.ClassFile.FieldType.int) ∈ am_W := am_W_in (am_run_5 (List.mem_of_getElem? (i := 124) rfl)) rfl
theorem wd_5_125 : Jvm.Cond.methodLink "RoverMinutesLaw" (117 : Nat) ({ cls := "RoverMinutesModel", name := "mode", desc := "()I" } : Jvm.MethodName) ∈ am_W := am_W_in (am_run_5 (List.mem_of_getElem? (i := 125) rfl)) rfl
theorem wd_5_126 : Jvm.Cond.instanceMethod ({ cls := "RoverMinutesModel", name := "mode", desc := "()I" } : Jvm.MethodName) ∈ am_W := am_W_in (am_run_5 (List.mem_of_getElem? (i := 126) rfl)) rfl
theorem wd_5_127 : Jvm.Cond.selects "RoverMinutesModel" ({ cls := "RoverMinutesModel", name := "mode", desc := "()I" } : Jvm.MethodName) ({ cls := "RoverMinutesModel", name := "mode", desc := "()I" } : Jvm.MethodName) ∈ am_W := am_W_in (am_run_5 (List.mem_of_getElem? (i := 127) rfl)) rfl
theorem wd_5_128 : Jvm.Cond.code ({ cls := "RoverMinutesModel", name := "mode", desc := "()I" } : Jvm.MethodName) prog_9_method_45_code (1 : Nat) (Option.some Jvm.ClassFile.FieldType.int) ∈ am_W := am_W_in (am_run_5 (List.mem_of_getElem? (i := 128) rfl)) rfl
theorem wd_5_129 : Jvm.Cond.methodLink "RoverMinutesLaw" (120 : Nat) ({ cls := "RoverMinutesModel", name := "level", desc := "(I)I" } : Jvm.MethodName) ∈ am_W := am_W_in (am_run_5 (List.mem_of_getElem? (i := 129) rfl)) rfl
theorem wd_5_130 : Jvm.Cond.instanceMethod ({ cls := "RoverMinutesModel", name := "level", desc := "(I)I" } : Jvm.MethodName) ∈ am_W := am_W_in (am_run_5 (List.mem_of_getElem? (i := 130) rfl)) rfl
theorem wd_5_131 : Jvm.Cond.selects "RoverMinutesModel" ({ cls := "RoverMinutesModel", name := "level", desc := "(I)I" } : Jvm.MethodName) ({ cls := "RoverMinutesModel", name := "level", desc := "(I)I" } : Jvm.MethodName) ∈ am_W := am_W_in (am_run_5 (List.mem_of_getElem? (i := 131) rfl)) rfl
theorem wd_5_132 : Jvm.Cond.code ({ cls := "RoverMinutesModel", name := "level", desc := "(I)I" } : Jvm.MethodName) prog_9_method_47_code (2 : Nat) (Option.some Jvm.ClassFile.FieldType.int) ∈ am_W := am_W_in (am_run_5 (List.mem_of_getElem? (i := 132) rfl)) rfl
theorem wd_5_133 : Jvm.Cond.methodLink "RoverMinutesModel" (204 : Nat) ({ cls := "RoverMinutesModel", name := "heatNow", desc := "()I" } : Jvm.MethodName) ∈ am_W := am_W_in (am_run_5 (List.mem_of_getElem? (i := 133) rfl)) rfl
theorem wd_5_135 : Jvm.Cond.instanceMethod ({ cls := "RoverMinutesModel", name := "heatNow", desc := "()I" } : Jvm.MethodName) ∈ am_W := am_W_in (am_run_5 (List.mem_of_getElem? (i := 135) rfl)) rfl
theorem wd_5_136 : Jvm.Cond.code ({ cls := "RoverMinutesModel", name := "heatNow", desc := "()I" } : Jvm.MethodName) prog_9_method_46_code (3 : Nat) (Option.some Jvm.ClassFile.FieldType.int) ∈ am_W := am_W_in (am_run_5 (List.mem_of_getElem? (i := 136) rfl)) rfl
theorem wd_5_137 : Jvm.Cond.methodLink "RoverMinutesLaw" (124 : Nat) ({ cls := "RoverMinutesModel", name := "reserve", desc := "()I" } : Jvm.MethodName) ∈ am_W := am_W_in (am_run_5 (List.mem_of_getElem? (i := 137) rfl)) rfl
theorem wd_5_138 : Jvm.Cond.instanceMethod ({ cls := "RoverMinutesModel", name := "reserve", desc := "()I" } : Jvm.MethodName) ∈ am_W := am_W_in (am_run_5 (List.mem_of_getElem? (i := 138) rfl)) rfl
theorem wd_5_139 : Jvm.Cond.selects "RoverMinutesModel" ({ cls := "RoverMinutesModel", name := "reserve", desc := "()I" } : Jvm.MethodName) ({ cls := "RoverMinutesModel", name := "reserve", desc := "()I" } : Jvm.MethodName) ∈ am_W := am_W_in (am_run_5 (List.mem_of_getElem? (i := 139) rfl)) rfl
theorem wd_5_140 : Jvm.Cond.code ({ cls := "RoverMinutesModel", name := "reserve", desc := "()I" } : Jvm.MethodName) prog_9_method_48_code (2 : Nat) (Option.some Jvm.ClassFile.FieldType.int) ∈ am_W := am_W_in (am_run_5 (List.mem_of_getElem? (i := 140) rfl)) rfl
theorem wd_5_141 : Jvm.Cond.methodLink "RoverMinutesLaw" (128 : Nat) ({ cls := "RoverMinutesModel", name := "activities", desc := "()I" } : Jvm.MethodName) ∈ am_W := am_W_in (am_run_5 (List.mem_of_getElem? (i := 141) rfl)) rfl
theorem wd_5_142 : Jvm.Cond.instanceMethod ({ cls := "RoverMinutesModel", name := "activities", desc := "()I" } : Jvm.MethodName) ∈ am_W := am_W_in (am_run_5 (List.mem_of_getElem? (i := 142) rfl)) rfl
theorem wd_5_143 : Jvm.Cond.selects "RoverMinutesModel" ({ cls := "RoverMinutesModel", name := "activities", desc := "()I" } : Jvm.MethodName) ({ cls := "RoverMinutesModel", name := "activities", desc := "()I" } : Jvm.MethodName) ∈ am_W := am_W_in (am_run_5 (List.mem_of_getElem? (i := 143) rfl)) rfl
theorem wd_5_144 : Jvm.Cond.code ({ cls := "RoverMinutesModel", name := "activities", desc := "()I" } : Jvm.MethodName) prog_9_method_49_code (1 : Nat) (Option.some Jvm.ClassFile.FieldType.int) ∈ am_W := am_W_in (am_run_5 (List.mem_of_getElem? (i := 144) rfl)) rfl
theorem wd_5_145 : Jvm.Cond.methodLink "RoverMinutesLaw" (132 : Nat) ({ cls := "RoverMinutesModel", name := "activity", desc := "(II)I" } : Jvm.MethodName) ∈ am_W := am_W_in (am_run_5 (List.mem_of_getElem? (i := 145) rfl)) rfl
theorem wd_5_146 : Jvm.Cond.instanceMethod ({ cls := "RoverMinutesModel", name := "activity", desc := "(II)I" } : Jvm.MethodName) ∈ am_W := am_W_in (am_run_5 (List.mem_of_getElem? (i := 146) rfl)) rfl
theorem wd_5_147 : Jvm.Cond.selects "RoverMinutesModel" ({ cls := "RoverMinutesModel", name := "activity", desc := "(II)I" } : Jvm.MethodName) ({ cls := "RoverMinutesModel", name := "activity", desc := "(II)I" } : Jvm.MethodName) ∈ am_W := am_W_in (am_run_5 (List.mem_of_getElem? (i := 147) rfl)) rfl
theorem wd_5_148 : Jvm.Cond.code ({ cls := "RoverMinutesModel", name := "activity", desc := "(II)I" } : Jvm.MethodName) prog_9_method_50_code (3 : Nat) (Option.some Jvm.ClassFile.FieldType.int) ∈ am_W := am_W_in (am_run_5 (List.mem_of_getElem? (i := 148) rfl)) rfl
theorem wd_5_149 : Jvm.Cond.methodLink "RoverMinutesLaw" (136 : Nat) ({ cls := "RoverMinutesModel", name := "lowest", desc := "()I" } : Jvm.MethodName) ∈ am_W := am_W_in (am_run_5 (List.mem_of_getElem? (i := 149) rfl)) rfl
theorem wd_5_150 : Jvm.Cond.instanceMethod ({ cls := "RoverMinutesModel", name := "lowest", desc := "()I" } : Jvm.MethodName) ∈ am_W := am_W_in (am_run_5 (List.mem_of_getElem? (i := 150) rfl)) rfl
theorem wd_5_151 : Jvm.Cond.selects "RoverMinutesModel" ({ cls := "RoverMinutesModel", name := "lowest", desc := "()I" } : Jvm.MethodName) ({ cls := "RoverMinutesModel", name := "lowest", desc := "()I" } : Jvm.MethodName) ∈ am_W := am_W_in (am_run_5 (List.mem_of_getElem? (i := 151) rfl)) rfl
theorem wd_5_152 : Jvm.Cond.code ({ cls := "RoverMinutesModel", name := "lowest", desc := "()I" } : Jvm.MethodName) prog_9_method_51_code (4 : Nat) (Option.some Jvm.ClassFile.FieldType.int) ∈ am_W := am_W_in (am_run_5 (List.mem_of_getElem? (i := 152) rfl)) rfl
theorem wd_5_153 : Jvm.Cond.methodLink "RoverMinutesLaw" (139 : Nat) ({ cls := "RoverMinutesModel", name := "could", desc := "(I)Z" } : Jvm.MethodName) ∈ am_W := am_W_in (am_run_5 (List.mem_of_getElem? (i := 153) rfl)) rfl
theorem wd_5_154 : Jvm.Cond.instanceMethod ({ cls := "RoverMinutesModel", name := "could", desc := "(I)Z" } : Jvm.MethodName) ∈ am_W := am_W_in (am_run_5 (List.mem_of_getElem? (i := 154) rfl)) rfl
theorem wd_5_155 : Jvm.Cond.selects "RoverMinutesModel" ({ cls := "RoverMinutesModel", name := "could", desc := "(I)Z" } : Jvm.MethodName) ({ cls := "RoverMinutesModel", name := "could", desc := "(I)Z" } : Jvm.MethodName) ∈ am_W := am_W_in (am_run_5 (List.mem_of_getElem? (i := 155) rfl)) rfl
theorem wd_5_156 : Jvm.Cond.code ({ cls := "RoverMinutesModel", name := "could", desc := "(I)Z" } : Jvm.MethodName) prog_9_method_52_code (2 : Nat) (Option.some Jvm.ClassFile.FieldType.boolean) ∈ am_W := am_W_in (am_run_5 (List.mem_of_getElem? (i := 156) rfl)) rfl
theorem wd_5_157 : Jvm.Cond.arrayClass Jvm.ClassFile.FieldType.long ∈ am_W := am_W_in (am_run_5 (List.mem_of_getElem? (i := 157) rfl)) rfl
theorem wd_5_159 : Jvm.Cond.fieldLink "java/lang/String" (15 : Nat) "java/lang/String" "coder" "B" ∈ am_W := am_W_in (am_run_5 (List.mem_of_getElem? (i := 159) rfl)) rfl
theorem wd_5_160 : Jvm.Cond.fieldLink "java/lang/String" (9 : Nat) "java/lang/String" "value" "[B" ∈ am_W := am_W_in (am_run_5 (List.mem_of_getElem? (i := 160) rfl)) rfl
end
section
def F_Rm : u_T := fun k => match k with
  | 0 => ("RoverMinutes", "line", "LRoverMinutes$Line;", true)
  | 1 => ("RoverMinutes", "reader", "LRoverMinutes$PlanReader;", true)
  | 2 => ("RoverMinutes", "supply", "LRoverMinutes$Supply;", true)
  | 3 => ("RoverMinutes", "envelope", "LRoverMinutes$Envelope;", true)
  | 4 => ("RoverMinutes", "plan", "LRoverMinutes$Plan;", false)
  | 5 => ("RoverMinutes", "draft", "LRoverMinutes$Plan;", false)
  | 6 => ("RoverMinutes", "mode", "I", false)
  | 7 => ("RoverMinutes", "time", "I", false)
  | 8 => ("RoverMinutes", "enabledAt", "I", false)
  | _ => ("RoverMinutes", "returnLeft", "I", false)
def t_Rm : Nat → FieldType := fun k => match k with
  | 0 => .object "RoverMinutes$Line"
  | 1 => .object "RoverMinutes$PlanReader"
  | 2 => .object "RoverMinutes$Supply"
  | 3 => .object "RoverMinutes$Envelope"
  | 4 => .object "RoverMinutes$Plan"
  | 5 => .object "RoverMinutes$Plan"
  | 6 => .int
  | 7 => .int
  | 8 => .int
  | _ => .int
theorem n_Rm : ∀ a, a < 10 → ∀ b, b < 10 → a ≠ b → (F_Rm a).2.1 ≠ (F_Rm b).2.1 := by decide +kernel
theorem t_Rm_ok : ∀ k, k < 10 → parseFieldDescriptor (F_Rm k).2.2.1 = some (t_Rm k) := by decide +kernel
theorem hin_Rm : ∀ w ∈ u_ws "RoverMinutes" F_Rm 10, w ∈ am_W := by
  intro w hw
  obtain ⟨k, hk, rfl⟩ := List.mem_map.mp hw
  rw [List.mem_range] at hk
  match k, hk with
  | 0, _ => exact wd_2_15
  | 1, _ => exact wd_2_17
  | 2, _ => exact wd_2_19
  | 3, _ => exact wd_2_21
  | 4, _ => exact wd_2_23
  | 5, _ => exact wd_2_25
  | 6, _ => exact wd_2_27
  | 7, _ => exact wd_2_29
  | 8, _ => exact wd_2_31
  | 9, _ => exact wd_2_33
  | k + 10, h => exact absurd h (by omega)
def F_Line : u_T := fun k => match k with
  | 0 => ("RoverMinutes$Line", "text", "[C", true)
  | _ => ("RoverMinutes$Line", "length", "I", false)
def t_Line : Nat → FieldType := fun k => match k with
  | 0 => .array .char
  | _ => .int
theorem n_Line : ∀ a, a < 2 → ∀ b, b < 2 → a ≠ b → (F_Line a).2.1 ≠ (F_Line b).2.1 := by decide +kernel
theorem t_Line_ok : ∀ k, k < 2 → parseFieldDescriptor (F_Line k).2.2.1 = some (t_Line k) := by decide +kernel
theorem hin_Line : ∀ w ∈ u_ws "RoverMinutes$Line" F_Line 2, w ∈ am_W := by
  intro w hw
  obtain ⟨k, hk, rfl⟩ := List.mem_map.mp hw
  rw [List.mem_range] at hk
  match k, hk with
  | 0, _ => exact wd_1_39
  | 1, _ => exact wd_1_41
  | k + 2, h => exact absurd h (by omega)
def F_PlanReader : u_T := fun k => match k with
  | 0 => ("RoverMinutes$PlanReader", "line", "LRoverMinutes$Line;", true)
  | _ => ("RoverMinutes$PlanReader", "at", "I", false)
def t_PlanReader : Nat → FieldType := fun k => match k with
  | 0 => .object "RoverMinutes$Line"
  | _ => .int
theorem n_PlanReader : ∀ a, a < 2 → ∀ b, b < 2 → a ≠ b → (F_PlanReader a).2.1 ≠ (F_PlanReader b).2.1 := by decide +kernel
theorem t_PlanReader_ok : ∀ k, k < 2 → parseFieldDescriptor (F_PlanReader k).2.2.1 = some (t_PlanReader k) := by decide +kernel
theorem hin_PlanReader : ∀ w ∈ u_ws "RoverMinutes$PlanReader" F_PlanReader 2, w ∈ am_W := by
  intro w hw
  obtain ⟨k, hk, rfl⟩ := List.mem_map.mp hw
  rw [List.mem_range] at hk
  match k, hk with
  | 0, _ => exact wd_1_53
  | 1, _ => exact wd_1_55
  | k + 2, h => exact absurd h (by omega)
def F_Supply : u_T := fun k => match k with
  | 0 => ("RoverMinutes$Supply", "energy", "I", false)
  | 1 => ("RoverMinutes$Supply", "store", "I", false)
  | 2 => ("RoverMinutes$Supply", "trueGain", "I", false)
  | 3 => ("RoverMinutes$Supply", "homeMinutes", "I", false)
  | 4 => ("RoverMinutes$Supply", "homeDraw", "I", false)
  | 5 => ("RoverMinutes$Supply", "lowerGains", "[I", true)
  | _ => ("RoverMinutes$Supply", "needs", "[I", true)
def t_Supply : Nat → FieldType := fun k => match k with
  | 0 => .int
  | 1 => .int
  | 2 => .int
  | 3 => .int
  | 4 => .int
  | 5 => .array .int
  | _ => .array .int
theorem n_Supply : ∀ a, a < 7 → ∀ b, b < 7 → a ≠ b → (F_Supply a).2.1 ≠ (F_Supply b).2.1 := by decide +kernel
theorem t_Supply_ok : ∀ k, k < 7 → parseFieldDescriptor (F_Supply k).2.2.1 = some (t_Supply k) := by decide +kernel
theorem hin_Supply : ∀ w ∈ u_ws "RoverMinutes$Supply" F_Supply 7, w ∈ am_W := by
  intro w hw
  obtain ⟨k, hk, rfl⟩ := List.mem_map.mp hw
  rw [List.mem_range] at hk
  match k, hk with
  | 0, _ => exact wd_1_93
  | 1, _ => exact wd_1_95
  | 2, _ => exact wd_1_97
  | 3, _ => exact wd_1_99
  | 4, _ => exact wd_1_101
  | 5, _ => exact wd_1_103
  | 6, _ => exact wd_1_105
  | k + 7, h => exact absurd h (by omega)
def F_Envelope : u_T := fun k => match k with
  | 0 => ("RoverMinutes$Envelope", "drawsAhead", "[I", true)
  | 1 => ("RoverMinutes$Envelope", "length", "I", false)
  | 2 => ("RoverMinutes$Envelope", "heat", "I", false)
  | _ => ("RoverMinutes$Envelope", "data", "I", false)
def t_Envelope : Nat → FieldType := fun k => match k with
  | 0 => .array .int
  | 1 => .int
  | 2 => .int
  | _ => .int
theorem n_Envelope : ∀ a, a < 4 → ∀ b, b < 4 → a ≠ b → (F_Envelope a).2.1 ≠ (F_Envelope b).2.1 := by decide +kernel
theorem t_Envelope_ok : ∀ k, k < 4 → parseFieldDescriptor (F_Envelope k).2.2.1 = some (t_Envelope k) := by decide +kernel
theorem hin_Envelope : ∀ w ∈ u_ws "RoverMinutes$Envelope" F_Envelope 4, w ∈ am_W := by
  intro w hw
  obtain ⟨k, hk, rfl⟩ := List.mem_map.mp hw
  rw [List.mem_range] at hk
  match k, hk with
  | 0, _ => exact wd_1_119
  | 1, _ => exact wd_1_121
  | 2, _ => exact wd_1_123
  | 3, _ => exact wd_1_125
  | k + 4, h => exact absurd h (by omega)
def F_Plan : u_T := fun k => match k with
  | 0 => ("RoverMinutes$Plan", "members", "[LRoverMinutes$Activity;", true)
  | _ => ("RoverMinutes$Plan", "count", "I", false)
def t_Plan : Nat → FieldType := fun k => match k with
  | 0 => .array (.object "RoverMinutes$Activity")
  | _ => .int
theorem n_Plan : ∀ a, a < 2 → ∀ b, b < 2 → a ≠ b → (F_Plan a).2.1 ≠ (F_Plan b).2.1 := by decide +kernel
theorem t_Plan_ok : ∀ k, k < 2 → parseFieldDescriptor (F_Plan k).2.2.1 = some (t_Plan k) := by decide +kernel
theorem hin_Plan : ∀ w ∈ u_ws "RoverMinutes$Plan" F_Plan 2, w ∈ am_W := by
  intro w hw
  obtain ⟨k, hk, rfl⟩ := List.mem_map.mp hw
  rw [List.mem_range] at hk
  match k, hk with
  | 0, _ => exact wd_2_0
  | 1, _ => exact wd_2_2
  | k + 2, h => exact absurd h (by omega)
def F_Activity : u_T := fun k => match k with
  | 0 => ("RoverMinutes$Activity", "shortest", "I", false)
  | 1 => ("RoverMinutes$Activity", "longest", "I", false)
  | 2 => ("RoverMinutes$Activity", "energy", "I", false)
  | 3 => ("RoverMinutes$Activity", "data", "I", false)
  | 4 => ("RoverMinutes$Activity", "heat", "I", false)
  | 5 => ("RoverMinutes$Activity", "latest", "I", false)
  | 6 => ("RoverMinutes$Activity", "retries", "I", false)
  | 7 => ("RoverMinutes$Activity", "after", "I", false)
  | 8 => ("RoverMinutes$Activity", "insteadOf", "I", false)
  | 9 => ("RoverMinutes$Activity", "earliest", "I", false)
  | 10 => ("RoverMinutes$Activity", "state", "I", false)
  | 11 => ("RoverMinutes$Activity", "startedIn", "I", false)
  | 12 => ("RoverMinutes$Activity", "lasted", "I", false)
  | 13 => ("RoverMinutes$Activity", "retriesLeft", "I", false)
  | 14 => ("RoverMinutes$Activity", "starts", "I", false)
  | 15 => ("RoverMinutes$Activity", "due", "I", false)
  | 16 => ("RoverMinutes$Activity", "draw", "I", false)
  | 17 => ("RoverMinutes$Activity", "saidMinutes", "I", false)
  | _ => ("RoverMinutes$Activity", "saidDraw", "I", false)
def t_Activity : Nat → FieldType := fun k => match k with
  | 0 => .int
  | 1 => .int
  | 2 => .int
  | 3 => .int
  | 4 => .int
  | 5 => .int
  | 6 => .int
  | 7 => .int
  | 8 => .int
  | 9 => .int
  | 10 => .int
  | 11 => .int
  | 12 => .int
  | 13 => .int
  | 14 => .int
  | 15 => .int
  | 16 => .int
  | 17 => .int
  | _ => .int
theorem n_Activity : ∀ a, a < 19 → ∀ b, b < 19 → a ≠ b → (F_Activity a).2.1 ≠ (F_Activity b).2.1 := by decide +kernel
theorem t_Activity_ok : ∀ k, k < 19 → parseFieldDescriptor (F_Activity k).2.2.1 = some (t_Activity k) := by decide +kernel
theorem hin_Activity : ∀ w ∈ u_ws "RoverMinutes$Activity" F_Activity 19, w ∈ am_W := by
  intro w hw
  obtain ⟨k, hk, rfl⟩ := List.mem_map.mp hw
  rw [List.mem_range] at hk
  match k, hk with
  | 0, _ => exact wd_1_193
  | 1, _ => exact wd_1_195
  | 2, _ => exact wd_1_197
  | 3, _ => exact wd_1_199
  | 4, _ => exact wd_1_201
  | 5, _ => exact wd_1_203
  | 6, _ => exact wd_1_205
  | 7, _ => exact wd_1_207
  | 8, _ => exact wd_1_209
  | 9, _ => exact wd_1_211
  | 10, _ => exact wd_1_213
  | 11, _ => exact wd_1_215
  | 12, _ => exact wd_1_217
  | 13, _ => exact wd_1_219
  | 14, _ => exact wd_1_221
  | 15, _ => exact wd_1_223
  | 16, _ => exact wd_1_225
  | 17, _ => exact wd_1_227
  | 18, _ => exact wd_1_229
  | k + 19, h => exact absurd h (by omega)
def F_Mo : u_T := fun k => match k with
  | 0 => ("RoverMinutesModel", "thrown", "I", false)
  | 1 => ("RoverMinutesModel", "line", "[I", true)
  | 2 => ("RoverMinutesModel", "typed", "I", false)
  | 3 => ("RoverMinutesModel", "at", "I", false)
  | 4 => ("RoverMinutesModel", "readCount", "I", false)
  | 5 => ("RoverMinutesModel", "seen", "I", false)
  | 6 => ("RoverMinutesModel", "read", "[I", true)
  | 7 => ("RoverMinutesModel", "rings", "[I", true)
  | 8 => ("RoverMinutesModel", "firsts", "[I", true)
  | 9 => ("RoverMinutesModel", "count", "I", false)
  | 10 => ("RoverMinutesModel", "plan", "[I", true)
  | 11 => ("RoverMinutesModel", "earliest", "[I", true)
  | 12 => ("RoverMinutesModel", "states", "[I", true)
  | 13 => ("RoverMinutesModel", "started", "[I", true)
  | 14 => ("RoverMinutesModel", "ages", "[I", true)
  | 15 => ("RoverMinutesModel", "retries", "[I", true)
  | 16 => ("RoverMinutesModel", "starts", "[I", true)
  | 17 => ("RoverMinutesModel", "lengths", "[I", true)
  | 18 => ("RoverMinutesModel", "pulls", "[I", true)
  | 19 => ("RoverMinutesModel", "saidLength", "[I", true)
  | 20 => ("RoverMinutesModel", "saidPull", "[I", true)
  | 21 => ("RoverMinutesModel", "time", "I", false)
  | 22 => ("RoverMinutesModel", "mode", "I", false)
  | 23 => ("RoverMinutesModel", "level", "I", false)
  | 24 => ("RoverMinutesModel", "store", "I", false)
  | 25 => ("RoverMinutesModel", "curve", "[I", true)
  | 26 => ("RoverMinutesModel", "trueGain", "I", false)
  | 27 => ("RoverMinutesModel", "homeMinutes", "I", false)
  | 28 => ("RoverMinutesModel", "homeDraw", "I", false)
  | 29 => ("RoverMinutesModel", "homeLeft", "I", false)
  | _ => ("RoverMinutesModel", "enabledAt", "I", false)
def t_Mo : Nat → FieldType := fun k => match k with
  | 0 => .int
  | 1 => .array .int
  | 2 => .int
  | 3 => .int
  | 4 => .int
  | 5 => .int
  | 6 => .array .int
  | 7 => .array .int
  | 8 => .array .int
  | 9 => .int
  | 10 => .array .int
  | 11 => .array .int
  | 12 => .array .int
  | 13 => .array .int
  | 14 => .array .int
  | 15 => .array .int
  | 16 => .array .int
  | 17 => .array .int
  | 18 => .array .int
  | 19 => .array .int
  | 20 => .array .int
  | 21 => .int
  | 22 => .int
  | 23 => .int
  | 24 => .int
  | 25 => .array .int
  | 26 => .int
  | 27 => .int
  | 28 => .int
  | 29 => .int
  | _ => .int
theorem n_Mo : ∀ a, a < 31 → ∀ b, b < 31 → a ≠ b → (F_Mo a).2.1 ≠ (F_Mo b).2.1 := by decide +kernel
theorem t_Mo_ok : ∀ k, k < 31 → parseFieldDescriptor (F_Mo k).2.2.1 = some (t_Mo k) := by decide +kernel
theorem hin_Mo : ∀ w ∈ u_ws "RoverMinutesModel" F_Mo 31, w ∈ am_W := by
  intro w hw
  obtain ⟨k, hk, rfl⟩ := List.mem_map.mp hw
  rw [List.mem_range] at hk
  match k, hk with
  | 0, _ => exact wd_4_131
  | 1, _ => exact wd_4_133
  | 2, _ => exact wd_4_135
  | 3, _ => exact wd_4_137
  | 4, _ => exact wd_4_139
  | 5, _ => exact wd_4_141
  | 6, _ => exact wd_4_143
  | 7, _ => exact wd_4_145
  | 8, _ => exact wd_4_147
  | 9, _ => exact wd_4_149
  | 10, _ => exact wd_4_151
  | 11, _ => exact wd_4_153
  | 12, _ => exact wd_4_155
  | 13, _ => exact wd_4_157
  | 14, _ => exact wd_4_159
  | 15, _ => exact wd_4_161
  | 16, _ => exact wd_4_163
  | 17, _ => exact wd_4_165
  | 18, _ => exact wd_4_167
  | 19, _ => exact wd_4_169
  | 20, _ => exact wd_4_171
  | 21, _ => exact wd_4_173
  | 22, _ => exact wd_4_175
  | 23, _ => exact wd_4_177
  | 24, _ => exact wd_4_179
  | 25, _ => exact wd_4_181
  | 26, _ => exact wd_4_183
  | 27, _ => exact wd_4_185
  | 28, _ => exact wd_4_187
  | 29, _ => exact wd_4_189
  | 30, _ => exact wd_4_191
  | k + 31, h => exact absurd h (by omega)
abbrev classes : List vw_C := [("RoverMinutes", F_Rm, 10), ("RoverMinutes$Line", F_Line, 2), ("RoverMinutes$PlanReader", F_PlanReader, 2), ("RoverMinutes$Supply", F_Supply, 7), ("RoverMinutes$Envelope", F_Envelope, 4), ("RoverMinutes$Plan", F_Plan, 2), ("RoverMinutes$Activity", F_Activity, 19), ("RoverMinutesModel", F_Mo, 31)]
def tys : Nat → Nat → FieldType := fun ci => match ci with
  | 0 => t_Rm
  | 1 => t_Line
  | 2 => t_PlanReader
  | 3 => t_Supply
  | 4 => t_Envelope
  | 5 => t_Plan
  | 6 => t_Activity
  | _ => t_Mo
abbrev b_Rm_init : ByteArray := prog_1_method_1_code
abbrev y_Rm_init : MethodName := ⟨"RoverMinutes", "<init>", "()V"⟩
abbrev b_Rm_type : ByteArray := prog_1_method_2_code
abbrev y_Rm_type : MethodName := ⟨"RoverMinutes", "type", "(I)Z"⟩
abbrev b_Rm_submit : ByteArray := prog_1_method_3_code
abbrev y_Rm_submit : MethodName := ⟨"RoverMinutes", "submit", "()I"⟩
abbrev b_Rm_enable : ByteArray := prog_1_method_4_code
abbrev y_Rm_enable : MethodName := ⟨"RoverMinutes", "enable", "()I"⟩
abbrev b_Rm_cancel : ByteArray := prog_1_method_5_code
abbrev y_Rm_cancel : MethodName := ⟨"RoverMinutes", "cancel", "()V"⟩
abbrev b_Rm_minutes : ByteArray := prog_1_method_6_code
abbrev y_Rm_minutes : MethodName := ⟨"RoverMinutes", "minutes", "(I)I"⟩
abbrev b_Rm_lasts : ByteArray := prog_1_method_7_code
abbrev y_Rm_lasts : MethodName := ⟨"RoverMinutes", "lasts", "(II)V"⟩
abbrev b_Rm_draws : ByteArray := prog_1_method_8_code
abbrev y_Rm_draws : MethodName := ⟨"RoverMinutes", "draws", "(II)V"⟩
abbrev b_Rm_curve : ByteArray := prog_1_method_9_code
abbrev y_Rm_curve : MethodName := ⟨"RoverMinutes", "curve", "(II)V"⟩
abbrev b_Rm_gain : ByteArray := prog_1_method_10_code
abbrev y_Rm_gain : MethodName := ⟨"RoverMinutes", "gain", "(I)V"⟩
abbrev b_Rm_home : ByteArray := prog_1_method_11_code
abbrev y_Rm_home : MethodName := ⟨"RoverMinutes", "home", "(II)V"⟩
abbrev b_Rm_fill : ByteArray := prog_1_method_12_code
abbrev y_Rm_fill : MethodName := ⟨"RoverMinutes", "fill", "(II)V"⟩
abbrev b_Rm_now : ByteArray := prog_1_method_13_code
abbrev y_Rm_now : MethodName := ⟨"RoverMinutes", "now", "()I"⟩
abbrev b_Rm_mode : ByteArray := prog_1_method_14_code
abbrev y_Rm_mode : MethodName := ⟨"RoverMinutes", "mode", "()I"⟩
abbrev b_Rm_level : ByteArray := prog_1_method_15_code
abbrev y_Rm_level : MethodName := ⟨"RoverMinutes", "level", "(I)I"⟩
abbrev b_Rm_reserve : ByteArray := prog_1_method_16_code
abbrev y_Rm_reserve : MethodName := ⟨"RoverMinutes", "reserve", "()I"⟩
abbrev b_Rm_activities : ByteArray := prog_1_method_17_code
abbrev y_Rm_activities : MethodName := ⟨"RoverMinutes", "activities", "()I"⟩
abbrev b_Rm_activity : ByteArray := prog_1_method_18_code
abbrev y_Rm_activity : MethodName := ⟨"RoverMinutes", "activity", "(II)I"⟩
abbrev b_Rm_lowest : ByteArray := prog_1_method_19_code
abbrev y_Rm_lowest : MethodName := ⟨"RoverMinutes", "lowest", "()I"⟩
abbrev b_Rm_could : ByteArray := prog_1_method_20_code
abbrev y_Rm_could : MethodName := ⟨"RoverMinutes", "could", "(I)Z"⟩
abbrev b_Rm_byteOf : ByteArray := prog_1_method_21_code
abbrev y_Rm_byteOf : MethodName := ⟨"RoverMinutes", "byteOf", "(II)I"⟩
abbrev b_Rm_passInPlan : ByteArray := prog_1_method_22_code
abbrev y_Rm_passInPlan : MethodName := ⟨"RoverMinutes", "passInPlan", "()I"⟩
abbrev b_Rm_passInReturn : ByteArray := prog_1_method_23_code
abbrev y_Rm_passInReturn : MethodName := ⟨"RoverMinutes", "passInReturn", "()V"⟩
abbrev b_Rm_beginReturn : ByteArray := prog_1_method_24_code
abbrev y_Rm_beginReturn : MethodName := ⟨"RoverMinutes", "beginReturn", "()V"⟩
abbrev b_Rm_startAndSettle : ByteArray := prog_1_method_25_code
abbrev y_Rm_startAndSettle : MethodName := ⟨"RoverMinutes", "startAndSettle", "()I"⟩
abbrev b_Rm_mayStart : ByteArray := prog_1_method_26_code
abbrev y_Rm_mayStart : MethodName := ⟨"RoverMinutes", "mayStart", "(I)Z"⟩
abbrev b_Line_init : ByteArray := prog_4_method_1_code
abbrev y_Line_init : MethodName := ⟨"RoverMinutes$Line", "<init>", "()V"⟩
abbrev b_Line_canHold : ByteArray := prog_4_method_2_code
abbrev y_Line_canHold : MethodName := ⟨"RoverMinutes$Line", "canHold", "(I)Z"⟩
abbrev b_Line_hasRoomFor : ByteArray := prog_4_method_3_code
abbrev y_Line_hasRoomFor : MethodName := ⟨"RoverMinutes$Line", "hasRoomFor", "(I)Z"⟩
abbrev b_Line_put : ByteArray := prog_4_method_4_code
abbrev y_Line_put : MethodName := ⟨"RoverMinutes$Line", "put", "(C)V"⟩
abbrev b_Line_clear : ByteArray := prog_4_method_5_code
abbrev y_Line_clear : MethodName := ⟨"RoverMinutes$Line", "clear", "()V"⟩
abbrev b_PlanReader_init : ByteArray := prog_6_method_1_code
abbrev y_PlanReader_init : MethodName := ⟨"RoverMinutes$PlanReader", "<init>", "(LRoverMinutes$Line;)V"⟩
abbrev b_PlanReader_read : ByteArray := prog_6_method_2_code
abbrev y_PlanReader_read : MethodName := ⟨"RoverMinutes$PlanReader", "read", "(LRoverMinutes$Plan;)I"⟩
abbrev b_PlanReader_readTimes : ByteArray := prog_6_method_3_code
abbrev y_PlanReader_readTimes : MethodName := ⟨"RoverMinutes$PlanReader", "readTimes", "(LRoverMinutes$Activity;C)Z"⟩
abbrev b_PlanReader_readOptions : ByteArray := prog_6_method_4_code
abbrev y_PlanReader_readOptions : MethodName := ⟨"RoverMinutes$PlanReader", "readOptions", "(LRoverMinutes$Activity;)Z"⟩
abbrev b_PlanReader_readValue : ByteArray := prog_6_method_5_code
abbrev y_PlanReader_readValue : MethodName := ⟨"RoverMinutes$PlanReader", "readValue", "(LRoverMinutes$Activity;I)Z"⟩
abbrev b_PlanReader_readLink : ByteArray := prog_6_method_6_code
abbrev y_PlanReader_readLink : MethodName := ⟨"RoverMinutes$PlanReader", "readLink", "(LRoverMinutes$Activity;C)Z"⟩
abbrev b_PlanReader_take : ByteArray := prog_6_method_7_code
abbrev y_PlanReader_take : MethodName := ⟨"RoverMinutes$PlanReader", "take", "(C)Z"⟩
abbrev b_PlanReader_takeNumber : ByteArray := prog_6_method_8_code
abbrev y_PlanReader_takeNumber : MethodName := ⟨"RoverMinutes$PlanReader", "takeNumber", "()I"⟩
abbrev b_PlanReader_takeDigit : ByteArray := prog_6_method_9_code
abbrev y_PlanReader_takeDigit : MethodName := ⟨"RoverMinutes$PlanReader", "takeDigit", "()I"⟩
abbrev b_Supply_init : ByteArray := prog_7_method_1_code
abbrev y_Supply_init : MethodName := ⟨"RoverMinutes$Supply", "<init>", "()V"⟩
abbrev b_Supply_setWayHome : ByteArray := prog_7_method_2_code
abbrev y_Supply_setWayHome : MethodName := ⟨"RoverMinutes$Supply", "setWayHome", "(II)V"⟩
abbrev b_Supply_setLowerGain : ByteArray := prog_7_method_3_code
abbrev y_Supply_setLowerGain : MethodName := ⟨"RoverMinutes$Supply", "setLowerGain", "(II)V"⟩
abbrev b_Supply_reckonNeeds : ByteArray := prog_7_method_4_code
abbrev y_Supply_reckonNeeds : MethodName := ⟨"RoverMinutes$Supply", "reckonNeeds", "()V"⟩
abbrev b_Supply_needFrom : ByteArray := prog_7_method_5_code
abbrev y_Supply_needFrom : MethodName := ⟨"RoverMinutes$Supply", "needFrom", "(I)I"⟩
abbrev b_Supply_lowerGain : ByteArray := prog_7_method_6_code
abbrev y_Supply_lowerGain : MethodName := ⟨"RoverMinutes$Supply", "lowerGain", "(I)I"⟩
abbrev b_Supply_needBehind : ByteArray := prog_7_method_7_code
abbrev y_Supply_needBehind : MethodName := ⟨"RoverMinutes$Supply", "needBehind", "(I)I"⟩
abbrev b_Supply_isOpen : ByteArray := prog_7_method_8_code
abbrev y_Supply_isOpen : MethodName := ⟨"RoverMinutes$Supply", "isOpen", "(II)Z"⟩
abbrev b_Supply_goOn : ByteArray := prog_7_method_9_code
abbrev y_Supply_goOn : MethodName := ⟨"RoverMinutes$Supply", "goOn", "(III)I"⟩
abbrev b_Supply_pass : ByteArray := prog_7_method_10_code
abbrev y_Supply_pass : MethodName := ⟨"RoverMinutes$Supply", "pass", "(II)V"⟩
abbrev b_Supply_keep : ByteArray := prog_7_method_11_code
abbrev y_Supply_keep : MethodName := ⟨"RoverMinutes$Supply", "keep", "(I)V"⟩
abbrev b_Envelope_init : ByteArray := prog_3_method_1_code
abbrev y_Envelope_init : MethodName := ⟨"RoverMinutes$Envelope", "<init>", "()V"⟩
abbrev b_Envelope_gather : ByteArray := prog_3_method_2_code
abbrev y_Envelope_gather : MethodName := ⟨"RoverMinutes$Envelope", "gather", "(LRoverMinutes$Plan;I)V"⟩
abbrev b_Envelope_clear : ByteArray := prog_3_method_3_code
abbrev y_Envelope_clear : MethodName := ⟨"RoverMinutes$Envelope", "clear", "()V"⟩
abbrev b_Envelope_add : ByteArray := prog_3_method_4_code
abbrev y_Envelope_add : MethodName := ⟨"RoverMinutes$Envelope", "add", "(LRoverMinutes$Activity;I)V"⟩
abbrev b_Envelope_holds : ByteArray := prog_3_method_5_code
abbrev y_Envelope_holds : MethodName := ⟨"RoverMinutes$Envelope", "holds", "(LRoverMinutes$Supply;I)Z"⟩
abbrev b_Envelope_deepest : ByteArray := prog_3_method_6_code
abbrev y_Envelope_deepest : MethodName := ⟨"RoverMinutes$Envelope", "deepest", "(LRoverMinutes$Supply;I)I"⟩
abbrev b_Plan_init : ByteArray := prog_5_method_1_code
abbrev y_Plan_init : MethodName := ⟨"RoverMinutes$Plan", "<init>", "()V"⟩
abbrev b_Plan_has : ByteArray := prog_5_method_2_code
abbrev y_Plan_has : MethodName := ⟨"RoverMinutes$Plan", "has", "(I)Z"⟩
abbrev b_Plan_makeReady : ByteArray := prog_5_method_3_code
abbrev y_Plan_makeReady : MethodName := ⟨"RoverMinutes$Plan", "makeReady", "()V"⟩
abbrev b_Plan_findUnfit : ByteArray := prog_5_method_4_code
abbrev y_Plan_findUnfit : MethodName := ⟨"RoverMinutes$Plan", "findUnfit", "()I"⟩
abbrev b_Plan_saysWrong : ByteArray := prog_5_method_5_code
abbrev y_Plan_saysWrong : MethodName := ⟨"RoverMinutes$Plan", "saysWrong", "(I)Z"⟩
abbrev b_Plan_isInRing : ByteArray := prog_5_method_6_code
abbrev y_Plan_isInRing : MethodName := ⟨"RoverMinutes$Plan", "isInRing", "(I)Z"⟩
abbrev b_Plan_reckonEarliest : ByteArray := prog_5_method_7_code
abbrev y_Plan_reckonEarliest : MethodName := ⟨"RoverMinutes$Plan", "reckonEarliest", "()V"⟩
abbrev b_Plan_earliestOf : ByteArray := prog_5_method_8_code
abbrev y_Plan_earliestOf : MethodName := ⟨"RoverMinutes$Plan", "earliestOf", "(LRoverMinutes$Activity;)I"⟩
abbrev b_Plan_runningDraw : ByteArray := prog_5_method_9_code
abbrev y_Plan_runningDraw : MethodName := ⟨"RoverMinutes$Plan", "runningDraw", "()I"⟩
abbrev b_Plan_runningData : ByteArray := prog_5_method_10_code
abbrev y_Plan_runningData : MethodName := ⟨"RoverMinutes$Plan", "runningData", "()I"⟩
abbrev b_Plan_runningHeat : ByteArray := prog_5_method_11_code
abbrev y_Plan_runningHeat : MethodName := ⟨"RoverMinutes$Plan", "runningHeat", "()I"⟩
abbrev b_Plan_growOlder : ByteArray := prog_5_method_12_code
abbrev y_Plan_growOlder : MethodName := ⟨"RoverMinutes$Plan", "growOlder", "()V"⟩
abbrev b_Plan_skipHopeless : ByteArray := prog_5_method_13_code
abbrev y_Plan_skipHopeless : MethodName := ⟨"RoverMinutes$Plan", "skipHopeless", "(I)V"⟩
abbrev b_Plan_isHopeless : ByteArray := prog_5_method_14_code
abbrev y_Plan_isHopeless : MethodName := ⟨"RoverMinutes$Plan", "isHopeless", "(LRoverMinutes$Activity;I)Z"⟩
abbrev b_Plan_isReady : ByteArray := prog_5_method_15_code
abbrev y_Plan_isReady : MethodName := ⟨"RoverMinutes$Plan", "isReady", "(I)Z"⟩
abbrev b_Plan_giveUp : ByteArray := prog_5_method_16_code
abbrev y_Plan_giveUp : MethodName := ⟨"RoverMinutes$Plan", "giveUp", "()V"⟩
abbrev b_Plan_isOver : ByteArray := prog_5_method_17_code
abbrev y_Plan_isOver : MethodName := ⟨"RoverMinutes$Plan", "isOver", "()Z"⟩
abbrev b_Activity_init : ByteArray := prog_2_method_1_code
abbrev y_Activity_init : MethodName := ⟨"RoverMinutes$Activity", "<init>", "()V"⟩
abbrev b_Activity_clear : ByteArray := prog_2_method_2_code
abbrev y_Activity_clear : MethodName := ⟨"RoverMinutes$Activity", "clear", "()V"⟩
abbrev b_Activity_makeReady : ByteArray := prog_2_method_3_code
abbrev y_Activity_makeReady : MethodName := ⟨"RoverMinutes$Activity", "makeReady", "()V"⟩
abbrev b_Activity_isAfter : ByteArray := prog_2_method_4_code
abbrev y_Activity_isAfter : MethodName := ⟨"RoverMinutes$Activity", "isAfter", "(I)Z"⟩
abbrev b_Activity_isInsteadOf : ByteArray := prog_2_method_5_code
abbrev y_Activity_isInsteadOf : MethodName := ⟨"RoverMinutes$Activity", "isInsteadOf", "(I)Z"⟩
abbrev b_Activity_isRunning : ByteArray := prog_2_method_6_code
abbrev y_Activity_isRunning : MethodName := ⟨"RoverMinutes$Activity", "isRunning", "()Z"⟩
abbrev b_Activity_isWaiting : ByteArray := prog_2_method_7_code
abbrev y_Activity_isWaiting : MethodName := ⟨"RoverMinutes$Activity", "isWaiting", "()Z"⟩
abbrev b_Activity_isDone : ByteArray := prog_2_method_8_code
abbrev y_Activity_isDone : MethodName := ⟨"RoverMinutes$Activity", "isDone", "()Z"⟩
abbrev b_Activity_hasFailed : ByteArray := prog_2_method_9_code
abbrev y_Activity_hasFailed : MethodName := ⟨"RoverMinutes$Activity", "hasFailed", "()Z"⟩
abbrev b_Activity_start : ByteArray := prog_2_method_10_code
abbrev y_Activity_start : MethodName := ⟨"RoverMinutes$Activity", "start", "(I)V"⟩
abbrev b_Activity_growOlder : ByteArray := prog_2_method_11_code
abbrev y_Activity_growOlder : MethodName := ⟨"RoverMinutes$Activity", "growOlder", "()V"⟩
abbrev b_Activity_stop : ByteArray := prog_2_method_12_code
abbrev y_Activity_stop : MethodName := ⟨"RoverMinutes$Activity", "stop", "()V"⟩
abbrev b_Mo_init : ByteArray := prog_9_method_1_code
abbrev y_Mo_init : MethodName := ⟨"RoverMinutesModel", "<init>", "()V"⟩
abbrev b_Mo_thrown : ByteArray := prog_9_method_2_code
abbrev y_Mo_thrown : MethodName := ⟨"RoverMinutesModel", "thrown", "()I"⟩
abbrev b_Mo_refused : ByteArray := prog_9_method_3_code
abbrev y_Mo_refused : MethodName := ⟨"RoverMinutesModel", "refused", "(ZZ)Z"⟩
abbrev b_Mo_type : ByteArray := prog_9_method_4_code
abbrev y_Mo_type : MethodName := ⟨"RoverMinutesModel", "type", "(I)Z"⟩
abbrev b_Mo_look : ByteArray := prog_9_method_5_code
abbrev y_Mo_look : MethodName := ⟨"RoverMinutesModel", "look", "()I"⟩
abbrev b_Mo_isDigit : ByteArray := prog_9_method_6_code
abbrev y_Mo_isDigit : MethodName := ⟨"RoverMinutesModel", "isDigit", "()Z"⟩
abbrev b_Mo_readNumber : ByteArray := prog_9_method_7_code
abbrev y_Mo_readNumber : MethodName := ⟨"RoverMinutesModel", "readNumber", "()I"⟩
abbrev b_Mo_readInto : ByteArray := prog_9_method_8_code
abbrev y_Mo_readInto : MethodName := ⟨"RoverMinutesModel", "readInto", "(I)Z"⟩
abbrev b_Mo_rowOf : ByteArray := prog_9_method_9_code
abbrev y_Mo_rowOf : MethodName := ⟨"RoverMinutesModel", "rowOf", "(I)I"⟩
abbrev b_Mo_readOption : ByteArray := prog_9_method_10_code
abbrev y_Mo_readOption : MethodName := ⟨"RoverMinutesModel", "readOption", "()I"⟩
abbrev b_Mo_readActivity : ByteArray := prog_9_method_11_code
abbrev y_Mo_readActivity : MethodName := ⟨"RoverMinutesModel", "readActivity", "()Z"⟩
abbrev b_Mo_readLine : ByteArray := prog_9_method_12_code
abbrev y_Mo_readLine : MethodName := ⟨"RoverMinutesModel", "readLine", "()Z"⟩
abbrev b_Mo_isWrong : ByteArray := prog_9_method_13_code
abbrev y_Mo_isWrong : MethodName := ⟨"RoverMinutesModel", "isWrong", "(I)Z"⟩
abbrev b_Mo_findRings : ByteArray := prog_9_method_14_code
abbrev y_Mo_findRings : MethodName := ⟨"RoverMinutesModel", "findRings", "()V"⟩
abbrev b_Mo_findFirsts : ByteArray := prog_9_method_15_code
abbrev y_Mo_findFirsts : MethodName := ⟨"RoverMinutesModel", "findFirsts", "()V"⟩
abbrev b_Mo_unfit : ByteArray := prog_9_method_16_code
abbrev y_Mo_unfit : MethodName := ⟨"RoverMinutesModel", "unfit", "()I"⟩
abbrev b_Mo_rest : ByteArray := prog_9_method_17_code
abbrev y_Mo_rest : MethodName := ⟨"RoverMinutesModel", "rest", "()V"⟩
abbrev b_Mo_submit : ByteArray := prog_9_method_18_code
abbrev y_Mo_submit : MethodName := ⟨"RoverMinutesModel", "submit", "()I"⟩
abbrev b_Mo_afterMinute : ByteArray := prog_9_method_19_code
abbrev y_Mo_afterMinute : MethodName := ⟨"RoverMinutesModel", "afterMinute", "(III)I"⟩
abbrev b_Mo_isOpen : ByteArray := prog_9_method_20_code
abbrev y_Mo_isOpen : MethodName := ⟨"RoverMinutesModel", "isOpen", "(II)Z"⟩
abbrev b_Mo_isRunningOr : ByteArray := prog_9_method_21_code
abbrev y_Mo_isRunningOr : MethodName := ⟨"RoverMinutesModel", "isRunningOr", "(II)Z"⟩
abbrev b_Mo_leftOf : ByteArray := prog_9_method_22_code
abbrev y_Mo_leftOf : MethodName := ⟨"RoverMinutesModel", "leftOf", "(II)I"⟩
abbrev b_Mo_drawIn : ByteArray := prog_9_method_23_code
abbrev y_Mo_drawIn : MethodName := ⟨"RoverMinutesModel", "drawIn", "(II)I"⟩
abbrev b_Mo_holds : ByteArray := prog_9_method_24_code
abbrev y_Mo_holds : MethodName := ⟨"RoverMinutesModel", "holds", "(I)Z"⟩
abbrev b_Mo_howMany : ByteArray := prog_9_method_25_code
abbrev y_Mo_howMany : MethodName := ⟨"RoverMinutesModel", "howMany", "(I)I"⟩
abbrev b_Mo_hasIn : ByteArray := prog_9_method_26_code
abbrev y_Mo_hasIn : MethodName := ⟨"RoverMinutesModel", "hasIn", "(III)Z"⟩
abbrev b_Mo_skip : ByteArray := prog_9_method_27_code
abbrev y_Mo_skip : MethodName := ⟨"RoverMinutesModel", "skip", "()V"⟩
abbrev b_Mo_mayStart : ByteArray := prog_9_method_28_code
abbrev y_Mo_mayStart : MethodName := ⟨"RoverMinutesModel", "mayStart", "(I)Z"⟩
abbrev b_Mo_startAll : ByteArray := prog_9_method_29_code
abbrev y_Mo_startAll : MethodName := ⟨"RoverMinutesModel", "startAll", "()I"⟩
abbrev b_Mo_goHome : ByteArray := prog_9_method_30_code
abbrev y_Mo_goHome : MethodName := ⟨"RoverMinutesModel", "goHome", "()V"⟩
abbrev b_Mo_enable : ByteArray := prog_9_method_31_code
abbrev y_Mo_enable : MethodName := ⟨"RoverMinutesModel", "enable", "()I"⟩
abbrev b_Mo_cancel : ByteArray := prog_9_method_32_code
abbrev y_Mo_cancel : MethodName := ⟨"RoverMinutesModel", "cancel", "()V"⟩
abbrev b_Mo_draw : ByteArray := prog_9_method_33_code
abbrev y_Mo_draw : MethodName := ⟨"RoverMinutesModel", "draw", "(I)V"⟩
abbrev b_Mo_age : ByteArray := prog_9_method_34_code
abbrev y_Mo_age : MethodName := ⟨"RoverMinutesModel", "age", "()V"⟩
abbrev b_Mo_minute : ByteArray := prog_9_method_35_code
abbrev y_Mo_minute : MethodName := ⟨"RoverMinutesModel", "minute", "()I"⟩
abbrev b_Mo_minutes : ByteArray := prog_9_method_36_code
abbrev y_Mo_minutes : MethodName := ⟨"RoverMinutesModel", "minutes", "(I)I"⟩
abbrev b_Mo_isActivity : ByteArray := prog_9_method_37_code
abbrev y_Mo_isActivity : MethodName := ⟨"RoverMinutesModel", "isActivity", "(I)Z"⟩
abbrev b_Mo_lasts : ByteArray := prog_9_method_38_code
abbrev y_Mo_lasts : MethodName := ⟨"RoverMinutesModel", "lasts", "(II)V"⟩
abbrev b_Mo_draws : ByteArray := prog_9_method_39_code
abbrev y_Mo_draws : MethodName := ⟨"RoverMinutesModel", "draws", "(II)V"⟩
abbrev b_Mo_curve : ByteArray := prog_9_method_40_code
abbrev y_Mo_curve : MethodName := ⟨"RoverMinutesModel", "curve", "(II)V"⟩
abbrev b_Mo_gain : ByteArray := prog_9_method_41_code
abbrev y_Mo_gain : MethodName := ⟨"RoverMinutesModel", "gain", "(I)V"⟩
abbrev b_Mo_home : ByteArray := prog_9_method_42_code
abbrev y_Mo_home : MethodName := ⟨"RoverMinutesModel", "home", "(II)V"⟩
abbrev b_Mo_fill : ByteArray := prog_9_method_43_code
abbrev y_Mo_fill : MethodName := ⟨"RoverMinutesModel", "fill", "(II)V"⟩
abbrev b_Mo_now : ByteArray := prog_9_method_44_code
abbrev y_Mo_now : MethodName := ⟨"RoverMinutesModel", "now", "()I"⟩
abbrev b_Mo_mode : ByteArray := prog_9_method_45_code
abbrev y_Mo_mode : MethodName := ⟨"RoverMinutesModel", "mode", "()I"⟩
abbrev b_Mo_heatNow : ByteArray := prog_9_method_46_code
abbrev y_Mo_heatNow : MethodName := ⟨"RoverMinutesModel", "heatNow", "()I"⟩
abbrev b_Mo_level : ByteArray := prog_9_method_47_code
abbrev y_Mo_level : MethodName := ⟨"RoverMinutesModel", "level", "(I)I"⟩
abbrev b_Mo_reserve : ByteArray := prog_9_method_48_code
abbrev y_Mo_reserve : MethodName := ⟨"RoverMinutesModel", "reserve", "()I"⟩
abbrev b_Mo_activities : ByteArray := prog_9_method_49_code
abbrev y_Mo_activities : MethodName := ⟨"RoverMinutesModel", "activities", "()I"⟩
abbrev b_Mo_activity : ByteArray := prog_9_method_50_code
abbrev y_Mo_activity : MethodName := ⟨"RoverMinutesModel", "activity", "(II)I"⟩
abbrev b_Mo_lowest : ByteArray := prog_9_method_51_code
abbrev y_Mo_lowest : MethodName := ⟨"RoverMinutesModel", "lowest", "()I"⟩
abbrev b_Mo_could : ByteArray := prog_9_method_52_code
abbrev y_Mo_could : MethodName := ⟨"RoverMinutesModel", "could", "(I)Z"⟩
abbrev b_La_type : ByteArray := method_3_code
abbrev y_La_type : MethodName := ⟨"RoverMinutesLaw", "type", "(LRoverMinutes;I[J)I"⟩
abbrev b_La_submit : ByteArray := method_4_code
abbrev y_La_submit : MethodName := ⟨"RoverMinutesLaw", "submit", "(LRoverMinutes;[J)I"⟩
abbrev b_La_enable : ByteArray := method_5_code
abbrev y_La_enable : MethodName := ⟨"RoverMinutesLaw", "enable", "(LRoverMinutes;[J)I"⟩
abbrev b_La_cancel : ByteArray := method_6_code
abbrev y_La_cancel : MethodName := ⟨"RoverMinutesLaw", "cancel", "(LRoverMinutes;)I"⟩
abbrev b_La_minutes : ByteArray := method_7_code
abbrev y_La_minutes : MethodName := ⟨"RoverMinutesLaw", "minutes", "(LRoverMinutes;I[J)I"⟩
abbrev b_La_lasts : ByteArray := method_8_code
abbrev y_La_lasts : MethodName := ⟨"RoverMinutesLaw", "lasts", "(LRoverMinutes;II)I"⟩
abbrev b_La_draws : ByteArray := method_9_code
abbrev y_La_draws : MethodName := ⟨"RoverMinutesLaw", "draws", "(LRoverMinutes;II)I"⟩
abbrev b_La_curve : ByteArray := method_10_code
abbrev y_La_curve : MethodName := ⟨"RoverMinutesLaw", "curve", "(LRoverMinutes;II)I"⟩
abbrev b_La_gain : ByteArray := method_11_code
abbrev y_La_gain : MethodName := ⟨"RoverMinutesLaw", "gain", "(LRoverMinutes;I)I"⟩
abbrev b_La_home : ByteArray := method_12_code
abbrev y_La_home : MethodName := ⟨"RoverMinutesLaw", "home", "(LRoverMinutes;II)I"⟩
abbrev b_La_fill : ByteArray := method_13_code
abbrev y_La_fill : MethodName := ⟨"RoverMinutesLaw", "fill", "(LRoverMinutes;II)I"⟩
abbrev b_La_level : ByteArray := method_14_code
abbrev y_La_level : MethodName := ⟨"RoverMinutesLaw", "level", "(LRoverMinutes;I[J)I"⟩
abbrev b_La_activity : ByteArray := method_15_code
abbrev y_La_activity : MethodName := ⟨"RoverMinutesLaw", "activity", "(LRoverMinutes;II[J)I"⟩
abbrev b_La_could : ByteArray := method_16_code
abbrev y_La_could : MethodName := ⟨"RoverMinutesLaw", "could", "(LRoverMinutes;I[J)I"⟩
abbrev b_La_law : ByteArray := code
abbrev y_La_law : MethodName := ⟨"RoverMinutesLaw", "law", "([I)Z"⟩
abbrev b_floorMod : ByteArray := prog_15_method_50_code
abbrev y_floorMod : MethodName := ⟨"java/lang/Math", "floorMod", "(II)I"⟩
theorem ws_in_1 {w : Cond} (h : w ∈ k2_sels lw_privs_1) : w ∈ k2_sels lw_privs := by
  unfold k2_sels lw_privs
  rw [List.map_append]
  exact List.mem_append_left _ h
theorem ws_in_2 {w : Cond} (h : w ∈ k2_sels lw_privs_2) : w ∈ k2_sels lw_privs := by
  obtain ⟨q, h1, h2⟩ := List.mem_map.mp h
  refine List.mem_map.mpr ⟨q, ?_, h2⟩
  unfold lw_privs
  exact List.mem_append_right _ (List.mem_append_left _ h1)
theorem ws_in_3 {w : Cond} (h : w ∈ k2_sels lw_privs_3) : w ∈ k2_sels lw_privs := by
  obtain ⟨q, h1, h2⟩ := List.mem_map.mp h
  refine List.mem_map.mpr ⟨q, ?_, h2⟩
  unfold lw_privs
  exact List.mem_append_right _ (List.mem_append_right _ (List.mem_append_left _ h1))
theorem ws_in_4 {w : Cond} (h : w ∈ k2_sels lw_privs_4) : w ∈ k2_sels lw_privs := by
  obtain ⟨q, h1, h2⟩ := List.mem_map.mp h
  refine List.mem_map.mpr ⟨q, ?_, h2⟩
  unfold lw_privs
  exact List.mem_append_right _ (List.mem_append_right _ (List.mem_append_right _ (h1)))
theorem ws_Supply_reckonNeeds : Cond.selects "RoverMinutes$Supply" y_Supply_reckonNeeds y_Supply_reckonNeeds ∈ am_W := List.mem_filter.mpr ⟨List.mem_append_left _ (ws_in_1 (List.mem_of_getElem? (i := 0) rfl)), rfl⟩
theorem ws_Supply_needFrom : Cond.selects "RoverMinutes$Supply" y_Supply_needFrom y_Supply_needFrom ∈ am_W := List.mem_filter.mpr ⟨List.mem_append_left _ (ws_in_1 (List.mem_of_getElem? (i := 1) rfl)), rfl⟩
theorem ws_Envelope_clear : Cond.selects "RoverMinutes$Envelope" y_Envelope_clear y_Envelope_clear ∈ am_W := List.mem_filter.mpr ⟨List.mem_append_left _ (ws_in_1 (List.mem_of_getElem? (i := 2) rfl)), rfl⟩
theorem ws_Envelope_add : Cond.selects "RoverMinutes$Envelope" y_Envelope_add y_Envelope_add ∈ am_W := List.mem_filter.mpr ⟨List.mem_append_left _ (ws_in_1 (List.mem_of_getElem? (i := 3) rfl)), rfl⟩
theorem ws_PlanReader_take : Cond.selects "RoverMinutes$PlanReader" y_PlanReader_take y_PlanReader_take ∈ am_W := List.mem_filter.mpr ⟨List.mem_append_left _ (ws_in_1 (List.mem_of_getElem? (i := 5) rfl)), rfl⟩
theorem ws_PlanReader_readTimes : Cond.selects "RoverMinutes$PlanReader" y_PlanReader_readTimes y_PlanReader_readTimes ∈ am_W := List.mem_filter.mpr ⟨List.mem_append_left _ (ws_in_1 (List.mem_of_getElem? (i := 6) rfl)), rfl⟩
theorem ws_PlanReader_takeNumber : Cond.selects "RoverMinutes$PlanReader" y_PlanReader_takeNumber y_PlanReader_takeNumber ∈ am_W := List.mem_filter.mpr ⟨List.mem_append_left _ (ws_in_1 (List.mem_of_getElem? (i := 7) rfl)), rfl⟩
theorem ws_PlanReader_takeDigit : Cond.selects "RoverMinutes$PlanReader" y_PlanReader_takeDigit y_PlanReader_takeDigit ∈ am_W := List.mem_filter.mpr ⟨List.mem_append_left _ (ws_in_1 (List.mem_of_getElem? (i := 8) rfl)), rfl⟩
theorem ws_PlanReader_readOptions : Cond.selects "RoverMinutes$PlanReader" y_PlanReader_readOptions y_PlanReader_readOptions ∈ am_W := List.mem_filter.mpr ⟨List.mem_append_left _ (ws_in_1 (List.mem_of_getElem? (i := 9) rfl)), rfl⟩
theorem ws_PlanReader_readValue : Cond.selects "RoverMinutes$PlanReader" y_PlanReader_readValue y_PlanReader_readValue ∈ am_W := List.mem_filter.mpr ⟨List.mem_append_left _ (ws_in_1 (List.mem_of_getElem? (i := 10) rfl)), rfl⟩
theorem ws_PlanReader_readLink : Cond.selects "RoverMinutes$PlanReader" y_PlanReader_readLink y_PlanReader_readLink ∈ am_W := List.mem_filter.mpr ⟨List.mem_append_left _ (ws_in_1 (List.mem_of_getElem? (i := 11) rfl)), rfl⟩
theorem ws_Plan_saysWrong : Cond.selects "RoverMinutes$Plan" y_Plan_saysWrong y_Plan_saysWrong ∈ am_W := List.mem_filter.mpr ⟨List.mem_append_left _ (ws_in_1 (List.mem_of_getElem? (i := 12) rfl)), rfl⟩
theorem ws_Plan_isInRing : Cond.selects "RoverMinutes$Plan" y_Plan_isInRing y_Plan_isInRing ∈ am_W := List.mem_filter.mpr ⟨List.mem_append_left _ (ws_in_1 (List.mem_of_getElem? (i := 13) rfl)), rfl⟩
theorem ws_Plan_reckonEarliest : Cond.selects "RoverMinutes$Plan" y_Plan_reckonEarliest y_Plan_reckonEarliest ∈ am_W := List.mem_filter.mpr ⟨List.mem_append_left _ (ws_in_1 (List.mem_of_getElem? (i := 14) rfl)), rfl⟩
theorem ws_Plan_earliestOf : Cond.selects "RoverMinutes$Plan" y_Plan_earliestOf y_Plan_earliestOf ∈ am_W := List.mem_filter.mpr ⟨List.mem_append_left _ (ws_in_1 (List.mem_of_getElem? (i := 15) rfl)), rfl⟩
theorem ws_Plan_isHopeless : Cond.selects "RoverMinutes$Plan" y_Plan_isHopeless y_Plan_isHopeless ∈ am_W := List.mem_filter.mpr ⟨List.mem_append_left _ (ws_in_2 (List.mem_of_getElem? (i := 0) rfl)), rfl⟩
theorem ws_Rm_startAndSettle : Cond.selects "RoverMinutes" y_Rm_startAndSettle y_Rm_startAndSettle ∈ am_W := List.mem_filter.mpr ⟨List.mem_append_left _ (ws_in_2 (List.mem_of_getElem? (i := 1) rfl)), rfl⟩
theorem ws_Rm_mayStart : Cond.selects "RoverMinutes" y_Rm_mayStart y_Rm_mayStart ∈ am_W := List.mem_filter.mpr ⟨List.mem_append_left _ (ws_in_2 (List.mem_of_getElem? (i := 2) rfl)), rfl⟩
theorem ws_Rm_beginReturn : Cond.selects "RoverMinutes" y_Rm_beginReturn y_Rm_beginReturn ∈ am_W := List.mem_filter.mpr ⟨List.mem_append_left _ (ws_in_2 (List.mem_of_getElem? (i := 3) rfl)), rfl⟩
theorem ws_Rm_passInPlan : Cond.selects "RoverMinutes" y_Rm_passInPlan y_Rm_passInPlan ∈ am_W := List.mem_filter.mpr ⟨List.mem_append_left _ (ws_in_2 (List.mem_of_getElem? (i := 4) rfl)), rfl⟩
theorem ws_Activity_stop : Cond.selects "RoverMinutes$Activity" y_Activity_stop y_Activity_stop ∈ am_W := List.mem_filter.mpr ⟨List.mem_append_left _ (ws_in_2 (List.mem_of_getElem? (i := 5) rfl)), rfl⟩
theorem ws_Rm_passInReturn : Cond.selects "RoverMinutes" y_Rm_passInReturn y_Rm_passInReturn ∈ am_W := List.mem_filter.mpr ⟨List.mem_append_left _ (ws_in_2 (List.mem_of_getElem? (i := 6) rfl)), rfl⟩
theorem ws_Mo_refused : Cond.selects "RoverMinutesModel" y_Mo_refused y_Mo_refused ∈ am_W := List.mem_filter.mpr ⟨List.mem_append_left _ (ws_in_2 (List.mem_of_getElem? (i := 7) rfl)), rfl⟩
theorem ws_Mo_readLine : Cond.selects "RoverMinutesModel" y_Mo_readLine y_Mo_readLine ∈ am_W := List.mem_filter.mpr ⟨List.mem_append_left _ (ws_in_2 (List.mem_of_getElem? (i := 8) rfl)), rfl⟩
theorem ws_Mo_readActivity : Cond.selects "RoverMinutesModel" y_Mo_readActivity y_Mo_readActivity ∈ am_W := List.mem_filter.mpr ⟨List.mem_append_left _ (ws_in_2 (List.mem_of_getElem? (i := 9) rfl)), rfl⟩
theorem ws_Mo_look : Cond.selects "RoverMinutesModel" y_Mo_look y_Mo_look ∈ am_W := List.mem_filter.mpr ⟨List.mem_append_left _ (ws_in_2 (List.mem_of_getElem? (i := 10) rfl)), rfl⟩
theorem ws_Mo_readInto : Cond.selects "RoverMinutesModel" y_Mo_readInto y_Mo_readInto ∈ am_W := List.mem_filter.mpr ⟨List.mem_append_left _ (ws_in_2 (List.mem_of_getElem? (i := 11) rfl)), rfl⟩
theorem ws_Mo_readNumber : Cond.selects "RoverMinutesModel" y_Mo_readNumber y_Mo_readNumber ∈ am_W := List.mem_filter.mpr ⟨List.mem_append_left _ (ws_in_2 (List.mem_of_getElem? (i := 12) rfl)), rfl⟩
theorem ws_Mo_isDigit : Cond.selects "RoverMinutesModel" y_Mo_isDigit y_Mo_isDigit ∈ am_W := List.mem_filter.mpr ⟨List.mem_append_left _ (ws_in_2 (List.mem_of_getElem? (i := 13) rfl)), rfl⟩
theorem ws_Mo_readOption : Cond.selects "RoverMinutesModel" y_Mo_readOption y_Mo_readOption ∈ am_W := List.mem_filter.mpr ⟨List.mem_append_left _ (ws_in_2 (List.mem_of_getElem? (i := 14) rfl)), rfl⟩
theorem ws_Mo_unfit : Cond.selects "RoverMinutesModel" y_Mo_unfit y_Mo_unfit ∈ am_W := List.mem_filter.mpr ⟨List.mem_append_left _ (ws_in_2 (List.mem_of_getElem? (i := 15) rfl)), rfl⟩
theorem ws_Mo_isWrong : Cond.selects "RoverMinutesModel" y_Mo_isWrong y_Mo_isWrong ∈ am_W := List.mem_filter.mpr ⟨List.mem_append_left _ (ws_in_3 (List.mem_of_getElem? (i := 0) rfl)), rfl⟩
theorem ws_Mo_findRings : Cond.selects "RoverMinutesModel" y_Mo_findRings y_Mo_findRings ∈ am_W := List.mem_filter.mpr ⟨List.mem_append_left _ (ws_in_3 (List.mem_of_getElem? (i := 1) rfl)), rfl⟩
theorem ws_Mo_findFirsts : Cond.selects "RoverMinutesModel" y_Mo_findFirsts y_Mo_findFirsts ∈ am_W := List.mem_filter.mpr ⟨List.mem_append_left _ (ws_in_3 (List.mem_of_getElem? (i := 2) rfl)), rfl⟩
theorem ws_Mo_rest : Cond.selects "RoverMinutesModel" y_Mo_rest y_Mo_rest ∈ am_W := List.mem_filter.mpr ⟨List.mem_append_left _ (ws_in_3 (List.mem_of_getElem? (i := 3) rfl)), rfl⟩
theorem ws_Mo_isOpen : Cond.selects "RoverMinutesModel" y_Mo_isOpen y_Mo_isOpen ∈ am_W := List.mem_filter.mpr ⟨List.mem_append_left _ (ws_in_3 (List.mem_of_getElem? (i := 4) rfl)), rfl⟩
theorem ws_Mo_afterMinute : Cond.selects "RoverMinutesModel" y_Mo_afterMinute y_Mo_afterMinute ∈ am_W := List.mem_filter.mpr ⟨List.mem_append_left _ (ws_in_3 (List.mem_of_getElem? (i := 5) rfl)), rfl⟩
theorem ws_Mo_skip : Cond.selects "RoverMinutesModel" y_Mo_skip y_Mo_skip ∈ am_W := List.mem_filter.mpr ⟨List.mem_append_left _ (ws_in_3 (List.mem_of_getElem? (i := 6) rfl)), rfl⟩
theorem ws_Mo_hasIn : Cond.selects "RoverMinutesModel" y_Mo_hasIn y_Mo_hasIn ∈ am_W := List.mem_filter.mpr ⟨List.mem_append_left _ (ws_in_3 (List.mem_of_getElem? (i := 7) rfl)), rfl⟩
theorem ws_Mo_startAll : Cond.selects "RoverMinutesModel" y_Mo_startAll y_Mo_startAll ∈ am_W := List.mem_filter.mpr ⟨List.mem_append_left _ (ws_in_3 (List.mem_of_getElem? (i := 8) rfl)), rfl⟩
theorem ws_Mo_mayStart : Cond.selects "RoverMinutesModel" y_Mo_mayStart y_Mo_mayStart ∈ am_W := List.mem_filter.mpr ⟨List.mem_append_left _ (ws_in_3 (List.mem_of_getElem? (i := 9) rfl)), rfl⟩
theorem ws_Mo_holds : Cond.selects "RoverMinutesModel" y_Mo_holds y_Mo_holds ∈ am_W := List.mem_filter.mpr ⟨List.mem_append_left _ (ws_in_3 (List.mem_of_getElem? (i := 10) rfl)), rfl⟩
theorem ws_Mo_isRunningOr : Cond.selects "RoverMinutesModel" y_Mo_isRunningOr y_Mo_isRunningOr ∈ am_W := List.mem_filter.mpr ⟨List.mem_append_left _ (ws_in_3 (List.mem_of_getElem? (i := 11) rfl)), rfl⟩
theorem ws_Mo_leftOf : Cond.selects "RoverMinutesModel" y_Mo_leftOf y_Mo_leftOf ∈ am_W := List.mem_filter.mpr ⟨List.mem_append_left _ (ws_in_3 (List.mem_of_getElem? (i := 12) rfl)), rfl⟩
theorem ws_Mo_drawIn : Cond.selects "RoverMinutesModel" y_Mo_drawIn y_Mo_drawIn ∈ am_W := List.mem_filter.mpr ⟨List.mem_append_left _ (ws_in_3 (List.mem_of_getElem? (i := 13) rfl)), rfl⟩
theorem ws_Mo_howMany : Cond.selects "RoverMinutesModel" y_Mo_howMany y_Mo_howMany ∈ am_W := List.mem_filter.mpr ⟨List.mem_append_left _ (ws_in_3 (List.mem_of_getElem? (i := 14) rfl)), rfl⟩
theorem ws_Mo_goHome : Cond.selects "RoverMinutesModel" y_Mo_goHome y_Mo_goHome ∈ am_W := List.mem_filter.mpr ⟨List.mem_append_left _ (ws_in_3 (List.mem_of_getElem? (i := 15) rfl)), rfl⟩
theorem ws_Mo_minute : Cond.selects "RoverMinutesModel" y_Mo_minute y_Mo_minute ∈ am_W := List.mem_filter.mpr ⟨List.mem_append_left _ (ws_in_4 (List.mem_of_getElem? (i := 0) rfl)), rfl⟩
theorem ws_Mo_draw : Cond.selects "RoverMinutesModel" y_Mo_draw y_Mo_draw ∈ am_W := List.mem_filter.mpr ⟨List.mem_append_left _ (ws_in_4 (List.mem_of_getElem? (i := 1) rfl)), rfl⟩
theorem ws_Mo_age : Cond.selects "RoverMinutesModel" y_Mo_age y_Mo_age ∈ am_W := List.mem_filter.mpr ⟨List.mem_append_left _ (ws_in_4 (List.mem_of_getElem? (i := 2) rfl)), rfl⟩
theorem ws_Mo_isActivity : Cond.selects "RoverMinutesModel" y_Mo_isActivity y_Mo_isActivity ∈ am_W := List.mem_filter.mpr ⟨List.mem_append_left _ (ws_in_4 (List.mem_of_getElem? (i := 3) rfl)), rfl⟩
theorem ws_Mo_heatNow : Cond.selects "RoverMinutesModel" y_Mo_heatNow y_Mo_heatNow ∈ am_W := List.mem_filter.mpr ⟨List.mem_append_left _ (ws_in_4 (List.mem_of_getElem? (i := 4) rfl)), rfl⟩
end
section
theorem d_floorMod_0 : decode b_floorMod 0 = .ok (.iload_n 0, 1) := by decide +kernel
theorem d_floorMod_1 : decode b_floorMod 1 = .ok (.iload_n 1, 1) := by decide +kernel
theorem d_floorMod_2 : decode b_floorMod 2 = .ok (.irem, 1) := by decide +kernel
theorem d_floorMod_3 : decode b_floorMod 3 = .ok (.istore_n 2, 1) := by decide +kernel
theorem d_floorMod_4 : decode b_floorMod 4 = .ok (.iload_n 0, 1) := by decide +kernel
theorem d_floorMod_5 : decode b_floorMod 5 = .ok (.iload_n 1, 1) := by decide +kernel
theorem d_floorMod_6 : decode b_floorMod 6 = .ok (.ixor, 1) := by decide +kernel
theorem d_floorMod_7 : decode b_floorMod 7 = .ok (.ifCond .ge 11, 3) := by decide +kernel
theorem d_floorMod_10 : decode b_floorMod 10 = .ok (.iload_n 2, 1) := by decide +kernel
theorem d_floorMod_11 : decode b_floorMod 11 = .ok (.ifCond .eq 7, 3) := by decide +kernel
theorem d_floorMod_14 : decode b_floorMod 14 = .ok (.iload_n 2, 1) := by decide +kernel
theorem d_floorMod_15 : decode b_floorMod 15 = .ok (.iload_n 1, 1) := by decide +kernel
theorem d_floorMod_16 : decode b_floorMod 16 = .ok (.iadd, 1) := by decide +kernel
theorem d_floorMod_17 : decode b_floorMod 17 = .ok (.ireturn, 1) := by decide +kernel
theorem d_floorMod_18 : decode b_floorMod 18 = .ok (.iload_n 2, 1) := by decide +kernel
theorem d_floorMod_19 : decode b_floorMod 19 = .ok (.ireturn, 1) := by decide +kernel
theorem d_Activity_init_0 : decode b_Activity_init 0 = .ok (.aload_n 0, 1) := by decide +kernel
theorem d_Activity_init_1 : decode b_Activity_init 1 = .ok (.invokespecial 3, 3) := by decide +kernel
theorem d_Activity_init_4 : decode b_Activity_init 4 = .ok (.return_, 1) := by decide +kernel
theorem d_Activity_clear_0 : decode b_Activity_clear 0 = .ok (.aload_n 0, 1) := by decide +kernel
theorem d_Activity_clear_1 : decode b_Activity_clear 1 = .ok (.iconst 0, 1) := by decide +kernel
theorem d_Activity_clear_2 : decode b_Activity_clear 2 = .ok (.putfield 9, 3) := by decide +kernel
theorem d_Activity_clear_5 : decode b_Activity_clear 5 = .ok (.aload_n 0, 1) := by decide +kernel
theorem d_Activity_clear_6 : decode b_Activity_clear 6 = .ok (.iconst 0, 1) := by decide +kernel
theorem d_Activity_clear_7 : decode b_Activity_clear 7 = .ok (.putfield 15, 3) := by decide +kernel
theorem d_Activity_clear_10 : decode b_Activity_clear 10 = .ok (.aload_n 0, 1) := by decide +kernel
theorem d_Activity_clear_11 : decode b_Activity_clear 11 = .ok (.iconst 0, 1) := by decide +kernel
theorem d_Activity_clear_12 : decode b_Activity_clear 12 = .ok (.putfield 18, 3) := by decide +kernel
theorem d_Activity_clear_15 : decode b_Activity_clear 15 = .ok (.aload_n 0, 1) := by decide +kernel
theorem d_Activity_clear_16 : decode b_Activity_clear 16 = .ok (.iconst 0, 1) := by decide +kernel
theorem d_Activity_clear_17 : decode b_Activity_clear 17 = .ok (.putfield 21, 3) := by decide +kernel
theorem d_Activity_clear_20 : decode b_Activity_clear 20 = .ok (.aload_n 0, 1) := by decide +kernel
theorem d_Activity_clear_21 : decode b_Activity_clear 21 = .ok (.iconst 0, 1) := by decide +kernel
theorem d_Activity_clear_22 : decode b_Activity_clear 22 = .ok (.putfield 24, 3) := by decide +kernel
theorem d_Activity_clear_25 : decode b_Activity_clear 25 = .ok (.aload_n 0, 1) := by decide +kernel
theorem d_Activity_clear_26 : decode b_Activity_clear 26 = .ok (.bipush 99, 2) := by decide +kernel
theorem d_Activity_clear_28 : decode b_Activity_clear 28 = .ok (.putfield 27, 3) := by decide +kernel
theorem d_Activity_clear_31 : decode b_Activity_clear 31 = .ok (.aload_n 0, 1) := by decide +kernel
theorem d_Activity_clear_32 : decode b_Activity_clear 32 = .ok (.iconst 0, 1) := by decide +kernel
theorem d_Activity_clear_33 : decode b_Activity_clear 33 = .ok (.putfield 30, 3) := by decide +kernel
theorem d_Activity_clear_36 : decode b_Activity_clear 36 = .ok (.aload_n 0, 1) := by decide +kernel
theorem d_Activity_clear_37 : decode b_Activity_clear 37 = .ok (.iconst 0, 1) := by decide +kernel
theorem d_Activity_clear_38 : decode b_Activity_clear 38 = .ok (.putfield 33, 3) := by decide +kernel
theorem d_Activity_clear_41 : decode b_Activity_clear 41 = .ok (.aload_n 0, 1) := by decide +kernel
theorem d_Activity_clear_42 : decode b_Activity_clear 42 = .ok (.iconst 0, 1) := by decide +kernel
theorem d_Activity_clear_43 : decode b_Activity_clear 43 = .ok (.putfield 36, 3) := by decide +kernel
theorem d_Activity_clear_46 : decode b_Activity_clear 46 = .ok (.aload_n 0, 1) := by decide +kernel
theorem d_Activity_clear_47 : decode b_Activity_clear 47 = .ok (.iconst 0, 1) := by decide +kernel
theorem d_Activity_clear_48 : decode b_Activity_clear 48 = .ok (.putfield 39, 3) := by decide +kernel
theorem d_Activity_clear_51 : decode b_Activity_clear 51 = .ok (.aload_n 0, 1) := by decide +kernel
theorem d_Activity_clear_52 : decode b_Activity_clear 52 = .ok (.iconst (-1), 1) := by decide +kernel
theorem d_Activity_clear_53 : decode b_Activity_clear 53 = .ok (.putfield 42, 3) := by decide +kernel
theorem d_Activity_clear_56 : decode b_Activity_clear 56 = .ok (.aload_n 0, 1) := by decide +kernel
theorem d_Activity_clear_57 : decode b_Activity_clear 57 = .ok (.iconst (-1), 1) := by decide +kernel
theorem d_Activity_clear_58 : decode b_Activity_clear 58 = .ok (.putfield 45, 3) := by decide +kernel
theorem d_Activity_clear_61 : decode b_Activity_clear 61 = .ok (.return_, 1) := by decide +kernel
theorem d_Activity_makeReady_0 : decode b_Activity_makeReady 0 = .ok (.aload_n 0, 1) := by decide +kernel
theorem d_Activity_makeReady_1 : decode b_Activity_makeReady 1 = .ok (.iconst 0, 1) := by decide +kernel
theorem d_Activity_makeReady_2 : decode b_Activity_makeReady 2 = .ok (.putfield 48, 3) := by decide +kernel
theorem d_Activity_makeReady_5 : decode b_Activity_makeReady 5 = .ok (.aload_n 0, 1) := by decide +kernel
theorem d_Activity_makeReady_6 : decode b_Activity_makeReady 6 = .ok (.iconst (-1), 1) := by decide +kernel
theorem d_Activity_makeReady_7 : decode b_Activity_makeReady 7 = .ok (.putfield 51, 3) := by decide +kernel
theorem d_Activity_makeReady_10 : decode b_Activity_makeReady 10 = .ok (.aload_n 0, 1) := by decide +kernel
theorem d_Activity_makeReady_11 : decode b_Activity_makeReady 11 = .ok (.iconst 0, 1) := by decide +kernel
theorem d_Activity_makeReady_12 : decode b_Activity_makeReady 12 = .ok (.putfield 54, 3) := by decide +kernel
theorem d_Activity_makeReady_15 : decode b_Activity_makeReady 15 = .ok (.aload_n 0, 1) := by decide +kernel
theorem d_Activity_makeReady_16 : decode b_Activity_makeReady 16 = .ok (.aload_n 0, 1) := by decide +kernel
theorem d_Activity_makeReady_17 : decode b_Activity_makeReady 17 = .ok (.getfield 30, 3) := by decide +kernel
theorem d_Activity_makeReady_20 : decode b_Activity_makeReady 20 = .ok (.putfield 57, 3) := by decide +kernel
theorem d_Activity_makeReady_23 : decode b_Activity_makeReady 23 = .ok (.aload_n 0, 1) := by decide +kernel
theorem d_Activity_makeReady_24 : decode b_Activity_makeReady 24 = .ok (.iconst 0, 1) := by decide +kernel
theorem d_Activity_makeReady_25 : decode b_Activity_makeReady 25 = .ok (.putfield 60, 3) := by decide +kernel
theorem d_Activity_makeReady_28 : decode b_Activity_makeReady 28 = .ok (.return_, 1) := by decide +kernel
theorem d_Activity_isAfter_0 : decode b_Activity_isAfter 0 = .ok (.aload_n 0, 1) := by decide +kernel
theorem d_Activity_isAfter_1 : decode b_Activity_isAfter 1 = .ok (.getfield 33, 3) := by decide +kernel
theorem d_Activity_isAfter_4 : decode b_Activity_isAfter 4 = .ok (.iload_n 1, 1) := by decide +kernel
theorem d_Activity_isAfter_5 : decode b_Activity_isAfter 5 = .ok (.ishr, 1) := by decide +kernel
theorem d_Activity_isAfter_6 : decode b_Activity_isAfter 6 = .ok (.iconst 1, 1) := by decide +kernel
theorem d_Activity_isAfter_7 : decode b_Activity_isAfter 7 = .ok (.iand, 1) := by decide +kernel
theorem d_Activity_isAfter_8 : decode b_Activity_isAfter 8 = .ok (.ifCond .eq 7, 3) := by decide +kernel
theorem d_Activity_isAfter_11 : decode b_Activity_isAfter 11 = .ok (.iconst 1, 1) := by decide +kernel
theorem d_Activity_isAfter_12 : decode b_Activity_isAfter 12 = .ok (.goto 4, 3) := by decide +kernel
theorem d_Activity_isAfter_15 : decode b_Activity_isAfter 15 = .ok (.iconst 0, 1) := by decide +kernel
theorem d_Activity_isAfter_16 : decode b_Activity_isAfter 16 = .ok (.ireturn, 1) := by decide +kernel
theorem d_Activity_isInsteadOf_0 : decode b_Activity_isInsteadOf 0 = .ok (.aload_n 0, 1) := by decide +kernel
theorem d_Activity_isInsteadOf_1 : decode b_Activity_isInsteadOf 1 = .ok (.getfield 36, 3) := by decide +kernel
theorem d_Activity_isInsteadOf_4 : decode b_Activity_isInsteadOf 4 = .ok (.iload_n 1, 1) := by decide +kernel
theorem d_Activity_isInsteadOf_5 : decode b_Activity_isInsteadOf 5 = .ok (.ishr, 1) := by decide +kernel
theorem d_Activity_isInsteadOf_6 : decode b_Activity_isInsteadOf 6 = .ok (.iconst 1, 1) := by decide +kernel
theorem d_Activity_isInsteadOf_7 : decode b_Activity_isInsteadOf 7 = .ok (.iand, 1) := by decide +kernel
theorem d_Activity_isInsteadOf_8 : decode b_Activity_isInsteadOf 8 = .ok (.ifCond .eq 7, 3) := by decide +kernel
theorem d_Activity_isInsteadOf_11 : decode b_Activity_isInsteadOf 11 = .ok (.iconst 1, 1) := by decide +kernel
theorem d_Activity_isInsteadOf_12 : decode b_Activity_isInsteadOf 12 = .ok (.goto 4, 3) := by decide +kernel
theorem d_Activity_isInsteadOf_15 : decode b_Activity_isInsteadOf 15 = .ok (.iconst 0, 1) := by decide +kernel
theorem d_Activity_isInsteadOf_16 : decode b_Activity_isInsteadOf 16 = .ok (.ireturn, 1) := by decide +kernel
theorem d_Activity_isRunning_0 : decode b_Activity_isRunning 0 = .ok (.aload_n 0, 1) := by decide +kernel
theorem d_Activity_isRunning_1 : decode b_Activity_isRunning 1 = .ok (.getfield 48, 3) := by decide +kernel
theorem d_Activity_isRunning_4 : decode b_Activity_isRunning 4 = .ok (.iconst 1, 1) := by decide +kernel
theorem d_Activity_isRunning_5 : decode b_Activity_isRunning 5 = .ok (.if_icmp .ne 7, 3) := by decide +kernel
theorem d_Activity_isRunning_8 : decode b_Activity_isRunning 8 = .ok (.iconst 1, 1) := by decide +kernel
theorem d_Activity_isRunning_9 : decode b_Activity_isRunning 9 = .ok (.goto 4, 3) := by decide +kernel
theorem d_Activity_isRunning_12 : decode b_Activity_isRunning 12 = .ok (.iconst 0, 1) := by decide +kernel
theorem d_Activity_isRunning_13 : decode b_Activity_isRunning 13 = .ok (.ireturn, 1) := by decide +kernel
theorem d_Activity_isWaiting_0 : decode b_Activity_isWaiting 0 = .ok (.aload_n 0, 1) := by decide +kernel
theorem d_Activity_isWaiting_1 : decode b_Activity_isWaiting 1 = .ok (.getfield 48, 3) := by decide +kernel
theorem d_Activity_isWaiting_4 : decode b_Activity_isWaiting 4 = .ok (.ifCond .ne 7, 3) := by decide +kernel
theorem d_Activity_isWaiting_7 : decode b_Activity_isWaiting 7 = .ok (.iconst 1, 1) := by decide +kernel
theorem d_Activity_isWaiting_8 : decode b_Activity_isWaiting 8 = .ok (.goto 4, 3) := by decide +kernel
theorem d_Activity_isWaiting_11 : decode b_Activity_isWaiting 11 = .ok (.iconst 0, 1) := by decide +kernel
theorem d_Activity_isWaiting_12 : decode b_Activity_isWaiting 12 = .ok (.ireturn, 1) := by decide +kernel
theorem d_Activity_isDone_0 : decode b_Activity_isDone 0 = .ok (.aload_n 0, 1) := by decide +kernel
theorem d_Activity_isDone_1 : decode b_Activity_isDone 1 = .ok (.getfield 48, 3) := by decide +kernel
theorem d_Activity_isDone_4 : decode b_Activity_isDone 4 = .ok (.iconst 2, 1) := by decide +kernel
theorem d_Activity_isDone_5 : decode b_Activity_isDone 5 = .ok (.if_icmp .ne 7, 3) := by decide +kernel
theorem d_Activity_isDone_8 : decode b_Activity_isDone 8 = .ok (.iconst 1, 1) := by decide +kernel
theorem d_Activity_isDone_9 : decode b_Activity_isDone 9 = .ok (.goto 4, 3) := by decide +kernel
theorem d_Activity_isDone_12 : decode b_Activity_isDone 12 = .ok (.iconst 0, 1) := by decide +kernel
theorem d_Activity_isDone_13 : decode b_Activity_isDone 13 = .ok (.ireturn, 1) := by decide +kernel
theorem d_Activity_hasFailed_0 : decode b_Activity_hasFailed 0 = .ok (.aload_n 0, 1) := by decide +kernel
theorem d_Activity_hasFailed_1 : decode b_Activity_hasFailed 1 = .ok (.getfield 48, 3) := by decide +kernel
theorem d_Activity_hasFailed_4 : decode b_Activity_hasFailed 4 = .ok (.iconst 3, 1) := by decide +kernel
theorem d_Activity_hasFailed_5 : decode b_Activity_hasFailed 5 = .ok (.if_icmp .eq 11, 3) := by decide +kernel
theorem d_Activity_hasFailed_8 : decode b_Activity_hasFailed 8 = .ok (.aload_n 0, 1) := by decide +kernel
theorem d_Activity_hasFailed_9 : decode b_Activity_hasFailed 9 = .ok (.getfield 48, 3) := by decide +kernel
theorem d_Activity_hasFailed_12 : decode b_Activity_hasFailed 12 = .ok (.iconst 4, 1) := by decide +kernel
theorem d_Activity_hasFailed_13 : decode b_Activity_hasFailed 13 = .ok (.if_icmp .ne 7, 3) := by decide +kernel
theorem d_Activity_hasFailed_16 : decode b_Activity_hasFailed 16 = .ok (.iconst 1, 1) := by decide +kernel
theorem d_Activity_hasFailed_17 : decode b_Activity_hasFailed 17 = .ok (.goto 4, 3) := by decide +kernel
theorem d_Activity_hasFailed_20 : decode b_Activity_hasFailed 20 = .ok (.iconst 0, 1) := by decide +kernel
theorem d_Activity_hasFailed_21 : decode b_Activity_hasFailed 21 = .ok (.ireturn, 1) := by decide +kernel
theorem d_Activity_start_0 : decode b_Activity_start 0 = .ok (.aload_n 0, 1) := by decide +kernel
theorem d_Activity_start_1 : decode b_Activity_start 1 = .ok (.iconst 1, 1) := by decide +kernel
theorem d_Activity_start_2 : decode b_Activity_start 2 = .ok (.putfield 48, 3) := by decide +kernel
theorem d_Activity_start_5 : decode b_Activity_start 5 = .ok (.aload_n 0, 1) := by decide +kernel
theorem d_Activity_start_6 : decode b_Activity_start 6 = .ok (.iload_n 1, 1) := by decide +kernel
theorem d_Activity_start_7 : decode b_Activity_start 7 = .ok (.putfield 51, 3) := by decide +kernel
theorem d_Activity_start_10 : decode b_Activity_start 10 = .ok (.aload_n 0, 1) := by decide +kernel
theorem d_Activity_start_11 : decode b_Activity_start 11 = .ok (.iconst 0, 1) := by decide +kernel
theorem d_Activity_start_12 : decode b_Activity_start 12 = .ok (.putfield 54, 3) := by decide +kernel
theorem d_Activity_start_15 : decode b_Activity_start 15 = .ok (.aload_n 0, 1) := by decide +kernel
theorem d_Activity_start_16 : decode b_Activity_start 16 = .ok (.dup, 1) := by decide +kernel
theorem d_Activity_start_17 : decode b_Activity_start 17 = .ok (.getfield 60, 3) := by decide +kernel
theorem d_Activity_start_20 : decode b_Activity_start 20 = .ok (.iconst 1, 1) := by decide +kernel
theorem d_Activity_start_21 : decode b_Activity_start 21 = .ok (.iadd, 1) := by decide +kernel
theorem d_Activity_start_22 : decode b_Activity_start 22 = .ok (.putfield 60, 3) := by decide +kernel
theorem d_Activity_start_25 : decode b_Activity_start 25 = .ok (.aload_n 0, 1) := by decide +kernel
theorem d_Activity_start_26 : decode b_Activity_start 26 = .ok (.aload_n 0, 1) := by decide +kernel
theorem d_Activity_start_27 : decode b_Activity_start 27 = .ok (.getfield 42, 3) := by decide +kernel
theorem d_Activity_start_30 : decode b_Activity_start 30 = .ok (.iconst (-1), 1) := by decide +kernel
theorem d_Activity_start_31 : decode b_Activity_start 31 = .ok (.if_icmp .ne 10, 3) := by decide +kernel
theorem d_Activity_start_34 : decode b_Activity_start 34 = .ok (.aload_n 0, 1) := by decide +kernel
theorem d_Activity_start_35 : decode b_Activity_start 35 = .ok (.getfield 15, 3) := by decide +kernel
theorem d_Activity_start_38 : decode b_Activity_start 38 = .ok (.goto 7, 3) := by decide +kernel
theorem d_Activity_start_41 : decode b_Activity_start 41 = .ok (.aload_n 0, 1) := by decide +kernel
theorem d_Activity_start_42 : decode b_Activity_start 42 = .ok (.getfield 42, 3) := by decide +kernel
theorem d_Activity_start_45 : decode b_Activity_start 45 = .ok (.putfield 63, 3) := by decide +kernel
theorem d_Activity_start_48 : decode b_Activity_start 48 = .ok (.aload_n 0, 1) := by decide +kernel
theorem d_Activity_start_49 : decode b_Activity_start 49 = .ok (.aload_n 0, 1) := by decide +kernel
theorem d_Activity_start_50 : decode b_Activity_start 50 = .ok (.getfield 45, 3) := by decide +kernel
theorem d_Activity_start_53 : decode b_Activity_start 53 = .ok (.iconst (-1), 1) := by decide +kernel
theorem d_Activity_start_54 : decode b_Activity_start 54 = .ok (.if_icmp .ne 10, 3) := by decide +kernel
theorem d_Activity_start_57 : decode b_Activity_start 57 = .ok (.aload_n 0, 1) := by decide +kernel
theorem d_Activity_start_58 : decode b_Activity_start 58 = .ok (.getfield 18, 3) := by decide +kernel
theorem d_Activity_start_61 : decode b_Activity_start 61 = .ok (.goto 7, 3) := by decide +kernel
theorem d_Activity_start_64 : decode b_Activity_start 64 = .ok (.aload_n 0, 1) := by decide +kernel
theorem d_Activity_start_65 : decode b_Activity_start 65 = .ok (.getfield 45, 3) := by decide +kernel
theorem d_Activity_start_68 : decode b_Activity_start 68 = .ok (.putfield 66, 3) := by decide +kernel
theorem d_Activity_start_71 : decode b_Activity_start 71 = .ok (.aload_n 0, 1) := by decide +kernel
theorem d_Activity_start_72 : decode b_Activity_start 72 = .ok (.iconst (-1), 1) := by decide +kernel
theorem d_Activity_start_73 : decode b_Activity_start 73 = .ok (.putfield 42, 3) := by decide +kernel
theorem d_Activity_start_76 : decode b_Activity_start 76 = .ok (.aload_n 0, 1) := by decide +kernel
theorem d_Activity_start_77 : decode b_Activity_start 77 = .ok (.iconst (-1), 1) := by decide +kernel
theorem d_Activity_start_78 : decode b_Activity_start 78 = .ok (.putfield 45, 3) := by decide +kernel
theorem d_Activity_start_81 : decode b_Activity_start 81 = .ok (.return_, 1) := by decide +kernel
theorem d_Activity_growOlder_0 : decode b_Activity_growOlder 0 = .ok (.aload_n 0, 1) := by decide +kernel
theorem d_Activity_growOlder_1 : decode b_Activity_growOlder 1 = .ok (.dup, 1) := by decide +kernel
theorem d_Activity_growOlder_2 : decode b_Activity_growOlder 2 = .ok (.getfield 54, 3) := by decide +kernel
theorem d_Activity_growOlder_5 : decode b_Activity_growOlder 5 = .ok (.iconst 1, 1) := by decide +kernel
theorem d_Activity_growOlder_6 : decode b_Activity_growOlder 6 = .ok (.iadd, 1) := by decide +kernel
theorem d_Activity_growOlder_7 : decode b_Activity_growOlder 7 = .ok (.putfield 54, 3) := by decide +kernel
theorem d_Activity_growOlder_10 : decode b_Activity_growOlder 10 = .ok (.aload_n 0, 1) := by decide +kernel
theorem d_Activity_growOlder_11 : decode b_Activity_growOlder 11 = .ok (.getfield 66, 3) := by decide +kernel
theorem d_Activity_growOlder_14 : decode b_Activity_growOlder 14 = .ok (.aload_n 0, 1) := by decide +kernel
theorem d_Activity_growOlder_15 : decode b_Activity_growOlder 15 = .ok (.getfield 18, 3) := by decide +kernel
theorem d_Activity_growOlder_18 : decode b_Activity_growOlder 18 = .ok (.if_icmp .gt 25, 3) := by decide +kernel
theorem d_Activity_growOlder_21 : decode b_Activity_growOlder 21 = .ok (.aload_n 0, 1) := by decide +kernel
theorem d_Activity_growOlder_22 : decode b_Activity_growOlder 22 = .ok (.getfield 54, 3) := by decide +kernel
theorem d_Activity_growOlder_25 : decode b_Activity_growOlder 25 = .ok (.aload_n 0, 1) := by decide +kernel
theorem d_Activity_growOlder_26 : decode b_Activity_growOlder 26 = .ok (.getfield 15, 3) := by decide +kernel
theorem d_Activity_growOlder_29 : decode b_Activity_growOlder 29 = .ok (.if_icmp .lt 21, 3) := by decide +kernel
theorem d_Activity_growOlder_32 : decode b_Activity_growOlder 32 = .ok (.aload_n 0, 1) := by decide +kernel
theorem d_Activity_growOlder_33 : decode b_Activity_growOlder 33 = .ok (.getfield 63, 3) := by decide +kernel
theorem d_Activity_growOlder_36 : decode b_Activity_growOlder 36 = .ok (.aload_n 0, 1) := by decide +kernel
theorem d_Activity_growOlder_37 : decode b_Activity_growOlder 37 = .ok (.getfield 54, 3) := by decide +kernel
theorem d_Activity_growOlder_40 : decode b_Activity_growOlder 40 = .ok (.if_icmp .le 10, 3) := by decide +kernel
theorem d_Activity_growOlder_43 : decode b_Activity_growOlder 43 = .ok (.aload_n 0, 1) := by decide +kernel
theorem d_Activity_growOlder_44 : decode b_Activity_growOlder 44 = .ok (.invokevirtual 69, 3) := by decide +kernel
theorem d_Activity_growOlder_47 : decode b_Activity_growOlder 47 = .ok (.goto 19, 3) := by decide +kernel
theorem d_Activity_growOlder_50 : decode b_Activity_growOlder 50 = .ok (.aload_n 0, 1) := by decide +kernel
theorem d_Activity_growOlder_51 : decode b_Activity_growOlder 51 = .ok (.getfield 54, 3) := by decide +kernel
theorem d_Activity_growOlder_54 : decode b_Activity_growOlder 54 = .ok (.aload_n 0, 1) := by decide +kernel
theorem d_Activity_growOlder_55 : decode b_Activity_growOlder 55 = .ok (.getfield 63, 3) := by decide +kernel
theorem d_Activity_growOlder_58 : decode b_Activity_growOlder 58 = .ok (.if_icmp .lt 8, 3) := by decide +kernel
theorem d_Activity_growOlder_61 : decode b_Activity_growOlder 61 = .ok (.aload_n 0, 1) := by decide +kernel
theorem d_Activity_growOlder_62 : decode b_Activity_growOlder 62 = .ok (.iconst 2, 1) := by decide +kernel
theorem d_Activity_growOlder_63 : decode b_Activity_growOlder 63 = .ok (.putfield 48, 3) := by decide +kernel
theorem d_Activity_growOlder_66 : decode b_Activity_growOlder 66 = .ok (.return_, 1) := by decide +kernel
theorem d_Activity_stop_0 : decode b_Activity_stop 0 = .ok (.aload_n 0, 1) := by decide +kernel
theorem d_Activity_stop_1 : decode b_Activity_stop 1 = .ok (.getfield 57, 3) := by decide +kernel
theorem d_Activity_stop_4 : decode b_Activity_stop 4 = .ok (.ifCond .le 21, 3) := by decide +kernel
theorem d_Activity_stop_7 : decode b_Activity_stop 7 = .ok (.aload_n 0, 1) := by decide +kernel
theorem d_Activity_stop_8 : decode b_Activity_stop 8 = .ok (.dup, 1) := by decide +kernel
theorem d_Activity_stop_9 : decode b_Activity_stop 9 = .ok (.getfield 57, 3) := by decide +kernel
theorem d_Activity_stop_12 : decode b_Activity_stop 12 = .ok (.iconst 1, 1) := by decide +kernel
theorem d_Activity_stop_13 : decode b_Activity_stop 13 = .ok (.isub, 1) := by decide +kernel
theorem d_Activity_stop_14 : decode b_Activity_stop 14 = .ok (.putfield 57, 3) := by decide +kernel
theorem d_Activity_stop_17 : decode b_Activity_stop 17 = .ok (.aload_n 0, 1) := by decide +kernel
theorem d_Activity_stop_18 : decode b_Activity_stop 18 = .ok (.iconst 0, 1) := by decide +kernel
theorem d_Activity_stop_19 : decode b_Activity_stop 19 = .ok (.putfield 48, 3) := by decide +kernel
theorem d_Activity_stop_22 : decode b_Activity_stop 22 = .ok (.goto 8, 3) := by decide +kernel
theorem d_Activity_stop_25 : decode b_Activity_stop 25 = .ok (.aload_n 0, 1) := by decide +kernel
theorem d_Activity_stop_26 : decode b_Activity_stop 26 = .ok (.iconst 3, 1) := by decide +kernel
theorem d_Activity_stop_27 : decode b_Activity_stop 27 = .ok (.putfield 48, 3) := by decide +kernel
theorem d_Activity_stop_30 : decode b_Activity_stop 30 = .ok (.return_, 1) := by decide +kernel
end
section
theorem d_Line_init_0 : decode b_Line_init 0 = .ok (.aload_n 0, 1) := by decide +kernel
theorem d_Line_init_1 : decode b_Line_init 1 = .ok (.invokespecial 1, 3) := by decide +kernel
theorem d_Line_init_4 : decode b_Line_init 4 = .ok (.aload_n 0, 1) := by decide +kernel
theorem d_Line_init_5 : decode b_Line_init 5 = .ok (.bipush 64, 2) := by decide +kernel
theorem d_Line_init_7 : decode b_Line_init 7 = .ok (.newarray .char, 2) := by decide +kernel
theorem d_Line_init_9 : decode b_Line_init 9 = .ok (.putfield 9, 3) := by decide +kernel
theorem d_Line_init_12 : decode b_Line_init 12 = .ok (.return_, 1) := by decide +kernel
theorem d_Line_canHold_0 : decode b_Line_canHold 0 = .ok (.iload_n 0, 1) := by decide +kernel
theorem d_Line_canHold_1 : decode b_Line_canHold 1 = .ok (.bipush 32, 2) := by decide +kernel
theorem d_Line_canHold_3 : decode b_Line_canHold 3 = .ok (.if_icmp .lt 13, 3) := by decide +kernel
theorem d_Line_canHold_6 : decode b_Line_canHold 6 = .ok (.iload_n 0, 1) := by decide +kernel
theorem d_Line_canHold_7 : decode b_Line_canHold 7 = .ok (.bipush 126, 2) := by decide +kernel
theorem d_Line_canHold_9 : decode b_Line_canHold 9 = .ok (.if_icmp .gt 7, 3) := by decide +kernel
theorem d_Line_canHold_12 : decode b_Line_canHold 12 = .ok (.iconst 1, 1) := by decide +kernel
theorem d_Line_canHold_13 : decode b_Line_canHold 13 = .ok (.goto 4, 3) := by decide +kernel
theorem d_Line_canHold_16 : decode b_Line_canHold 16 = .ok (.iconst 0, 1) := by decide +kernel
theorem d_Line_canHold_17 : decode b_Line_canHold 17 = .ok (.ireturn, 1) := by decide +kernel
theorem d_Line_hasRoomFor_0 : decode b_Line_hasRoomFor 0 = .ok (.aload_n 0, 1) := by decide +kernel
theorem d_Line_hasRoomFor_1 : decode b_Line_hasRoomFor 1 = .ok (.getfield 13, 3) := by decide +kernel
theorem d_Line_hasRoomFor_4 : decode b_Line_hasRoomFor 4 = .ok (.iload_n 1, 1) := by decide +kernel
theorem d_Line_hasRoomFor_5 : decode b_Line_hasRoomFor 5 = .ok (.iadd, 1) := by decide +kernel
theorem d_Line_hasRoomFor_6 : decode b_Line_hasRoomFor 6 = .ok (.bipush 64, 2) := by decide +kernel
theorem d_Line_hasRoomFor_8 : decode b_Line_hasRoomFor 8 = .ok (.if_icmp .gt 7, 3) := by decide +kernel
theorem d_Line_hasRoomFor_11 : decode b_Line_hasRoomFor 11 = .ok (.iconst 1, 1) := by decide +kernel
theorem d_Line_hasRoomFor_12 : decode b_Line_hasRoomFor 12 = .ok (.goto 4, 3) := by decide +kernel
theorem d_Line_hasRoomFor_15 : decode b_Line_hasRoomFor 15 = .ok (.iconst 0, 1) := by decide +kernel
theorem d_Line_hasRoomFor_16 : decode b_Line_hasRoomFor 16 = .ok (.ireturn, 1) := by decide +kernel
theorem d_Line_put_0 : decode b_Line_put 0 = .ok (.aload_n 0, 1) := by decide +kernel
theorem d_Line_put_1 : decode b_Line_put 1 = .ok (.getfield 13, 3) := by decide +kernel
theorem d_Line_put_4 : decode b_Line_put 4 = .ok (.bipush 64, 2) := by decide +kernel
theorem d_Line_put_6 : decode b_Line_put 6 = .ok (.if_icmp .ge 23, 3) := by decide +kernel
theorem d_Line_put_9 : decode b_Line_put 9 = .ok (.aload_n 0, 1) := by decide +kernel
theorem d_Line_put_10 : decode b_Line_put 10 = .ok (.getfield 9, 3) := by decide +kernel
theorem d_Line_put_13 : decode b_Line_put 13 = .ok (.aload_n 0, 1) := by decide +kernel
theorem d_Line_put_14 : decode b_Line_put 14 = .ok (.getfield 13, 3) := by decide +kernel
theorem d_Line_put_17 : decode b_Line_put 17 = .ok (.iload_n 1, 1) := by decide +kernel
theorem d_Line_put_18 : decode b_Line_put 18 = .ok (.castore, 1) := by decide +kernel
theorem d_Line_put_19 : decode b_Line_put 19 = .ok (.aload_n 0, 1) := by decide +kernel
theorem d_Line_put_20 : decode b_Line_put 20 = .ok (.dup, 1) := by decide +kernel
theorem d_Line_put_21 : decode b_Line_put 21 = .ok (.getfield 13, 3) := by decide +kernel
theorem d_Line_put_24 : decode b_Line_put 24 = .ok (.iconst 1, 1) := by decide +kernel
theorem d_Line_put_25 : decode b_Line_put 25 = .ok (.iadd, 1) := by decide +kernel
theorem d_Line_put_26 : decode b_Line_put 26 = .ok (.putfield 13, 3) := by decide +kernel
theorem d_Line_put_29 : decode b_Line_put 29 = .ok (.return_, 1) := by decide +kernel
theorem d_Line_clear_0 : decode b_Line_clear 0 = .ok (.aload_n 0, 1) := by decide +kernel
theorem d_Line_clear_1 : decode b_Line_clear 1 = .ok (.iconst 0, 1) := by decide +kernel
theorem d_Line_clear_2 : decode b_Line_clear 2 = .ok (.putfield 13, 3) := by decide +kernel
theorem d_Line_clear_5 : decode b_Line_clear 5 = .ok (.return_, 1) := by decide +kernel
end
section
theorem d_Supply_init_0 : decode b_Supply_init 0 = .ok (.aload_n 0, 1) := by decide +kernel
theorem d_Supply_init_1 : decode b_Supply_init 1 = .ok (.invokespecial 3, 3) := by decide +kernel
theorem d_Supply_init_4 : decode b_Supply_init 4 = .ok (.aload_n 0, 1) := by decide +kernel
theorem d_Supply_init_5 : decode b_Supply_init 5 = .ok (.sipush 1000, 3) := by decide +kernel
theorem d_Supply_init_8 : decode b_Supply_init 8 = .ok (.putfield 11, 3) := by decide +kernel
theorem d_Supply_init_11 : decode b_Supply_init 11 = .ok (.aload_n 0, 1) := by decide +kernel
theorem d_Supply_init_12 : decode b_Supply_init 12 = .ok (.iconst (-1), 1) := by decide +kernel
theorem d_Supply_init_13 : decode b_Supply_init 13 = .ok (.putfield 15, 3) := by decide +kernel
theorem d_Supply_init_16 : decode b_Supply_init 16 = .ok (.aload_n 0, 1) := by decide +kernel
theorem d_Supply_init_17 : decode b_Supply_init 17 = .ok (.bipush 24, 2) := by decide +kernel
theorem d_Supply_init_19 : decode b_Supply_init 19 = .ok (.newarray .int, 2) := by decide +kernel
theorem d_Supply_init_21 : decode b_Supply_init 21 = .ok (.putfield 18, 3) := by decide +kernel
theorem d_Supply_init_24 : decode b_Supply_init 24 = .ok (.aload_n 0, 1) := by decide +kernel
theorem d_Supply_init_25 : decode b_Supply_init 25 = .ok (.bipush 24, 2) := by decide +kernel
theorem d_Supply_init_27 : decode b_Supply_init 27 = .ok (.newarray .int, 2) := by decide +kernel
theorem d_Supply_init_29 : decode b_Supply_init 29 = .ok (.putfield 22, 3) := by decide +kernel
theorem d_Supply_init_32 : decode b_Supply_init 32 = .ok (.aload_n 0, 1) := by decide +kernel
theorem d_Supply_init_33 : decode b_Supply_init 33 = .ok (.iconst 5, 1) := by decide +kernel
theorem d_Supply_init_34 : decode b_Supply_init 34 = .ok (.bipush 20, 2) := by decide +kernel
theorem d_Supply_init_36 : decode b_Supply_init 36 = .ok (.invokevirtual 25, 3) := by decide +kernel
theorem d_Supply_init_39 : decode b_Supply_init 39 = .ok (.return_, 1) := by decide +kernel
theorem d_Supply_setWayHome_0 : decode b_Supply_setWayHome 0 = .ok (.aload_n 0, 1) := by decide +kernel
theorem d_Supply_setWayHome_1 : decode b_Supply_setWayHome 1 = .ok (.iload_n 1, 1) := by decide +kernel
theorem d_Supply_setWayHome_2 : decode b_Supply_setWayHome 2 = .ok (.putfield 29, 3) := by decide +kernel
theorem d_Supply_setWayHome_5 : decode b_Supply_setWayHome 5 = .ok (.aload_n 0, 1) := by decide +kernel
theorem d_Supply_setWayHome_6 : decode b_Supply_setWayHome 6 = .ok (.iload_n 2, 1) := by decide +kernel
theorem d_Supply_setWayHome_7 : decode b_Supply_setWayHome 7 = .ok (.putfield 32, 3) := by decide +kernel
theorem d_Supply_setWayHome_10 : decode b_Supply_setWayHome 10 = .ok (.aload_n 0, 1) := by decide +kernel
theorem d_Supply_setWayHome_11 : decode b_Supply_setWayHome 11 = .ok (.invokevirtual 35, 3) := by decide +kernel
theorem d_Supply_setWayHome_14 : decode b_Supply_setWayHome 14 = .ok (.return_, 1) := by decide +kernel
theorem d_Supply_setLowerGain_0 : decode b_Supply_setLowerGain 0 = .ok (.aload_n 0, 1) := by decide +kernel
theorem d_Supply_setLowerGain_1 : decode b_Supply_setLowerGain 1 = .ok (.getfield 18, 3) := by decide +kernel
theorem d_Supply_setLowerGain_4 : decode b_Supply_setLowerGain 4 = .ok (.iload_n 1, 1) := by decide +kernel
theorem d_Supply_setLowerGain_5 : decode b_Supply_setLowerGain 5 = .ok (.iload_n 2, 1) := by decide +kernel
theorem d_Supply_setLowerGain_6 : decode b_Supply_setLowerGain 6 = .ok (.iastore, 1) := by decide +kernel
theorem d_Supply_setLowerGain_7 : decode b_Supply_setLowerGain 7 = .ok (.aload_n 0, 1) := by decide +kernel
theorem d_Supply_setLowerGain_8 : decode b_Supply_setLowerGain 8 = .ok (.invokevirtual 35, 3) := by decide +kernel
theorem d_Supply_setLowerGain_11 : decode b_Supply_setLowerGain 11 = .ok (.return_, 1) := by decide +kernel
theorem d_Supply_reckonNeeds_0 : decode b_Supply_reckonNeeds 0 = .ok (.iconst 0, 1) := by decide +kernel
theorem d_Supply_reckonNeeds_1 : decode b_Supply_reckonNeeds 1 = .ok (.istore_n 1, 1) := by decide +kernel
theorem d_Supply_reckonNeeds_2 : decode b_Supply_reckonNeeds 2 = .ok (.iload_n 1, 1) := by decide +kernel
theorem d_Supply_reckonNeeds_3 : decode b_Supply_reckonNeeds 3 = .ok (.bipush 24, 2) := by decide +kernel
theorem d_Supply_reckonNeeds_5 : decode b_Supply_reckonNeeds 5 = .ok (.if_icmp .ge 20, 3) := by decide +kernel
theorem d_Supply_reckonNeeds_8 : decode b_Supply_reckonNeeds 8 = .ok (.aload_n 0, 1) := by decide +kernel
theorem d_Supply_reckonNeeds_9 : decode b_Supply_reckonNeeds 9 = .ok (.getfield 22, 3) := by decide +kernel
theorem d_Supply_reckonNeeds_12 : decode b_Supply_reckonNeeds 12 = .ok (.iload_n 1, 1) := by decide +kernel
theorem d_Supply_reckonNeeds_13 : decode b_Supply_reckonNeeds 13 = .ok (.aload_n 0, 1) := by decide +kernel
theorem d_Supply_reckonNeeds_14 : decode b_Supply_reckonNeeds 14 = .ok (.iload_n 1, 1) := by decide +kernel
theorem d_Supply_reckonNeeds_15 : decode b_Supply_reckonNeeds 15 = .ok (.invokevirtual 38, 3) := by decide +kernel
theorem d_Supply_reckonNeeds_18 : decode b_Supply_reckonNeeds 18 = .ok (.iastore, 1) := by decide +kernel
theorem d_Supply_reckonNeeds_19 : decode b_Supply_reckonNeeds 19 = .ok (.iinc 1 1, 3) := by decide +kernel
theorem d_Supply_reckonNeeds_22 : decode b_Supply_reckonNeeds 22 = .ok (.goto (-20), 3) := by decide +kernel
theorem d_Supply_reckonNeeds_25 : decode b_Supply_reckonNeeds 25 = .ok (.return_, 1) := by decide +kernel
theorem d_Supply_needFrom_0 : decode b_Supply_needFrom 0 = .ok (.iconst 0, 1) := by decide +kernel
theorem d_Supply_needFrom_1 : decode b_Supply_needFrom 1 = .ok (.istore_n 2, 1) := by decide +kernel
theorem d_Supply_needFrom_2 : decode b_Supply_needFrom 2 = .ok (.aload_n 0, 1) := by decide +kernel
theorem d_Supply_needFrom_3 : decode b_Supply_needFrom 3 = .ok (.getfield 29, 3) := by decide +kernel
theorem d_Supply_needFrom_6 : decode b_Supply_needFrom 6 = .ok (.istore_n 3, 1) := by decide +kernel
theorem d_Supply_needFrom_7 : decode b_Supply_needFrom 7 = .ok (.iload_n 3, 1) := by decide +kernel
theorem d_Supply_needFrom_8 : decode b_Supply_needFrom 8 = .ok (.iconst 1, 1) := by decide +kernel
theorem d_Supply_needFrom_9 : decode b_Supply_needFrom 9 = .ok (.if_icmp .lt 41, 3) := by decide +kernel
theorem d_Supply_needFrom_12 : decode b_Supply_needFrom 12 = .ok (.iconst 0, 1) := by decide +kernel
theorem d_Supply_needFrom_13 : decode b_Supply_needFrom 13 = .ok (.iload_n 2, 1) := by decide +kernel
theorem d_Supply_needFrom_14 : decode b_Supply_needFrom 14 = .ok (.aload_n 0, 1) := by decide +kernel
theorem d_Supply_needFrom_15 : decode b_Supply_needFrom 15 = .ok (.getfield 32, 3) := by decide +kernel
theorem d_Supply_needFrom_18 : decode b_Supply_needFrom 18 = .ok (.iadd, 1) := by decide +kernel
theorem d_Supply_needFrom_19 : decode b_Supply_needFrom 19 = .ok (.aload_n 0, 1) := by decide +kernel
theorem d_Supply_needFrom_20 : decode b_Supply_needFrom 20 = .ok (.getfield 18, 3) := by decide +kernel
theorem d_Supply_needFrom_23 : decode b_Supply_needFrom 23 = .ok (.iload_n 1, 1) := by decide +kernel
theorem d_Supply_needFrom_24 : decode b_Supply_needFrom 24 = .ok (.iload_n 3, 1) := by decide +kernel
theorem d_Supply_needFrom_25 : decode b_Supply_needFrom 25 = .ok (.iadd, 1) := by decide +kernel
theorem d_Supply_needFrom_26 : decode b_Supply_needFrom 26 = .ok (.bipush 24, 2) := by decide +kernel
theorem d_Supply_needFrom_28 : decode b_Supply_needFrom 28 = .ok (.irem, 1) := by decide +kernel
theorem d_Supply_needFrom_29 : decode b_Supply_needFrom 29 = .ok (.iaload, 1) := by decide +kernel
theorem d_Supply_needFrom_30 : decode b_Supply_needFrom 30 = .ok (.isub, 1) := by decide +kernel
theorem d_Supply_needFrom_31 : decode b_Supply_needFrom 31 = .ok (.invokestatic 42, 3) := by decide +kernel
theorem d_Supply_needFrom_34 : decode b_Supply_needFrom 34 = .ok (.istore_n 2, 1) := by decide +kernel
theorem d_Supply_needFrom_35 : decode b_Supply_needFrom 35 = .ok (.iload_n 2, 1) := by decide +kernel
theorem d_Supply_needFrom_36 : decode b_Supply_needFrom 36 = .ok (.sipush 1000, 3) := by decide +kernel
theorem d_Supply_needFrom_39 : decode b_Supply_needFrom 39 = .ok (.if_icmp .le 5, 3) := by decide +kernel
theorem d_Supply_needFrom_42 : decode b_Supply_needFrom 42 = .ok (.iconst (-1), 1) := by decide +kernel
theorem d_Supply_needFrom_43 : decode b_Supply_needFrom 43 = .ok (.ireturn, 1) := by decide +kernel
theorem d_Supply_needFrom_44 : decode b_Supply_needFrom 44 = .ok (.iinc 3 (-1), 3) := by decide +kernel
theorem d_Supply_needFrom_47 : decode b_Supply_needFrom 47 = .ok (.goto (-40), 3) := by decide +kernel
theorem d_Supply_needFrom_50 : decode b_Supply_needFrom 50 = .ok (.iload_n 2, 1) := by decide +kernel
theorem d_Supply_needFrom_51 : decode b_Supply_needFrom 51 = .ok (.ireturn, 1) := by decide +kernel
theorem d_Supply_lowerGain_0 : decode b_Supply_lowerGain 0 = .ok (.aload_n 0, 1) := by decide +kernel
theorem d_Supply_lowerGain_1 : decode b_Supply_lowerGain 1 = .ok (.getfield 18, 3) := by decide +kernel
theorem d_Supply_lowerGain_4 : decode b_Supply_lowerGain 4 = .ok (.iload_n 1, 1) := by decide +kernel
theorem d_Supply_lowerGain_5 : decode b_Supply_lowerGain 5 = .ok (.bipush 24, 2) := by decide +kernel
theorem d_Supply_lowerGain_7 : decode b_Supply_lowerGain 7 = .ok (.invokestatic 48, 3) := by decide +kernel
theorem d_Supply_lowerGain_10 : decode b_Supply_lowerGain 10 = .ok (.iaload, 1) := by decide +kernel
theorem d_Supply_lowerGain_11 : decode b_Supply_lowerGain 11 = .ok (.ireturn, 1) := by decide +kernel
theorem d_Supply_needBehind_0 : decode b_Supply_needBehind 0 = .ok (.aload_n 0, 1) := by decide +kernel
theorem d_Supply_needBehind_1 : decode b_Supply_needBehind 1 = .ok (.getfield 22, 3) := by decide +kernel
theorem d_Supply_needBehind_4 : decode b_Supply_needBehind 4 = .ok (.iload_n 1, 1) := by decide +kernel
theorem d_Supply_needBehind_5 : decode b_Supply_needBehind 5 = .ok (.bipush 24, 2) := by decide +kernel
theorem d_Supply_needBehind_7 : decode b_Supply_needBehind 7 = .ok (.invokestatic 48, 3) := by decide +kernel
theorem d_Supply_needBehind_10 : decode b_Supply_needBehind 10 = .ok (.iaload, 1) := by decide +kernel
theorem d_Supply_needBehind_11 : decode b_Supply_needBehind 11 = .ok (.ireturn, 1) := by decide +kernel
theorem d_Supply_isOpen_0 : decode b_Supply_isOpen 0 = .ok (.aload_n 0, 1) := by decide +kernel
theorem d_Supply_isOpen_1 : decode b_Supply_isOpen 1 = .ok (.iload_n 2, 1) := by decide +kernel
theorem d_Supply_isOpen_2 : decode b_Supply_isOpen 2 = .ok (.invokevirtual 51, 3) := by decide +kernel
theorem d_Supply_isOpen_5 : decode b_Supply_isOpen 5 = .ok (.istore_n 3, 1) := by decide +kernel
theorem d_Supply_isOpen_6 : decode b_Supply_isOpen 6 = .ok (.iload_n 3, 1) := by decide +kernel
theorem d_Supply_isOpen_7 : decode b_Supply_isOpen 7 = .ok (.iconst (-1), 1) := by decide +kernel
theorem d_Supply_isOpen_8 : decode b_Supply_isOpen 8 = .ok (.if_icmp .eq 12, 3) := by decide +kernel
theorem d_Supply_isOpen_11 : decode b_Supply_isOpen 11 = .ok (.iload_n 1, 1) := by decide +kernel
theorem d_Supply_isOpen_12 : decode b_Supply_isOpen 12 = .ok (.iload_n 3, 1) := by decide +kernel
theorem d_Supply_isOpen_13 : decode b_Supply_isOpen 13 = .ok (.if_icmp .lt 7, 3) := by decide +kernel
theorem d_Supply_isOpen_16 : decode b_Supply_isOpen 16 = .ok (.iconst 1, 1) := by decide +kernel
theorem d_Supply_isOpen_17 : decode b_Supply_isOpen 17 = .ok (.goto 4, 3) := by decide +kernel
theorem d_Supply_isOpen_20 : decode b_Supply_isOpen 20 = .ok (.iconst 0, 1) := by decide +kernel
theorem d_Supply_isOpen_21 : decode b_Supply_isOpen 21 = .ok (.ireturn, 1) := by decide +kernel
theorem d_Supply_goOn_0 : decode b_Supply_goOn 0 = .ok (.sipush 1000, 3) := by decide +kernel
theorem d_Supply_goOn_3 : decode b_Supply_goOn 3 = .ok (.iload_n 0, 1) := by decide +kernel
theorem d_Supply_goOn_4 : decode b_Supply_goOn 4 = .ok (.iload_n 1, 1) := by decide +kernel
theorem d_Supply_goOn_5 : decode b_Supply_goOn 5 = .ok (.iadd, 1) := by decide +kernel
theorem d_Supply_goOn_6 : decode b_Supply_goOn 6 = .ok (.iload_n 2, 1) := by decide +kernel
theorem d_Supply_goOn_7 : decode b_Supply_goOn 7 = .ok (.isub, 1) := by decide +kernel
theorem d_Supply_goOn_8 : decode b_Supply_goOn 8 = .ok (.invokestatic 54, 3) := by decide +kernel
theorem d_Supply_goOn_11 : decode b_Supply_goOn 11 = .ok (.ireturn, 1) := by decide +kernel
theorem d_Supply_pass_0 : decode b_Supply_pass 0 = .ok (.aload_n 0, 1) := by decide +kernel
theorem d_Supply_pass_1 : decode b_Supply_pass 1 = .ok (.getfield 15, 3) := by decide +kernel
theorem d_Supply_pass_4 : decode b_Supply_pass 4 = .ok (.iconst (-1), 1) := by decide +kernel
theorem d_Supply_pass_5 : decode b_Supply_pass 5 = .ok (.if_icmp .ne 11, 3) := by decide +kernel
theorem d_Supply_pass_8 : decode b_Supply_pass 8 = .ok (.aload_n 0, 1) := by decide +kernel
theorem d_Supply_pass_9 : decode b_Supply_pass 9 = .ok (.iload_n 1, 1) := by decide +kernel
theorem d_Supply_pass_10 : decode b_Supply_pass 10 = .ok (.invokevirtual 57, 3) := by decide +kernel
theorem d_Supply_pass_13 : decode b_Supply_pass 13 = .ok (.goto 7, 3) := by decide +kernel
theorem d_Supply_pass_16 : decode b_Supply_pass 16 = .ok (.aload_n 0, 1) := by decide +kernel
theorem d_Supply_pass_17 : decode b_Supply_pass 17 = .ok (.getfield 15, 3) := by decide +kernel
theorem d_Supply_pass_20 : decode b_Supply_pass 20 = .ok (.istore_n 3, 1) := by decide +kernel
theorem d_Supply_pass_21 : decode b_Supply_pass 21 = .ok (.aload_n 0, 1) := by decide +kernel
theorem d_Supply_pass_22 : decode b_Supply_pass 22 = .ok (.iconst 0, 1) := by decide +kernel
theorem d_Supply_pass_23 : decode b_Supply_pass 23 = .ok (.aload_n 0, 1) := by decide +kernel
theorem d_Supply_pass_24 : decode b_Supply_pass 24 = .ok (.getfield 11, 3) := by decide +kernel
theorem d_Supply_pass_27 : decode b_Supply_pass 27 = .ok (.iload_n 3, 1) := by decide +kernel
theorem d_Supply_pass_28 : decode b_Supply_pass 28 = .ok (.iload_n 2, 1) := by decide +kernel
theorem d_Supply_pass_29 : decode b_Supply_pass 29 = .ok (.invokestatic 60, 3) := by decide +kernel
theorem d_Supply_pass_32 : decode b_Supply_pass 32 = .ok (.invokestatic 42, 3) := by decide +kernel
theorem d_Supply_pass_35 : decode b_Supply_pass 35 = .ok (.putfield 11, 3) := by decide +kernel
theorem d_Supply_pass_38 : decode b_Supply_pass 38 = .ok (.return_, 1) := by decide +kernel
theorem d_Supply_keep_0 : decode b_Supply_keep 0 = .ok (.aload_n 0, 1) := by decide +kernel
theorem d_Supply_keep_1 : decode b_Supply_keep 1 = .ok (.sipush 500, 3) := by decide +kernel
theorem d_Supply_keep_4 : decode b_Supply_keep 4 = .ok (.aload_n 0, 1) := by decide +kernel
theorem d_Supply_keep_5 : decode b_Supply_keep 5 = .ok (.getfield 64, 3) := by decide +kernel
theorem d_Supply_keep_8 : decode b_Supply_keep 8 = .ok (.iload_n 1, 1) := by decide +kernel
theorem d_Supply_keep_9 : decode b_Supply_keep 9 = .ok (.iadd, 1) := by decide +kernel
theorem d_Supply_keep_10 : decode b_Supply_keep 10 = .ok (.invokestatic 54, 3) := by decide +kernel
theorem d_Supply_keep_13 : decode b_Supply_keep 13 = .ok (.putfield 64, 3) := by decide +kernel
theorem d_Supply_keep_16 : decode b_Supply_keep 16 = .ok (.return_, 1) := by decide +kernel
end
section
theorem d_Envelope_init_0 : decode b_Envelope_init 0 = .ok (.aload_n 0, 1) := by decide +kernel
theorem d_Envelope_init_1 : decode b_Envelope_init 1 = .ok (.invokespecial 1, 3) := by decide +kernel
theorem d_Envelope_init_4 : decode b_Envelope_init 4 = .ok (.aload_n 0, 1) := by decide +kernel
theorem d_Envelope_init_5 : decode b_Envelope_init 5 = .ok (.bipush 31, 2) := by decide +kernel
theorem d_Envelope_init_7 : decode b_Envelope_init 7 = .ok (.newarray .int, 2) := by decide +kernel
theorem d_Envelope_init_9 : decode b_Envelope_init 9 = .ok (.putfield 9, 3) := by decide +kernel
theorem d_Envelope_init_12 : decode b_Envelope_init 12 = .ok (.return_, 1) := by decide +kernel
theorem d_Envelope_gather_0 : decode b_Envelope_gather 0 = .ok (.aload_n 0, 1) := by decide +kernel
theorem d_Envelope_gather_1 : decode b_Envelope_gather 1 = .ok (.invokevirtual 15, 3) := by decide +kernel
theorem d_Envelope_gather_4 : decode b_Envelope_gather 4 = .ok (.iconst 0, 1) := by decide +kernel
theorem d_Envelope_gather_5 : decode b_Envelope_gather 5 = .ok (.istore_n 3, 1) := by decide +kernel
theorem d_Envelope_gather_6 : decode b_Envelope_gather 6 = .ok (.iload_n 3, 1) := by decide +kernel
theorem d_Envelope_gather_7 : decode b_Envelope_gather 7 = .ok (.aload_n 1, 1) := by decide +kernel
theorem d_Envelope_gather_8 : decode b_Envelope_gather 8 = .ok (.getfield 18, 3) := by decide +kernel
theorem d_Envelope_gather_11 : decode b_Envelope_gather 11 = .ok (.if_icmp .ge 61, 3) := by decide +kernel
theorem d_Envelope_gather_14 : decode b_Envelope_gather 14 = .ok (.aload_n 1, 1) := by decide +kernel
theorem d_Envelope_gather_15 : decode b_Envelope_gather 15 = .ok (.getfield 24, 3) := by decide +kernel
theorem d_Envelope_gather_18 : decode b_Envelope_gather 18 = .ok (.iload_n 3, 1) := by decide +kernel
theorem d_Envelope_gather_19 : decode b_Envelope_gather 19 = .ok (.aaload, 1) := by decide +kernel
theorem d_Envelope_gather_20 : decode b_Envelope_gather 20 = .ok (.astore 4, 2) := by decide +kernel
theorem d_Envelope_gather_22 : decode b_Envelope_gather 22 = .ok (.aload 4, 2) := by decide +kernel
theorem d_Envelope_gather_24 : decode b_Envelope_gather 24 = .ok (.invokevirtual 28, 3) := by decide +kernel
theorem d_Envelope_gather_27 : decode b_Envelope_gather 27 = .ok (.ifCond .eq 23, 3) := by decide +kernel
theorem d_Envelope_gather_30 : decode b_Envelope_gather 30 = .ok (.aload_n 0, 1) := by decide +kernel
theorem d_Envelope_gather_31 : decode b_Envelope_gather 31 = .ok (.aload 4, 2) := by decide +kernel
theorem d_Envelope_gather_33 : decode b_Envelope_gather 33 = .ok (.aload 4, 2) := by decide +kernel
theorem d_Envelope_gather_35 : decode b_Envelope_gather 35 = .ok (.getfield 32, 3) := by decide +kernel
theorem d_Envelope_gather_38 : decode b_Envelope_gather 38 = .ok (.aload 4, 2) := by decide +kernel
theorem d_Envelope_gather_40 : decode b_Envelope_gather 40 = .ok (.getfield 35, 3) := by decide +kernel
theorem d_Envelope_gather_43 : decode b_Envelope_gather 43 = .ok (.isub, 1) := by decide +kernel
theorem d_Envelope_gather_44 : decode b_Envelope_gather 44 = .ok (.invokevirtual 38, 3) := by decide +kernel
theorem d_Envelope_gather_47 : decode b_Envelope_gather 47 = .ok (.goto 19, 3) := by decide +kernel
theorem d_Envelope_gather_50 : decode b_Envelope_gather 50 = .ok (.iload_n 3, 1) := by decide +kernel
theorem d_Envelope_gather_51 : decode b_Envelope_gather 51 = .ok (.iload_n 2, 1) := by decide +kernel
theorem d_Envelope_gather_52 : decode b_Envelope_gather 52 = .ok (.if_icmp .ne 14, 3) := by decide +kernel
theorem d_Envelope_gather_55 : decode b_Envelope_gather 55 = .ok (.aload_n 0, 1) := by decide +kernel
theorem d_Envelope_gather_56 : decode b_Envelope_gather 56 = .ok (.aload 4, 2) := by decide +kernel
theorem d_Envelope_gather_58 : decode b_Envelope_gather 58 = .ok (.aload 4, 2) := by decide +kernel
theorem d_Envelope_gather_60 : decode b_Envelope_gather 60 = .ok (.getfield 32, 3) := by decide +kernel
theorem d_Envelope_gather_63 : decode b_Envelope_gather 63 = .ok (.invokevirtual 38, 3) := by decide +kernel
theorem d_Envelope_gather_66 : decode b_Envelope_gather 66 = .ok (.iinc 3 1, 3) := by decide +kernel
theorem d_Envelope_gather_69 : decode b_Envelope_gather 69 = .ok (.goto (-63), 3) := by decide +kernel
theorem d_Envelope_gather_72 : decode b_Envelope_gather 72 = .ok (.return_, 1) := by decide +kernel
theorem d_Envelope_clear_0 : decode b_Envelope_clear 0 = .ok (.aload_n 0, 1) := by decide +kernel
theorem d_Envelope_clear_1 : decode b_Envelope_clear 1 = .ok (.iconst 0, 1) := by decide +kernel
theorem d_Envelope_clear_2 : decode b_Envelope_clear 2 = .ok (.putfield 42, 3) := by decide +kernel
theorem d_Envelope_clear_5 : decode b_Envelope_clear 5 = .ok (.aload_n 0, 1) := by decide +kernel
theorem d_Envelope_clear_6 : decode b_Envelope_clear 6 = .ok (.iconst 0, 1) := by decide +kernel
theorem d_Envelope_clear_7 : decode b_Envelope_clear 7 = .ok (.putfield 45, 3) := by decide +kernel
theorem d_Envelope_clear_10 : decode b_Envelope_clear 10 = .ok (.aload_n 0, 1) := by decide +kernel
theorem d_Envelope_clear_11 : decode b_Envelope_clear 11 = .ok (.iconst 0, 1) := by decide +kernel
theorem d_Envelope_clear_12 : decode b_Envelope_clear 12 = .ok (.putfield 48, 3) := by decide +kernel
theorem d_Envelope_clear_15 : decode b_Envelope_clear 15 = .ok (.iconst 0, 1) := by decide +kernel
theorem d_Envelope_clear_16 : decode b_Envelope_clear 16 = .ok (.istore_n 1, 1) := by decide +kernel
theorem d_Envelope_clear_17 : decode b_Envelope_clear 17 = .ok (.iload_n 1, 1) := by decide +kernel
theorem d_Envelope_clear_18 : decode b_Envelope_clear 18 = .ok (.aload_n 0, 1) := by decide +kernel
theorem d_Envelope_clear_19 : decode b_Envelope_clear 19 = .ok (.getfield 9, 3) := by decide +kernel
theorem d_Envelope_clear_22 : decode b_Envelope_clear 22 = .ok (.arraylength, 1) := by decide +kernel
theorem d_Envelope_clear_23 : decode b_Envelope_clear 23 = .ok (.if_icmp .ge 16, 3) := by decide +kernel
theorem d_Envelope_clear_26 : decode b_Envelope_clear 26 = .ok (.aload_n 0, 1) := by decide +kernel
theorem d_Envelope_clear_27 : decode b_Envelope_clear 27 = .ok (.getfield 9, 3) := by decide +kernel
theorem d_Envelope_clear_30 : decode b_Envelope_clear 30 = .ok (.iload_n 1, 1) := by decide +kernel
theorem d_Envelope_clear_31 : decode b_Envelope_clear 31 = .ok (.iconst 0, 1) := by decide +kernel
theorem d_Envelope_clear_32 : decode b_Envelope_clear 32 = .ok (.iastore, 1) := by decide +kernel
theorem d_Envelope_clear_33 : decode b_Envelope_clear 33 = .ok (.iinc 1 1, 3) := by decide +kernel
theorem d_Envelope_clear_36 : decode b_Envelope_clear 36 = .ok (.goto (-19), 3) := by decide +kernel
theorem d_Envelope_clear_39 : decode b_Envelope_clear 39 = .ok (.return_, 1) := by decide +kernel
theorem d_Envelope_add_0 : decode b_Envelope_add 0 = .ok (.aload_n 0, 1) := by decide +kernel
theorem d_Envelope_add_1 : decode b_Envelope_add 1 = .ok (.dup, 1) := by decide +kernel
theorem d_Envelope_add_2 : decode b_Envelope_add 2 = .ok (.getfield 45, 3) := by decide +kernel
theorem d_Envelope_add_5 : decode b_Envelope_add 5 = .ok (.aload_n 1, 1) := by decide +kernel
theorem d_Envelope_add_6 : decode b_Envelope_add 6 = .ok (.getfield 51, 3) := by decide +kernel
theorem d_Envelope_add_9 : decode b_Envelope_add 9 = .ok (.iadd, 1) := by decide +kernel
theorem d_Envelope_add_10 : decode b_Envelope_add 10 = .ok (.putfield 45, 3) := by decide +kernel
theorem d_Envelope_add_13 : decode b_Envelope_add 13 = .ok (.aload_n 0, 1) := by decide +kernel
theorem d_Envelope_add_14 : decode b_Envelope_add 14 = .ok (.dup, 1) := by decide +kernel
theorem d_Envelope_add_15 : decode b_Envelope_add 15 = .ok (.getfield 48, 3) := by decide +kernel
theorem d_Envelope_add_18 : decode b_Envelope_add 18 = .ok (.aload_n 1, 1) := by decide +kernel
theorem d_Envelope_add_19 : decode b_Envelope_add 19 = .ok (.getfield 52, 3) := by decide +kernel
theorem d_Envelope_add_22 : decode b_Envelope_add 22 = .ok (.iload_n 2, 1) := by decide +kernel
theorem d_Envelope_add_23 : decode b_Envelope_add 23 = .ok (.imul, 1) := by decide +kernel
theorem d_Envelope_add_24 : decode b_Envelope_add 24 = .ok (.iadd, 1) := by decide +kernel
theorem d_Envelope_add_25 : decode b_Envelope_add 25 = .ok (.putfield 48, 3) := by decide +kernel
theorem d_Envelope_add_28 : decode b_Envelope_add 28 = .ok (.iconst 1, 1) := by decide +kernel
theorem d_Envelope_add_29 : decode b_Envelope_add 29 = .ok (.istore_n 3, 1) := by decide +kernel
theorem d_Envelope_add_30 : decode b_Envelope_add 30 = .ok (.iload_n 3, 1) := by decide +kernel
theorem d_Envelope_add_31 : decode b_Envelope_add 31 = .ok (.iload_n 2, 1) := by decide +kernel
theorem d_Envelope_add_32 : decode b_Envelope_add 32 = .ok (.if_icmp .gt 43, 3) := by decide +kernel
theorem d_Envelope_add_35 : decode b_Envelope_add 35 = .ok (.iload_n 3, 1) := by decide +kernel
theorem d_Envelope_add_36 : decode b_Envelope_add 36 = .ok (.aload_n 0, 1) := by decide +kernel
theorem d_Envelope_add_37 : decode b_Envelope_add 37 = .ok (.getfield 9, 3) := by decide +kernel
theorem d_Envelope_add_40 : decode b_Envelope_add 40 = .ok (.arraylength, 1) := by decide +kernel
theorem d_Envelope_add_41 : decode b_Envelope_add 41 = .ok (.if_icmp .ge 34, 3) := by decide +kernel
theorem d_Envelope_add_44 : decode b_Envelope_add 44 = .ok (.aload_n 0, 1) := by decide +kernel
theorem d_Envelope_add_45 : decode b_Envelope_add 45 = .ok (.getfield 9, 3) := by decide +kernel
theorem d_Envelope_add_48 : decode b_Envelope_add 48 = .ok (.iload_n 3, 1) := by decide +kernel
theorem d_Envelope_add_49 : decode b_Envelope_add 49 = .ok (.dup2, 1) := by decide +kernel
theorem d_Envelope_add_50 : decode b_Envelope_add 50 = .ok (.iaload, 1) := by decide +kernel
theorem d_Envelope_add_51 : decode b_Envelope_add 51 = .ok (.aload_n 1, 1) := by decide +kernel
theorem d_Envelope_add_52 : decode b_Envelope_add 52 = .ok (.getfield 53, 3) := by decide +kernel
theorem d_Envelope_add_55 : decode b_Envelope_add 55 = .ok (.iadd, 1) := by decide +kernel
theorem d_Envelope_add_56 : decode b_Envelope_add 56 = .ok (.iastore, 1) := by decide +kernel
theorem d_Envelope_add_57 : decode b_Envelope_add 57 = .ok (.aload_n 0, 1) := by decide +kernel
theorem d_Envelope_add_58 : decode b_Envelope_add 58 = .ok (.aload_n 0, 1) := by decide +kernel
theorem d_Envelope_add_59 : decode b_Envelope_add 59 = .ok (.getfield 42, 3) := by decide +kernel
theorem d_Envelope_add_62 : decode b_Envelope_add 62 = .ok (.iload_n 3, 1) := by decide +kernel
theorem d_Envelope_add_63 : decode b_Envelope_add 63 = .ok (.invokestatic 56, 3) := by decide +kernel
theorem d_Envelope_add_66 : decode b_Envelope_add 66 = .ok (.putfield 42, 3) := by decide +kernel
theorem d_Envelope_add_69 : decode b_Envelope_add 69 = .ok (.iinc 3 1, 3) := by decide +kernel
theorem d_Envelope_add_72 : decode b_Envelope_add 72 = .ok (.goto (-42), 3) := by decide +kernel
theorem d_Envelope_add_75 : decode b_Envelope_add 75 = .ok (.return_, 1) := by decide +kernel
theorem d_Envelope_holds_0 : decode b_Envelope_holds 0 = .ok (.aload_n 0, 1) := by decide +kernel
theorem d_Envelope_holds_1 : decode b_Envelope_holds 1 = .ok (.getfield 45, 3) := by decide +kernel
theorem d_Envelope_holds_4 : decode b_Envelope_holds 4 = .ok (.bipush 100, 2) := by decide +kernel
theorem d_Envelope_holds_6 : decode b_Envelope_holds 6 = .ok (.if_icmp .gt 18, 3) := by decide +kernel
theorem d_Envelope_holds_9 : decode b_Envelope_holds 9 = .ok (.aload_n 1, 1) := by decide +kernel
theorem d_Envelope_holds_10 : decode b_Envelope_holds 10 = .ok (.getfield 62, 3) := by decide +kernel
theorem d_Envelope_holds_13 : decode b_Envelope_holds 13 = .ok (.aload_n 0, 1) := by decide +kernel
theorem d_Envelope_holds_14 : decode b_Envelope_holds 14 = .ok (.getfield 48, 3) := by decide +kernel
theorem d_Envelope_holds_17 : decode b_Envelope_holds 17 = .ok (.iadd, 1) := by decide +kernel
theorem d_Envelope_holds_18 : decode b_Envelope_holds 18 = .ok (.sipush 500, 3) := by decide +kernel
theorem d_Envelope_holds_21 : decode b_Envelope_holds 21 = .ok (.if_icmp .le 5, 3) := by decide +kernel
theorem d_Envelope_holds_24 : decode b_Envelope_holds 24 = .ok (.iconst 0, 1) := by decide +kernel
theorem d_Envelope_holds_25 : decode b_Envelope_holds 25 = .ok (.ireturn, 1) := by decide +kernel
theorem d_Envelope_holds_26 : decode b_Envelope_holds 26 = .ok (.aload_n 1, 1) := by decide +kernel
theorem d_Envelope_holds_27 : decode b_Envelope_holds 27 = .ok (.getfield 67, 3) := by decide +kernel
theorem d_Envelope_holds_30 : decode b_Envelope_holds 30 = .ok (.istore_n 3, 1) := by decide +kernel
theorem d_Envelope_holds_31 : decode b_Envelope_holds 31 = .ok (.aload_n 1, 1) := by decide +kernel
theorem d_Envelope_holds_32 : decode b_Envelope_holds 32 = .ok (.iload_n 3, 1) := by decide +kernel
theorem d_Envelope_holds_33 : decode b_Envelope_holds 33 = .ok (.iload_n 2, 1) := by decide +kernel
theorem d_Envelope_holds_34 : decode b_Envelope_holds 34 = .ok (.invokevirtual 68, 3) := by decide +kernel
theorem d_Envelope_holds_37 : decode b_Envelope_holds 37 = .ok (.istore 4, 2) := by decide +kernel
theorem d_Envelope_holds_39 : decode b_Envelope_holds 39 = .ok (.iconst 1, 1) := by decide +kernel
theorem d_Envelope_holds_40 : decode b_Envelope_holds 40 = .ok (.istore 5, 2) := by decide +kernel
theorem d_Envelope_holds_42 : decode b_Envelope_holds 42 = .ok (.iload 5, 2) := by decide +kernel
theorem d_Envelope_holds_44 : decode b_Envelope_holds 44 = .ok (.aload_n 0, 1) := by decide +kernel
theorem d_Envelope_holds_45 : decode b_Envelope_holds 45 = .ok (.getfield 42, 3) := by decide +kernel
theorem d_Envelope_holds_48 : decode b_Envelope_holds 48 = .ok (.if_icmp .gt 45, 3) := by decide +kernel
theorem d_Envelope_holds_51 : decode b_Envelope_holds 51 = .ok (.iload 4, 2) := by decide +kernel
theorem d_Envelope_holds_53 : decode b_Envelope_holds 53 = .ok (.ifCond .eq 40, 3) := by decide +kernel
theorem d_Envelope_holds_56 : decode b_Envelope_holds 56 = .ok (.iload_n 3, 1) := by decide +kernel
theorem d_Envelope_holds_57 : decode b_Envelope_holds 57 = .ok (.aload_n 1, 1) := by decide +kernel
theorem d_Envelope_holds_58 : decode b_Envelope_holds 58 = .ok (.iload_n 2, 1) := by decide +kernel
theorem d_Envelope_holds_59 : decode b_Envelope_holds 59 = .ok (.iload 5, 2) := by decide +kernel
theorem d_Envelope_holds_61 : decode b_Envelope_holds 61 = .ok (.iadd, 1) := by decide +kernel
theorem d_Envelope_holds_62 : decode b_Envelope_holds 62 = .ok (.invokevirtual 72, 3) := by decide +kernel
theorem d_Envelope_holds_65 : decode b_Envelope_holds 65 = .ok (.aload_n 0, 1) := by decide +kernel
theorem d_Envelope_holds_66 : decode b_Envelope_holds 66 = .ok (.getfield 9, 3) := by decide +kernel
theorem d_Envelope_holds_69 : decode b_Envelope_holds 69 = .ok (.iload 5, 2) := by decide +kernel
theorem d_Envelope_holds_71 : decode b_Envelope_holds 71 = .ok (.iaload, 1) := by decide +kernel
theorem d_Envelope_holds_72 : decode b_Envelope_holds 72 = .ok (.invokestatic 76, 3) := by decide +kernel
theorem d_Envelope_holds_75 : decode b_Envelope_holds 75 = .ok (.istore_n 3, 1) := by decide +kernel
theorem d_Envelope_holds_76 : decode b_Envelope_holds 76 = .ok (.aload_n 1, 1) := by decide +kernel
theorem d_Envelope_holds_77 : decode b_Envelope_holds 77 = .ok (.iload_n 3, 1) := by decide +kernel
theorem d_Envelope_holds_78 : decode b_Envelope_holds 78 = .ok (.iload_n 2, 1) := by decide +kernel
theorem d_Envelope_holds_79 : decode b_Envelope_holds 79 = .ok (.iload 5, 2) := by decide +kernel
theorem d_Envelope_holds_81 : decode b_Envelope_holds 81 = .ok (.iadd, 1) := by decide +kernel
theorem d_Envelope_holds_82 : decode b_Envelope_holds 82 = .ok (.invokevirtual 68, 3) := by decide +kernel
theorem d_Envelope_holds_85 : decode b_Envelope_holds 85 = .ok (.istore 4, 2) := by decide +kernel
theorem d_Envelope_holds_87 : decode b_Envelope_holds 87 = .ok (.iinc 5 1, 3) := by decide +kernel
theorem d_Envelope_holds_90 : decode b_Envelope_holds 90 = .ok (.goto (-48), 3) := by decide +kernel
theorem d_Envelope_holds_93 : decode b_Envelope_holds 93 = .ok (.iload 4, 2) := by decide +kernel
theorem d_Envelope_holds_95 : decode b_Envelope_holds 95 = .ok (.ireturn, 1) := by decide +kernel
theorem d_Envelope_deepest_0 : decode b_Envelope_deepest 0 = .ok (.aload_n 1, 1) := by decide +kernel
theorem d_Envelope_deepest_1 : decode b_Envelope_deepest 1 = .ok (.getfield 67, 3) := by decide +kernel
theorem d_Envelope_deepest_4 : decode b_Envelope_deepest 4 = .ok (.istore_n 3, 1) := by decide +kernel
theorem d_Envelope_deepest_5 : decode b_Envelope_deepest 5 = .ok (.iload_n 3, 1) := by decide +kernel
theorem d_Envelope_deepest_6 : decode b_Envelope_deepest 6 = .ok (.istore 4, 2) := by decide +kernel
theorem d_Envelope_deepest_8 : decode b_Envelope_deepest 8 = .ok (.iconst 1, 1) := by decide +kernel
theorem d_Envelope_deepest_9 : decode b_Envelope_deepest 9 = .ok (.istore 5, 2) := by decide +kernel
theorem d_Envelope_deepest_11 : decode b_Envelope_deepest 11 = .ok (.iload 5, 2) := by decide +kernel
theorem d_Envelope_deepest_13 : decode b_Envelope_deepest 13 = .ok (.aload_n 0, 1) := by decide +kernel
theorem d_Envelope_deepest_14 : decode b_Envelope_deepest 14 = .ok (.getfield 42, 3) := by decide +kernel
theorem d_Envelope_deepest_17 : decode b_Envelope_deepest 17 = .ok (.if_icmp .gt 37, 3) := by decide +kernel
theorem d_Envelope_deepest_20 : decode b_Envelope_deepest 20 = .ok (.iload_n 3, 1) := by decide +kernel
theorem d_Envelope_deepest_21 : decode b_Envelope_deepest 21 = .ok (.aload_n 1, 1) := by decide +kernel
theorem d_Envelope_deepest_22 : decode b_Envelope_deepest 22 = .ok (.iload_n 2, 1) := by decide +kernel
theorem d_Envelope_deepest_23 : decode b_Envelope_deepest 23 = .ok (.iload 5, 2) := by decide +kernel
theorem d_Envelope_deepest_25 : decode b_Envelope_deepest 25 = .ok (.iadd, 1) := by decide +kernel
theorem d_Envelope_deepest_26 : decode b_Envelope_deepest 26 = .ok (.invokevirtual 72, 3) := by decide +kernel
theorem d_Envelope_deepest_29 : decode b_Envelope_deepest 29 = .ok (.aload_n 0, 1) := by decide +kernel
theorem d_Envelope_deepest_30 : decode b_Envelope_deepest 30 = .ok (.getfield 9, 3) := by decide +kernel
theorem d_Envelope_deepest_33 : decode b_Envelope_deepest 33 = .ok (.iload 5, 2) := by decide +kernel
theorem d_Envelope_deepest_35 : decode b_Envelope_deepest 35 = .ok (.iaload, 1) := by decide +kernel
theorem d_Envelope_deepest_36 : decode b_Envelope_deepest 36 = .ok (.invokestatic 76, 3) := by decide +kernel
theorem d_Envelope_deepest_39 : decode b_Envelope_deepest 39 = .ok (.istore_n 3, 1) := by decide +kernel
theorem d_Envelope_deepest_40 : decode b_Envelope_deepest 40 = .ok (.iload 4, 2) := by decide +kernel
theorem d_Envelope_deepest_42 : decode b_Envelope_deepest 42 = .ok (.iload_n 3, 1) := by decide +kernel
theorem d_Envelope_deepest_43 : decode b_Envelope_deepest 43 = .ok (.invokestatic 80, 3) := by decide +kernel
theorem d_Envelope_deepest_46 : decode b_Envelope_deepest 46 = .ok (.istore 4, 2) := by decide +kernel
theorem d_Envelope_deepest_48 : decode b_Envelope_deepest 48 = .ok (.iinc 5 1, 3) := by decide +kernel
theorem d_Envelope_deepest_51 : decode b_Envelope_deepest 51 = .ok (.goto (-40), 3) := by decide +kernel
theorem d_Envelope_deepest_54 : decode b_Envelope_deepest 54 = .ok (.iconst 0, 1) := by decide +kernel
theorem d_Envelope_deepest_55 : decode b_Envelope_deepest 55 = .ok (.iload 4, 2) := by decide +kernel
theorem d_Envelope_deepest_57 : decode b_Envelope_deepest 57 = .ok (.invokestatic 56, 3) := by decide +kernel
theorem d_Envelope_deepest_60 : decode b_Envelope_deepest 60 = .ok (.ireturn, 1) := by decide +kernel
end
section
theorem d_Plan_init_0 : decode b_Plan_init 0 = .ok (.aload_n 0, 1) := by decide +kernel
theorem d_Plan_init_1 : decode b_Plan_init 1 = .ok (.invokespecial 1, 3) := by decide +kernel
theorem d_Plan_init_4 : decode b_Plan_init 4 = .ok (.aload_n 0, 1) := by decide +kernel
theorem d_Plan_init_5 : decode b_Plan_init 5 = .ok (.bipush 8, 2) := by decide +kernel
theorem d_Plan_init_7 : decode b_Plan_init 7 = .ok (.anewarray 9, 3) := by decide +kernel
theorem d_Plan_init_10 : decode b_Plan_init 10 = .ok (.putfield 11, 3) := by decide +kernel
theorem d_Plan_init_13 : decode b_Plan_init 13 = .ok (.iconst 0, 1) := by decide +kernel
theorem d_Plan_init_14 : decode b_Plan_init 14 = .ok (.istore_n 1, 1) := by decide +kernel
theorem d_Plan_init_15 : decode b_Plan_init 15 = .ok (.iload_n 1, 1) := by decide +kernel
theorem d_Plan_init_16 : decode b_Plan_init 16 = .ok (.bipush 8, 2) := by decide +kernel
theorem d_Plan_init_18 : decode b_Plan_init 18 = .ok (.if_icmp .ge 22, 3) := by decide +kernel
theorem d_Plan_init_21 : decode b_Plan_init 21 = .ok (.aload_n 0, 1) := by decide +kernel
theorem d_Plan_init_22 : decode b_Plan_init 22 = .ok (.getfield 11, 3) := by decide +kernel
theorem d_Plan_init_25 : decode b_Plan_init 25 = .ok (.iload_n 1, 1) := by decide +kernel
theorem d_Plan_init_26 : decode b_Plan_init 26 = .ok (.new 9, 3) := by decide +kernel
theorem d_Plan_init_29 : decode b_Plan_init 29 = .ok (.dup, 1) := by decide +kernel
theorem d_Plan_init_30 : decode b_Plan_init 30 = .ok (.invokespecial 15, 3) := by decide +kernel
theorem d_Plan_init_33 : decode b_Plan_init 33 = .ok (.aastore, 1) := by decide +kernel
theorem d_Plan_init_34 : decode b_Plan_init 34 = .ok (.iinc 1 1, 3) := by decide +kernel
theorem d_Plan_init_37 : decode b_Plan_init 37 = .ok (.goto (-22), 3) := by decide +kernel
theorem d_Plan_init_40 : decode b_Plan_init 40 = .ok (.return_, 1) := by decide +kernel
theorem d_Plan_has_0 : decode b_Plan_has 0 = .ok (.iload_n 1, 1) := by decide +kernel
theorem d_Plan_has_1 : decode b_Plan_has 1 = .ok (.ifCond .lt 15, 3) := by decide +kernel
theorem d_Plan_has_4 : decode b_Plan_has 4 = .ok (.iload_n 1, 1) := by decide +kernel
theorem d_Plan_has_5 : decode b_Plan_has 5 = .ok (.aload_n 0, 1) := by decide +kernel
theorem d_Plan_has_6 : decode b_Plan_has 6 = .ok (.getfield 16, 3) := by decide +kernel
theorem d_Plan_has_9 : decode b_Plan_has 9 = .ok (.if_icmp .ge 7, 3) := by decide +kernel
theorem d_Plan_has_12 : decode b_Plan_has 12 = .ok (.iconst 1, 1) := by decide +kernel
theorem d_Plan_has_13 : decode b_Plan_has 13 = .ok (.goto 4, 3) := by decide +kernel
theorem d_Plan_has_16 : decode b_Plan_has 16 = .ok (.iconst 0, 1) := by decide +kernel
theorem d_Plan_has_17 : decode b_Plan_has 17 = .ok (.ireturn, 1) := by decide +kernel
theorem d_Plan_makeReady_0 : decode b_Plan_makeReady 0 = .ok (.iconst 0, 1) := by decide +kernel
theorem d_Plan_makeReady_1 : decode b_Plan_makeReady 1 = .ok (.istore_n 1, 1) := by decide +kernel
theorem d_Plan_makeReady_2 : decode b_Plan_makeReady 2 = .ok (.iload_n 1, 1) := by decide +kernel
theorem d_Plan_makeReady_3 : decode b_Plan_makeReady 3 = .ok (.aload_n 0, 1) := by decide +kernel
theorem d_Plan_makeReady_4 : decode b_Plan_makeReady 4 = .ok (.getfield 16, 3) := by decide +kernel
theorem d_Plan_makeReady_7 : decode b_Plan_makeReady 7 = .ok (.if_icmp .ge 18, 3) := by decide +kernel
theorem d_Plan_makeReady_10 : decode b_Plan_makeReady 10 = .ok (.aload_n 0, 1) := by decide +kernel
theorem d_Plan_makeReady_11 : decode b_Plan_makeReady 11 = .ok (.getfield 11, 3) := by decide +kernel
theorem d_Plan_makeReady_14 : decode b_Plan_makeReady 14 = .ok (.iload_n 1, 1) := by decide +kernel
theorem d_Plan_makeReady_15 : decode b_Plan_makeReady 15 = .ok (.aaload, 1) := by decide +kernel
theorem d_Plan_makeReady_16 : decode b_Plan_makeReady 16 = .ok (.invokevirtual 20, 3) := by decide +kernel
theorem d_Plan_makeReady_19 : decode b_Plan_makeReady 19 = .ok (.iinc 1 1, 3) := by decide +kernel
theorem d_Plan_makeReady_22 : decode b_Plan_makeReady 22 = .ok (.goto (-20), 3) := by decide +kernel
theorem d_Plan_makeReady_25 : decode b_Plan_makeReady 25 = .ok (.return_, 1) := by decide +kernel
theorem d_Plan_findUnfit_0 : decode b_Plan_findUnfit 0 = .ok (.iconst 0, 1) := by decide +kernel
theorem d_Plan_findUnfit_1 : decode b_Plan_findUnfit 1 = .ok (.istore_n 1, 1) := by decide +kernel
theorem d_Plan_findUnfit_2 : decode b_Plan_findUnfit 2 = .ok (.iload_n 1, 1) := by decide +kernel
theorem d_Plan_findUnfit_3 : decode b_Plan_findUnfit 3 = .ok (.aload_n 0, 1) := by decide +kernel
theorem d_Plan_findUnfit_4 : decode b_Plan_findUnfit 4 = .ok (.getfield 16, 3) := by decide +kernel
theorem d_Plan_findUnfit_7 : decode b_Plan_findUnfit 7 = .ok (.if_icmp .ge 22, 3) := by decide +kernel
theorem d_Plan_findUnfit_10 : decode b_Plan_findUnfit 10 = .ok (.aload_n 0, 1) := by decide +kernel
theorem d_Plan_findUnfit_11 : decode b_Plan_findUnfit 11 = .ok (.iload_n 1, 1) := by decide +kernel
theorem d_Plan_findUnfit_12 : decode b_Plan_findUnfit 12 = .ok (.invokevirtual 23, 3) := by decide +kernel
theorem d_Plan_findUnfit_15 : decode b_Plan_findUnfit 15 = .ok (.ifCond .eq 8, 3) := by decide +kernel
theorem d_Plan_findUnfit_18 : decode b_Plan_findUnfit 18 = .ok (.bipush 100, 2) := by decide +kernel
theorem d_Plan_findUnfit_20 : decode b_Plan_findUnfit 20 = .ok (.iload_n 1, 1) := by decide +kernel
theorem d_Plan_findUnfit_21 : decode b_Plan_findUnfit 21 = .ok (.iadd, 1) := by decide +kernel
theorem d_Plan_findUnfit_22 : decode b_Plan_findUnfit 22 = .ok (.ireturn, 1) := by decide +kernel
theorem d_Plan_findUnfit_23 : decode b_Plan_findUnfit 23 = .ok (.iinc 1 1, 3) := by decide +kernel
theorem d_Plan_findUnfit_26 : decode b_Plan_findUnfit 26 = .ok (.goto (-24), 3) := by decide +kernel
theorem d_Plan_findUnfit_29 : decode b_Plan_findUnfit 29 = .ok (.iconst 0, 1) := by decide +kernel
theorem d_Plan_findUnfit_30 : decode b_Plan_findUnfit 30 = .ok (.istore_n 1, 1) := by decide +kernel
theorem d_Plan_findUnfit_31 : decode b_Plan_findUnfit 31 = .ok (.iload_n 1, 1) := by decide +kernel
theorem d_Plan_findUnfit_32 : decode b_Plan_findUnfit 32 = .ok (.aload_n 0, 1) := by decide +kernel
theorem d_Plan_findUnfit_33 : decode b_Plan_findUnfit 33 = .ok (.getfield 16, 3) := by decide +kernel
theorem d_Plan_findUnfit_36 : decode b_Plan_findUnfit 36 = .ok (.if_icmp .ge 23, 3) := by decide +kernel
theorem d_Plan_findUnfit_39 : decode b_Plan_findUnfit 39 = .ok (.aload_n 0, 1) := by decide +kernel
theorem d_Plan_findUnfit_40 : decode b_Plan_findUnfit 40 = .ok (.iload_n 1, 1) := by decide +kernel
theorem d_Plan_findUnfit_41 : decode b_Plan_findUnfit 41 = .ok (.invokevirtual 27, 3) := by decide +kernel
theorem d_Plan_findUnfit_44 : decode b_Plan_findUnfit 44 = .ok (.ifCond .eq 9, 3) := by decide +kernel
theorem d_Plan_findUnfit_47 : decode b_Plan_findUnfit 47 = .ok (.sipush 200, 3) := by decide +kernel
theorem d_Plan_findUnfit_50 : decode b_Plan_findUnfit 50 = .ok (.iload_n 1, 1) := by decide +kernel
theorem d_Plan_findUnfit_51 : decode b_Plan_findUnfit 51 = .ok (.iadd, 1) := by decide +kernel
theorem d_Plan_findUnfit_52 : decode b_Plan_findUnfit 52 = .ok (.ireturn, 1) := by decide +kernel
theorem d_Plan_findUnfit_53 : decode b_Plan_findUnfit 53 = .ok (.iinc 1 1, 3) := by decide +kernel
theorem d_Plan_findUnfit_56 : decode b_Plan_findUnfit 56 = .ok (.goto (-25), 3) := by decide +kernel
theorem d_Plan_findUnfit_59 : decode b_Plan_findUnfit 59 = .ok (.aload_n 0, 1) := by decide +kernel
theorem d_Plan_findUnfit_60 : decode b_Plan_findUnfit 60 = .ok (.invokevirtual 30, 3) := by decide +kernel
theorem d_Plan_findUnfit_63 : decode b_Plan_findUnfit 63 = .ok (.iconst 0, 1) := by decide +kernel
theorem d_Plan_findUnfit_64 : decode b_Plan_findUnfit 64 = .ok (.istore_n 1, 1) := by decide +kernel
theorem d_Plan_findUnfit_65 : decode b_Plan_findUnfit 65 = .ok (.iload_n 1, 1) := by decide +kernel
theorem d_Plan_findUnfit_66 : decode b_Plan_findUnfit 66 = .ok (.aload_n 0, 1) := by decide +kernel
theorem d_Plan_findUnfit_67 : decode b_Plan_findUnfit 67 = .ok (.getfield 16, 3) := by decide +kernel
theorem d_Plan_findUnfit_70 : decode b_Plan_findUnfit 70 = .ok (.if_icmp .ge 36, 3) := by decide +kernel
theorem d_Plan_findUnfit_73 : decode b_Plan_findUnfit 73 = .ok (.aload_n 0, 1) := by decide +kernel
theorem d_Plan_findUnfit_74 : decode b_Plan_findUnfit 74 = .ok (.getfield 11, 3) := by decide +kernel
theorem d_Plan_findUnfit_77 : decode b_Plan_findUnfit 77 = .ok (.iload_n 1, 1) := by decide +kernel
theorem d_Plan_findUnfit_78 : decode b_Plan_findUnfit 78 = .ok (.aaload, 1) := by decide +kernel
theorem d_Plan_findUnfit_79 : decode b_Plan_findUnfit 79 = .ok (.getfield 33, 3) := by decide +kernel
theorem d_Plan_findUnfit_82 : decode b_Plan_findUnfit 82 = .ok (.aload_n 0, 1) := by decide +kernel
theorem d_Plan_findUnfit_83 : decode b_Plan_findUnfit 83 = .ok (.getfield 11, 3) := by decide +kernel
theorem d_Plan_findUnfit_86 : decode b_Plan_findUnfit 86 = .ok (.iload_n 1, 1) := by decide +kernel
theorem d_Plan_findUnfit_87 : decode b_Plan_findUnfit 87 = .ok (.aaload, 1) := by decide +kernel
theorem d_Plan_findUnfit_88 : decode b_Plan_findUnfit 88 = .ok (.getfield 36, 3) := by decide +kernel
theorem d_Plan_findUnfit_91 : decode b_Plan_findUnfit 91 = .ok (.if_icmp .le 9, 3) := by decide +kernel
theorem d_Plan_findUnfit_94 : decode b_Plan_findUnfit 94 = .ok (.sipush 300, 3) := by decide +kernel
theorem d_Plan_findUnfit_97 : decode b_Plan_findUnfit 97 = .ok (.iload_n 1, 1) := by decide +kernel
theorem d_Plan_findUnfit_98 : decode b_Plan_findUnfit 98 = .ok (.iadd, 1) := by decide +kernel
theorem d_Plan_findUnfit_99 : decode b_Plan_findUnfit 99 = .ok (.ireturn, 1) := by decide +kernel
theorem d_Plan_findUnfit_100 : decode b_Plan_findUnfit 100 = .ok (.iinc 1 1, 3) := by decide +kernel
theorem d_Plan_findUnfit_103 : decode b_Plan_findUnfit 103 = .ok (.goto (-38), 3) := by decide +kernel
theorem d_Plan_findUnfit_106 : decode b_Plan_findUnfit 106 = .ok (.iconst 0, 1) := by decide +kernel
theorem d_Plan_findUnfit_107 : decode b_Plan_findUnfit 107 = .ok (.ireturn, 1) := by decide +kernel
theorem d_Plan_saysWrong_0 : decode b_Plan_saysWrong 0 = .ok (.aload_n 0, 1) := by decide +kernel
theorem d_Plan_saysWrong_1 : decode b_Plan_saysWrong 1 = .ok (.getfield 11, 3) := by decide +kernel
theorem d_Plan_saysWrong_4 : decode b_Plan_saysWrong 4 = .ok (.iload_n 1, 1) := by decide +kernel
theorem d_Plan_saysWrong_5 : decode b_Plan_saysWrong 5 = .ok (.aaload, 1) := by decide +kernel
theorem d_Plan_saysWrong_6 : decode b_Plan_saysWrong 6 = .ok (.astore_n 2, 1) := by decide +kernel
theorem d_Plan_saysWrong_7 : decode b_Plan_saysWrong 7 = .ok (.iconst 1, 1) := by decide +kernel
theorem d_Plan_saysWrong_8 : decode b_Plan_saysWrong 8 = .ok (.aload_n 0, 1) := by decide +kernel
theorem d_Plan_saysWrong_9 : decode b_Plan_saysWrong 9 = .ok (.getfield 16, 3) := by decide +kernel
theorem d_Plan_saysWrong_12 : decode b_Plan_saysWrong 12 = .ok (.ishl, 1) := by decide +kernel
theorem d_Plan_saysWrong_13 : decode b_Plan_saysWrong 13 = .ok (.iconst 1, 1) := by decide +kernel
theorem d_Plan_saysWrong_14 : decode b_Plan_saysWrong 14 = .ok (.isub, 1) := by decide +kernel
theorem d_Plan_saysWrong_15 : decode b_Plan_saysWrong 15 = .ok (.iconst 1, 1) := by decide +kernel
theorem d_Plan_saysWrong_16 : decode b_Plan_saysWrong 16 = .ok (.iload_n 1, 1) := by decide +kernel
theorem d_Plan_saysWrong_17 : decode b_Plan_saysWrong 17 = .ok (.ishl, 1) := by decide +kernel
theorem d_Plan_saysWrong_18 : decode b_Plan_saysWrong 18 = .ok (.iconst (-1), 1) := by decide +kernel
theorem d_Plan_saysWrong_19 : decode b_Plan_saysWrong 19 = .ok (.ixor, 1) := by decide +kernel
theorem d_Plan_saysWrong_20 : decode b_Plan_saysWrong 20 = .ok (.iand, 1) := by decide +kernel
theorem d_Plan_saysWrong_21 : decode b_Plan_saysWrong 21 = .ok (.istore_n 3, 1) := by decide +kernel
theorem d_Plan_saysWrong_22 : decode b_Plan_saysWrong 22 = .ok (.aload_n 2, 1) := by decide +kernel
theorem d_Plan_saysWrong_23 : decode b_Plan_saysWrong 23 = .ok (.getfield 39, 3) := by decide +kernel
theorem d_Plan_saysWrong_26 : decode b_Plan_saysWrong 26 = .ok (.iconst 1, 1) := by decide +kernel
theorem d_Plan_saysWrong_27 : decode b_Plan_saysWrong 27 = .ok (.if_icmp .lt 47, 3) := by decide +kernel
theorem d_Plan_saysWrong_30 : decode b_Plan_saysWrong 30 = .ok (.aload_n 2, 1) := by decide +kernel
theorem d_Plan_saysWrong_31 : decode b_Plan_saysWrong 31 = .ok (.getfield 42, 3) := by decide +kernel
theorem d_Plan_saysWrong_34 : decode b_Plan_saysWrong 34 = .ok (.bipush 30, 2) := by decide +kernel
theorem d_Plan_saysWrong_36 : decode b_Plan_saysWrong 36 = .ok (.if_icmp .gt 38, 3) := by decide +kernel
theorem d_Plan_saysWrong_39 : decode b_Plan_saysWrong 39 = .ok (.aload_n 2, 1) := by decide +kernel
theorem d_Plan_saysWrong_40 : decode b_Plan_saysWrong 40 = .ok (.getfield 39, 3) := by decide +kernel
theorem d_Plan_saysWrong_43 : decode b_Plan_saysWrong 43 = .ok (.aload_n 2, 1) := by decide +kernel
theorem d_Plan_saysWrong_44 : decode b_Plan_saysWrong 44 = .ok (.getfield 42, 3) := by decide +kernel
theorem d_Plan_saysWrong_47 : decode b_Plan_saysWrong 47 = .ok (.if_icmp .gt 27, 3) := by decide +kernel
theorem d_Plan_saysWrong_50 : decode b_Plan_saysWrong 50 = .ok (.aload_n 2, 1) := by decide +kernel
theorem d_Plan_saysWrong_51 : decode b_Plan_saysWrong 51 = .ok (.getfield 45, 3) := by decide +kernel
theorem d_Plan_saysWrong_54 : decode b_Plan_saysWrong 54 = .ok (.iconst 3, 1) := by decide +kernel
theorem d_Plan_saysWrong_55 : decode b_Plan_saysWrong 55 = .ok (.if_icmp .gt 19, 3) := by decide +kernel
theorem d_Plan_saysWrong_58 : decode b_Plan_saysWrong 58 = .ok (.aload_n 2, 1) := by decide +kernel
theorem d_Plan_saysWrong_59 : decode b_Plan_saysWrong 59 = .ok (.getfield 48, 3) := by decide +kernel
theorem d_Plan_saysWrong_62 : decode b_Plan_saysWrong 62 = .ok (.aload_n 2, 1) := by decide +kernel
theorem d_Plan_saysWrong_63 : decode b_Plan_saysWrong 63 = .ok (.getfield 51, 3) := by decide +kernel
theorem d_Plan_saysWrong_66 : decode b_Plan_saysWrong 66 = .ok (.ior, 1) := by decide +kernel
theorem d_Plan_saysWrong_67 : decode b_Plan_saysWrong 67 = .ok (.iload_n 3, 1) := by decide +kernel
theorem d_Plan_saysWrong_68 : decode b_Plan_saysWrong 68 = .ok (.iconst (-1), 1) := by decide +kernel
theorem d_Plan_saysWrong_69 : decode b_Plan_saysWrong 69 = .ok (.ixor, 1) := by decide +kernel
theorem d_Plan_saysWrong_70 : decode b_Plan_saysWrong 70 = .ok (.iand, 1) := by decide +kernel
theorem d_Plan_saysWrong_71 : decode b_Plan_saysWrong 71 = .ok (.ifCond .eq 7, 3) := by decide +kernel
theorem d_Plan_saysWrong_74 : decode b_Plan_saysWrong 74 = .ok (.iconst 1, 1) := by decide +kernel
theorem d_Plan_saysWrong_75 : decode b_Plan_saysWrong 75 = .ok (.goto 4, 3) := by decide +kernel
theorem d_Plan_saysWrong_78 : decode b_Plan_saysWrong 78 = .ok (.iconst 0, 1) := by decide +kernel
theorem d_Plan_saysWrong_79 : decode b_Plan_saysWrong 79 = .ok (.ireturn, 1) := by decide +kernel
theorem d_Plan_isInRing_0 : decode b_Plan_isInRing 0 = .ok (.aload_n 0, 1) := by decide +kernel
theorem d_Plan_isInRing_1 : decode b_Plan_isInRing 1 = .ok (.getfield 11, 3) := by decide +kernel
theorem d_Plan_isInRing_4 : decode b_Plan_isInRing 4 = .ok (.iload_n 1, 1) := by decide +kernel
theorem d_Plan_isInRing_5 : decode b_Plan_isInRing 5 = .ok (.aaload, 1) := by decide +kernel
theorem d_Plan_isInRing_6 : decode b_Plan_isInRing 6 = .ok (.getfield 48, 3) := by decide +kernel
theorem d_Plan_isInRing_9 : decode b_Plan_isInRing 9 = .ok (.istore_n 2, 1) := by decide +kernel
theorem d_Plan_isInRing_10 : decode b_Plan_isInRing 10 = .ok (.iconst 0, 1) := by decide +kernel
theorem d_Plan_isInRing_11 : decode b_Plan_isInRing 11 = .ok (.istore_n 3, 1) := by decide +kernel
theorem d_Plan_isInRing_12 : decode b_Plan_isInRing 12 = .ok (.iload_n 3, 1) := by decide +kernel
theorem d_Plan_isInRing_13 : decode b_Plan_isInRing 13 = .ok (.aload_n 0, 1) := by decide +kernel
theorem d_Plan_isInRing_14 : decode b_Plan_isInRing 14 = .ok (.getfield 16, 3) := by decide +kernel
theorem d_Plan_isInRing_17 : decode b_Plan_isInRing 17 = .ok (.if_icmp .ge 49, 3) := by decide +kernel
theorem d_Plan_isInRing_20 : decode b_Plan_isInRing 20 = .ok (.iconst 0, 1) := by decide +kernel
theorem d_Plan_isInRing_21 : decode b_Plan_isInRing 21 = .ok (.istore 4, 2) := by decide +kernel
theorem d_Plan_isInRing_23 : decode b_Plan_isInRing 23 = .ok (.iload 4, 2) := by decide +kernel
theorem d_Plan_isInRing_25 : decode b_Plan_isInRing 25 = .ok (.aload_n 0, 1) := by decide +kernel
theorem d_Plan_isInRing_26 : decode b_Plan_isInRing 26 = .ok (.getfield 16, 3) := by decide +kernel
theorem d_Plan_isInRing_29 : decode b_Plan_isInRing 29 = .ok (.if_icmp .ge 31, 3) := by decide +kernel
theorem d_Plan_isInRing_32 : decode b_Plan_isInRing 32 = .ok (.iload_n 2, 1) := by decide +kernel
theorem d_Plan_isInRing_33 : decode b_Plan_isInRing 33 = .ok (.iload 4, 2) := by decide +kernel
theorem d_Plan_isInRing_35 : decode b_Plan_isInRing 35 = .ok (.ishr, 1) := by decide +kernel
theorem d_Plan_isInRing_36 : decode b_Plan_isInRing 36 = .ok (.iconst 1, 1) := by decide +kernel
theorem d_Plan_isInRing_37 : decode b_Plan_isInRing 37 = .ok (.iand, 1) := by decide +kernel
theorem d_Plan_isInRing_38 : decode b_Plan_isInRing 38 = .ok (.ifCond .eq 16, 3) := by decide +kernel
theorem d_Plan_isInRing_41 : decode b_Plan_isInRing 41 = .ok (.iload_n 2, 1) := by decide +kernel
theorem d_Plan_isInRing_42 : decode b_Plan_isInRing 42 = .ok (.aload_n 0, 1) := by decide +kernel
theorem d_Plan_isInRing_43 : decode b_Plan_isInRing 43 = .ok (.getfield 11, 3) := by decide +kernel
theorem d_Plan_isInRing_46 : decode b_Plan_isInRing 46 = .ok (.iload 4, 2) := by decide +kernel
theorem d_Plan_isInRing_48 : decode b_Plan_isInRing 48 = .ok (.aaload, 1) := by decide +kernel
theorem d_Plan_isInRing_49 : decode b_Plan_isInRing 49 = .ok (.getfield 48, 3) := by decide +kernel
theorem d_Plan_isInRing_52 : decode b_Plan_isInRing 52 = .ok (.ior, 1) := by decide +kernel
theorem d_Plan_isInRing_53 : decode b_Plan_isInRing 53 = .ok (.istore_n 2, 1) := by decide +kernel
theorem d_Plan_isInRing_54 : decode b_Plan_isInRing 54 = .ok (.iinc 4 1, 3) := by decide +kernel
theorem d_Plan_isInRing_57 : decode b_Plan_isInRing 57 = .ok (.goto (-34), 3) := by decide +kernel
theorem d_Plan_isInRing_60 : decode b_Plan_isInRing 60 = .ok (.iinc 3 1, 3) := by decide +kernel
theorem d_Plan_isInRing_63 : decode b_Plan_isInRing 63 = .ok (.goto (-51), 3) := by decide +kernel
theorem d_Plan_isInRing_66 : decode b_Plan_isInRing 66 = .ok (.iload_n 2, 1) := by decide +kernel
theorem d_Plan_isInRing_67 : decode b_Plan_isInRing 67 = .ok (.iload_n 1, 1) := by decide +kernel
theorem d_Plan_isInRing_68 : decode b_Plan_isInRing 68 = .ok (.ishr, 1) := by decide +kernel
theorem d_Plan_isInRing_69 : decode b_Plan_isInRing 69 = .ok (.iconst 1, 1) := by decide +kernel
theorem d_Plan_isInRing_70 : decode b_Plan_isInRing 70 = .ok (.iand, 1) := by decide +kernel
theorem d_Plan_isInRing_71 : decode b_Plan_isInRing 71 = .ok (.ifCond .eq 7, 3) := by decide +kernel
theorem d_Plan_isInRing_74 : decode b_Plan_isInRing 74 = .ok (.iconst 1, 1) := by decide +kernel
theorem d_Plan_isInRing_75 : decode b_Plan_isInRing 75 = .ok (.goto 4, 3) := by decide +kernel
theorem d_Plan_isInRing_78 : decode b_Plan_isInRing 78 = .ok (.iconst 0, 1) := by decide +kernel
theorem d_Plan_isInRing_79 : decode b_Plan_isInRing 79 = .ok (.ireturn, 1) := by decide +kernel
theorem d_Plan_reckonEarliest_0 : decode b_Plan_reckonEarliest 0 = .ok (.iconst 0, 1) := by decide +kernel
theorem d_Plan_reckonEarliest_1 : decode b_Plan_reckonEarliest 1 = .ok (.istore_n 1, 1) := by decide +kernel
theorem d_Plan_reckonEarliest_2 : decode b_Plan_reckonEarliest 2 = .ok (.iload_n 1, 1) := by decide +kernel
theorem d_Plan_reckonEarliest_3 : decode b_Plan_reckonEarliest 3 = .ok (.aload_n 0, 1) := by decide +kernel
theorem d_Plan_reckonEarliest_4 : decode b_Plan_reckonEarliest 4 = .ok (.getfield 16, 3) := by decide +kernel
theorem d_Plan_reckonEarliest_7 : decode b_Plan_reckonEarliest 7 = .ok (.if_icmp .ge 44, 3) := by decide +kernel
theorem d_Plan_reckonEarliest_10 : decode b_Plan_reckonEarliest 10 = .ok (.iconst 0, 1) := by decide +kernel
theorem d_Plan_reckonEarliest_11 : decode b_Plan_reckonEarliest 11 = .ok (.istore_n 2, 1) := by decide +kernel
theorem d_Plan_reckonEarliest_12 : decode b_Plan_reckonEarliest 12 = .ok (.iload_n 2, 1) := by decide +kernel
theorem d_Plan_reckonEarliest_13 : decode b_Plan_reckonEarliest 13 = .ok (.aload_n 0, 1) := by decide +kernel
theorem d_Plan_reckonEarliest_14 : decode b_Plan_reckonEarliest 14 = .ok (.getfield 16, 3) := by decide +kernel
theorem d_Plan_reckonEarliest_17 : decode b_Plan_reckonEarliest 17 = .ok (.if_icmp .ge 28, 3) := by decide +kernel
theorem d_Plan_reckonEarliest_20 : decode b_Plan_reckonEarliest 20 = .ok (.aload_n 0, 1) := by decide +kernel
theorem d_Plan_reckonEarliest_21 : decode b_Plan_reckonEarliest 21 = .ok (.getfield 11, 3) := by decide +kernel
theorem d_Plan_reckonEarliest_24 : decode b_Plan_reckonEarliest 24 = .ok (.iload_n 2, 1) := by decide +kernel
theorem d_Plan_reckonEarliest_25 : decode b_Plan_reckonEarliest 25 = .ok (.aaload, 1) := by decide +kernel
theorem d_Plan_reckonEarliest_26 : decode b_Plan_reckonEarliest 26 = .ok (.aload_n 0, 1) := by decide +kernel
theorem d_Plan_reckonEarliest_27 : decode b_Plan_reckonEarliest 27 = .ok (.aload_n 0, 1) := by decide +kernel
theorem d_Plan_reckonEarliest_28 : decode b_Plan_reckonEarliest 28 = .ok (.getfield 11, 3) := by decide +kernel
theorem d_Plan_reckonEarliest_31 : decode b_Plan_reckonEarliest 31 = .ok (.iload_n 2, 1) := by decide +kernel
theorem d_Plan_reckonEarliest_32 : decode b_Plan_reckonEarliest 32 = .ok (.aaload, 1) := by decide +kernel
theorem d_Plan_reckonEarliest_33 : decode b_Plan_reckonEarliest 33 = .ok (.invokevirtual 54, 3) := by decide +kernel
theorem d_Plan_reckonEarliest_36 : decode b_Plan_reckonEarliest 36 = .ok (.putfield 33, 3) := by decide +kernel
theorem d_Plan_reckonEarliest_39 : decode b_Plan_reckonEarliest 39 = .ok (.iinc 2 1, 3) := by decide +kernel
theorem d_Plan_reckonEarliest_42 : decode b_Plan_reckonEarliest 42 = .ok (.goto (-30), 3) := by decide +kernel
theorem d_Plan_reckonEarliest_45 : decode b_Plan_reckonEarliest 45 = .ok (.iinc 1 1, 3) := by decide +kernel
theorem d_Plan_reckonEarliest_48 : decode b_Plan_reckonEarliest 48 = .ok (.goto (-46), 3) := by decide +kernel
theorem d_Plan_reckonEarliest_51 : decode b_Plan_reckonEarliest 51 = .ok (.return_, 1) := by decide +kernel
theorem d_Plan_earliestOf_0 : decode b_Plan_earliestOf 0 = .ok (.iconst 0, 1) := by decide +kernel
theorem d_Plan_earliestOf_1 : decode b_Plan_earliestOf 1 = .ok (.istore_n 2, 1) := by decide +kernel
theorem d_Plan_earliestOf_2 : decode b_Plan_earliestOf 2 = .ok (.iconst 0, 1) := by decide +kernel
theorem d_Plan_earliestOf_3 : decode b_Plan_earliestOf 3 = .ok (.istore_n 3, 1) := by decide +kernel
theorem d_Plan_earliestOf_4 : decode b_Plan_earliestOf 4 = .ok (.iload_n 3, 1) := by decide +kernel
theorem d_Plan_earliestOf_5 : decode b_Plan_earliestOf 5 = .ok (.aload_n 0, 1) := by decide +kernel
theorem d_Plan_earliestOf_6 : decode b_Plan_earliestOf 6 = .ok (.getfield 16, 3) := by decide +kernel
theorem d_Plan_earliestOf_9 : decode b_Plan_earliestOf 9 = .ok (.if_icmp .ge 41, 3) := by decide +kernel
theorem d_Plan_earliestOf_12 : decode b_Plan_earliestOf 12 = .ok (.aload_n 1, 1) := by decide +kernel
theorem d_Plan_earliestOf_13 : decode b_Plan_earliestOf 13 = .ok (.iload_n 3, 1) := by decide +kernel
theorem d_Plan_earliestOf_14 : decode b_Plan_earliestOf 14 = .ok (.invokevirtual 58, 3) := by decide +kernel
theorem d_Plan_earliestOf_17 : decode b_Plan_earliestOf 17 = .ok (.ifCond .eq 27, 3) := by decide +kernel
theorem d_Plan_earliestOf_20 : decode b_Plan_earliestOf 20 = .ok (.iload_n 2, 1) := by decide +kernel
theorem d_Plan_earliestOf_21 : decode b_Plan_earliestOf 21 = .ok (.aload_n 0, 1) := by decide +kernel
theorem d_Plan_earliestOf_22 : decode b_Plan_earliestOf 22 = .ok (.getfield 11, 3) := by decide +kernel
theorem d_Plan_earliestOf_25 : decode b_Plan_earliestOf 25 = .ok (.iload_n 3, 1) := by decide +kernel
theorem d_Plan_earliestOf_26 : decode b_Plan_earliestOf 26 = .ok (.aaload, 1) := by decide +kernel
theorem d_Plan_earliestOf_27 : decode b_Plan_earliestOf 27 = .ok (.getfield 33, 3) := by decide +kernel
theorem d_Plan_earliestOf_30 : decode b_Plan_earliestOf 30 = .ok (.aload_n 0, 1) := by decide +kernel
theorem d_Plan_earliestOf_31 : decode b_Plan_earliestOf 31 = .ok (.getfield 11, 3) := by decide +kernel
theorem d_Plan_earliestOf_34 : decode b_Plan_earliestOf 34 = .ok (.iload_n 3, 1) := by decide +kernel
theorem d_Plan_earliestOf_35 : decode b_Plan_earliestOf 35 = .ok (.aaload, 1) := by decide +kernel
theorem d_Plan_earliestOf_36 : decode b_Plan_earliestOf 36 = .ok (.getfield 39, 3) := by decide +kernel
theorem d_Plan_earliestOf_39 : decode b_Plan_earliestOf 39 = .ok (.iadd, 1) := by decide +kernel
theorem d_Plan_earliestOf_40 : decode b_Plan_earliestOf 40 = .ok (.invokestatic 61, 3) := by decide +kernel
theorem d_Plan_earliestOf_43 : decode b_Plan_earliestOf 43 = .ok (.istore_n 2, 1) := by decide +kernel
theorem d_Plan_earliestOf_44 : decode b_Plan_earliestOf 44 = .ok (.iinc 3 1, 3) := by decide +kernel
theorem d_Plan_earliestOf_47 : decode b_Plan_earliestOf 47 = .ok (.goto (-43), 3) := by decide +kernel
theorem d_Plan_earliestOf_50 : decode b_Plan_earliestOf 50 = .ok (.iload_n 2, 1) := by decide +kernel
theorem d_Plan_earliestOf_51 : decode b_Plan_earliestOf 51 = .ok (.ireturn, 1) := by decide +kernel
theorem d_Plan_runningDraw_0 : decode b_Plan_runningDraw 0 = .ok (.iconst 0, 1) := by decide +kernel
theorem d_Plan_runningDraw_1 : decode b_Plan_runningDraw 1 = .ok (.istore_n 1, 1) := by decide +kernel
theorem d_Plan_runningDraw_2 : decode b_Plan_runningDraw 2 = .ok (.iconst 0, 1) := by decide +kernel
theorem d_Plan_runningDraw_3 : decode b_Plan_runningDraw 3 = .ok (.istore_n 2, 1) := by decide +kernel
theorem d_Plan_runningDraw_4 : decode b_Plan_runningDraw 4 = .ok (.iload_n 2, 1) := by decide +kernel
theorem d_Plan_runningDraw_5 : decode b_Plan_runningDraw 5 = .ok (.aload_n 0, 1) := by decide +kernel
theorem d_Plan_runningDraw_6 : decode b_Plan_runningDraw 6 = .ok (.getfield 16, 3) := by decide +kernel
theorem d_Plan_runningDraw_9 : decode b_Plan_runningDraw 9 = .ok (.if_icmp .ge 33, 3) := by decide +kernel
theorem d_Plan_runningDraw_12 : decode b_Plan_runningDraw 12 = .ok (.aload_n 0, 1) := by decide +kernel
theorem d_Plan_runningDraw_13 : decode b_Plan_runningDraw 13 = .ok (.getfield 11, 3) := by decide +kernel
theorem d_Plan_runningDraw_16 : decode b_Plan_runningDraw 16 = .ok (.iload_n 2, 1) := by decide +kernel
theorem d_Plan_runningDraw_17 : decode b_Plan_runningDraw 17 = .ok (.aaload, 1) := by decide +kernel
theorem d_Plan_runningDraw_18 : decode b_Plan_runningDraw 18 = .ok (.invokevirtual 67, 3) := by decide +kernel
theorem d_Plan_runningDraw_21 : decode b_Plan_runningDraw 21 = .ok (.ifCond .eq 15, 3) := by decide +kernel
theorem d_Plan_runningDraw_24 : decode b_Plan_runningDraw 24 = .ok (.iload_n 1, 1) := by decide +kernel
theorem d_Plan_runningDraw_25 : decode b_Plan_runningDraw 25 = .ok (.aload_n 0, 1) := by decide +kernel
theorem d_Plan_runningDraw_26 : decode b_Plan_runningDraw 26 = .ok (.getfield 11, 3) := by decide +kernel
theorem d_Plan_runningDraw_29 : decode b_Plan_runningDraw 29 = .ok (.iload_n 2, 1) := by decide +kernel
theorem d_Plan_runningDraw_30 : decode b_Plan_runningDraw 30 = .ok (.aaload, 1) := by decide +kernel
theorem d_Plan_runningDraw_31 : decode b_Plan_runningDraw 31 = .ok (.getfield 71, 3) := by decide +kernel
theorem d_Plan_runningDraw_34 : decode b_Plan_runningDraw 34 = .ok (.iadd, 1) := by decide +kernel
theorem d_Plan_runningDraw_35 : decode b_Plan_runningDraw 35 = .ok (.istore_n 1, 1) := by decide +kernel
theorem d_Plan_runningDraw_36 : decode b_Plan_runningDraw 36 = .ok (.iinc 2 1, 3) := by decide +kernel
theorem d_Plan_runningDraw_39 : decode b_Plan_runningDraw 39 = .ok (.goto (-35), 3) := by decide +kernel
theorem d_Plan_runningDraw_42 : decode b_Plan_runningDraw 42 = .ok (.iload_n 1, 1) := by decide +kernel
theorem d_Plan_runningDraw_43 : decode b_Plan_runningDraw 43 = .ok (.ireturn, 1) := by decide +kernel
theorem d_Plan_runningData_0 : decode b_Plan_runningData 0 = .ok (.iconst 0, 1) := by decide +kernel
theorem d_Plan_runningData_1 : decode b_Plan_runningData 1 = .ok (.istore_n 1, 1) := by decide +kernel
theorem d_Plan_runningData_2 : decode b_Plan_runningData 2 = .ok (.iconst 0, 1) := by decide +kernel
theorem d_Plan_runningData_3 : decode b_Plan_runningData 3 = .ok (.istore_n 2, 1) := by decide +kernel
theorem d_Plan_runningData_4 : decode b_Plan_runningData 4 = .ok (.iload_n 2, 1) := by decide +kernel
theorem d_Plan_runningData_5 : decode b_Plan_runningData 5 = .ok (.aload_n 0, 1) := by decide +kernel
theorem d_Plan_runningData_6 : decode b_Plan_runningData 6 = .ok (.getfield 16, 3) := by decide +kernel
theorem d_Plan_runningData_9 : decode b_Plan_runningData 9 = .ok (.if_icmp .ge 33, 3) := by decide +kernel
theorem d_Plan_runningData_12 : decode b_Plan_runningData 12 = .ok (.aload_n 0, 1) := by decide +kernel
theorem d_Plan_runningData_13 : decode b_Plan_runningData 13 = .ok (.getfield 11, 3) := by decide +kernel
theorem d_Plan_runningData_16 : decode b_Plan_runningData 16 = .ok (.iload_n 2, 1) := by decide +kernel
theorem d_Plan_runningData_17 : decode b_Plan_runningData 17 = .ok (.aaload, 1) := by decide +kernel
theorem d_Plan_runningData_18 : decode b_Plan_runningData 18 = .ok (.invokevirtual 67, 3) := by decide +kernel
theorem d_Plan_runningData_21 : decode b_Plan_runningData 21 = .ok (.ifCond .eq 15, 3) := by decide +kernel
theorem d_Plan_runningData_24 : decode b_Plan_runningData 24 = .ok (.iload_n 1, 1) := by decide +kernel
theorem d_Plan_runningData_25 : decode b_Plan_runningData 25 = .ok (.aload_n 0, 1) := by decide +kernel
theorem d_Plan_runningData_26 : decode b_Plan_runningData 26 = .ok (.getfield 11, 3) := by decide +kernel
theorem d_Plan_runningData_29 : decode b_Plan_runningData 29 = .ok (.iload_n 2, 1) := by decide +kernel
theorem d_Plan_runningData_30 : decode b_Plan_runningData 30 = .ok (.aaload, 1) := by decide +kernel
theorem d_Plan_runningData_31 : decode b_Plan_runningData 31 = .ok (.getfield 74, 3) := by decide +kernel
theorem d_Plan_runningData_34 : decode b_Plan_runningData 34 = .ok (.iadd, 1) := by decide +kernel
theorem d_Plan_runningData_35 : decode b_Plan_runningData 35 = .ok (.istore_n 1, 1) := by decide +kernel
theorem d_Plan_runningData_36 : decode b_Plan_runningData 36 = .ok (.iinc 2 1, 3) := by decide +kernel
theorem d_Plan_runningData_39 : decode b_Plan_runningData 39 = .ok (.goto (-35), 3) := by decide +kernel
theorem d_Plan_runningData_42 : decode b_Plan_runningData 42 = .ok (.iload_n 1, 1) := by decide +kernel
theorem d_Plan_runningData_43 : decode b_Plan_runningData 43 = .ok (.ireturn, 1) := by decide +kernel
theorem d_Plan_runningHeat_0 : decode b_Plan_runningHeat 0 = .ok (.iconst 0, 1) := by decide +kernel
theorem d_Plan_runningHeat_1 : decode b_Plan_runningHeat 1 = .ok (.istore_n 1, 1) := by decide +kernel
theorem d_Plan_runningHeat_2 : decode b_Plan_runningHeat 2 = .ok (.iconst 0, 1) := by decide +kernel
theorem d_Plan_runningHeat_3 : decode b_Plan_runningHeat 3 = .ok (.istore_n 2, 1) := by decide +kernel
theorem d_Plan_runningHeat_4 : decode b_Plan_runningHeat 4 = .ok (.iload_n 2, 1) := by decide +kernel
theorem d_Plan_runningHeat_5 : decode b_Plan_runningHeat 5 = .ok (.aload_n 0, 1) := by decide +kernel
theorem d_Plan_runningHeat_6 : decode b_Plan_runningHeat 6 = .ok (.getfield 16, 3) := by decide +kernel
theorem d_Plan_runningHeat_9 : decode b_Plan_runningHeat 9 = .ok (.if_icmp .ge 33, 3) := by decide +kernel
theorem d_Plan_runningHeat_12 : decode b_Plan_runningHeat 12 = .ok (.aload_n 0, 1) := by decide +kernel
theorem d_Plan_runningHeat_13 : decode b_Plan_runningHeat 13 = .ok (.getfield 11, 3) := by decide +kernel
theorem d_Plan_runningHeat_16 : decode b_Plan_runningHeat 16 = .ok (.iload_n 2, 1) := by decide +kernel
theorem d_Plan_runningHeat_17 : decode b_Plan_runningHeat 17 = .ok (.aaload, 1) := by decide +kernel
theorem d_Plan_runningHeat_18 : decode b_Plan_runningHeat 18 = .ok (.invokevirtual 67, 3) := by decide +kernel
theorem d_Plan_runningHeat_21 : decode b_Plan_runningHeat 21 = .ok (.ifCond .eq 15, 3) := by decide +kernel
theorem d_Plan_runningHeat_24 : decode b_Plan_runningHeat 24 = .ok (.iload_n 1, 1) := by decide +kernel
theorem d_Plan_runningHeat_25 : decode b_Plan_runningHeat 25 = .ok (.aload_n 0, 1) := by decide +kernel
theorem d_Plan_runningHeat_26 : decode b_Plan_runningHeat 26 = .ok (.getfield 11, 3) := by decide +kernel
theorem d_Plan_runningHeat_29 : decode b_Plan_runningHeat 29 = .ok (.iload_n 2, 1) := by decide +kernel
theorem d_Plan_runningHeat_30 : decode b_Plan_runningHeat 30 = .ok (.aaload, 1) := by decide +kernel
theorem d_Plan_runningHeat_31 : decode b_Plan_runningHeat 31 = .ok (.getfield 77, 3) := by decide +kernel
theorem d_Plan_runningHeat_34 : decode b_Plan_runningHeat 34 = .ok (.iadd, 1) := by decide +kernel
theorem d_Plan_runningHeat_35 : decode b_Plan_runningHeat 35 = .ok (.istore_n 1, 1) := by decide +kernel
theorem d_Plan_runningHeat_36 : decode b_Plan_runningHeat 36 = .ok (.iinc 2 1, 3) := by decide +kernel
theorem d_Plan_runningHeat_39 : decode b_Plan_runningHeat 39 = .ok (.goto (-35), 3) := by decide +kernel
theorem d_Plan_runningHeat_42 : decode b_Plan_runningHeat 42 = .ok (.iload_n 1, 1) := by decide +kernel
theorem d_Plan_runningHeat_43 : decode b_Plan_runningHeat 43 = .ok (.ireturn, 1) := by decide +kernel
theorem d_Plan_growOlder_0 : decode b_Plan_growOlder 0 = .ok (.iconst 0, 1) := by decide +kernel
theorem d_Plan_growOlder_1 : decode b_Plan_growOlder 1 = .ok (.istore_n 1, 1) := by decide +kernel
theorem d_Plan_growOlder_2 : decode b_Plan_growOlder 2 = .ok (.iload_n 1, 1) := by decide +kernel
theorem d_Plan_growOlder_3 : decode b_Plan_growOlder 3 = .ok (.aload_n 0, 1) := by decide +kernel
theorem d_Plan_growOlder_4 : decode b_Plan_growOlder 4 = .ok (.getfield 16, 3) := by decide +kernel
theorem d_Plan_growOlder_7 : decode b_Plan_growOlder 7 = .ok (.if_icmp .ge 30, 3) := by decide +kernel
theorem d_Plan_growOlder_10 : decode b_Plan_growOlder 10 = .ok (.aload_n 0, 1) := by decide +kernel
theorem d_Plan_growOlder_11 : decode b_Plan_growOlder 11 = .ok (.getfield 11, 3) := by decide +kernel
theorem d_Plan_growOlder_14 : decode b_Plan_growOlder 14 = .ok (.iload_n 1, 1) := by decide +kernel
theorem d_Plan_growOlder_15 : decode b_Plan_growOlder 15 = .ok (.aaload, 1) := by decide +kernel
theorem d_Plan_growOlder_16 : decode b_Plan_growOlder 16 = .ok (.invokevirtual 67, 3) := by decide +kernel
theorem d_Plan_growOlder_19 : decode b_Plan_growOlder 19 = .ok (.ifCond .eq 12, 3) := by decide +kernel
theorem d_Plan_growOlder_22 : decode b_Plan_growOlder 22 = .ok (.aload_n 0, 1) := by decide +kernel
theorem d_Plan_growOlder_23 : decode b_Plan_growOlder 23 = .ok (.getfield 11, 3) := by decide +kernel
theorem d_Plan_growOlder_26 : decode b_Plan_growOlder 26 = .ok (.iload_n 1, 1) := by decide +kernel
theorem d_Plan_growOlder_27 : decode b_Plan_growOlder 27 = .ok (.aaload, 1) := by decide +kernel
theorem d_Plan_growOlder_28 : decode b_Plan_growOlder 28 = .ok (.invokevirtual 80, 3) := by decide +kernel
theorem d_Plan_growOlder_31 : decode b_Plan_growOlder 31 = .ok (.iinc 1 1, 3) := by decide +kernel
theorem d_Plan_growOlder_34 : decode b_Plan_growOlder 34 = .ok (.goto (-32), 3) := by decide +kernel
theorem d_Plan_growOlder_37 : decode b_Plan_growOlder 37 = .ok (.return_, 1) := by decide +kernel
theorem d_Plan_skipHopeless_0 : decode b_Plan_skipHopeless 0 = .ok (.iconst 0, 1) := by decide +kernel
theorem d_Plan_skipHopeless_1 : decode b_Plan_skipHopeless 1 = .ok (.istore_n 2, 1) := by decide +kernel
theorem d_Plan_skipHopeless_2 : decode b_Plan_skipHopeless 2 = .ok (.iload_n 2, 1) := by decide +kernel
theorem d_Plan_skipHopeless_3 : decode b_Plan_skipHopeless 3 = .ok (.aload_n 0, 1) := by decide +kernel
theorem d_Plan_skipHopeless_4 : decode b_Plan_skipHopeless 4 = .ok (.getfield 16, 3) := by decide +kernel
theorem d_Plan_skipHopeless_7 : decode b_Plan_skipHopeless 7 = .ok (.if_icmp .ge 61, 3) := by decide +kernel
theorem d_Plan_skipHopeless_10 : decode b_Plan_skipHopeless 10 = .ok (.iconst 0, 1) := by decide +kernel
theorem d_Plan_skipHopeless_11 : decode b_Plan_skipHopeless 11 = .ok (.istore_n 3, 1) := by decide +kernel
theorem d_Plan_skipHopeless_12 : decode b_Plan_skipHopeless 12 = .ok (.iload_n 3, 1) := by decide +kernel
theorem d_Plan_skipHopeless_13 : decode b_Plan_skipHopeless 13 = .ok (.aload_n 0, 1) := by decide +kernel
theorem d_Plan_skipHopeless_14 : decode b_Plan_skipHopeless 14 = .ok (.getfield 16, 3) := by decide +kernel
theorem d_Plan_skipHopeless_17 : decode b_Plan_skipHopeless 17 = .ok (.if_icmp .ge 45, 3) := by decide +kernel
theorem d_Plan_skipHopeless_20 : decode b_Plan_skipHopeless 20 = .ok (.aload_n 0, 1) := by decide +kernel
theorem d_Plan_skipHopeless_21 : decode b_Plan_skipHopeless 21 = .ok (.getfield 11, 3) := by decide +kernel
theorem d_Plan_skipHopeless_24 : decode b_Plan_skipHopeless 24 = .ok (.iload_n 3, 1) := by decide +kernel
theorem d_Plan_skipHopeless_25 : decode b_Plan_skipHopeless 25 = .ok (.aaload, 1) := by decide +kernel
theorem d_Plan_skipHopeless_26 : decode b_Plan_skipHopeless 26 = .ok (.invokevirtual 83, 3) := by decide +kernel
theorem d_Plan_skipHopeless_29 : decode b_Plan_skipHopeless 29 = .ok (.ifCond .eq 27, 3) := by decide +kernel
theorem d_Plan_skipHopeless_32 : decode b_Plan_skipHopeless 32 = .ok (.aload_n 0, 1) := by decide +kernel
theorem d_Plan_skipHopeless_33 : decode b_Plan_skipHopeless 33 = .ok (.aload_n 0, 1) := by decide +kernel
theorem d_Plan_skipHopeless_34 : decode b_Plan_skipHopeless 34 = .ok (.getfield 11, 3) := by decide +kernel
theorem d_Plan_skipHopeless_37 : decode b_Plan_skipHopeless 37 = .ok (.iload_n 3, 1) := by decide +kernel
theorem d_Plan_skipHopeless_38 : decode b_Plan_skipHopeless 38 = .ok (.aaload, 1) := by decide +kernel
theorem d_Plan_skipHopeless_39 : decode b_Plan_skipHopeless 39 = .ok (.iload_n 1, 1) := by decide +kernel
theorem d_Plan_skipHopeless_40 : decode b_Plan_skipHopeless 40 = .ok (.invokevirtual 86, 3) := by decide +kernel
theorem d_Plan_skipHopeless_43 : decode b_Plan_skipHopeless 43 = .ok (.ifCond .eq 13, 3) := by decide +kernel
theorem d_Plan_skipHopeless_46 : decode b_Plan_skipHopeless 46 = .ok (.aload_n 0, 1) := by decide +kernel
theorem d_Plan_skipHopeless_47 : decode b_Plan_skipHopeless 47 = .ok (.getfield 11, 3) := by decide +kernel
theorem d_Plan_skipHopeless_50 : decode b_Plan_skipHopeless 50 = .ok (.iload_n 3, 1) := by decide +kernel
theorem d_Plan_skipHopeless_51 : decode b_Plan_skipHopeless 51 = .ok (.aaload, 1) := by decide +kernel
theorem d_Plan_skipHopeless_52 : decode b_Plan_skipHopeless 52 = .ok (.iconst 4, 1) := by decide +kernel
theorem d_Plan_skipHopeless_53 : decode b_Plan_skipHopeless 53 = .ok (.putfield 90, 3) := by decide +kernel
theorem d_Plan_skipHopeless_56 : decode b_Plan_skipHopeless 56 = .ok (.iinc 3 1, 3) := by decide +kernel
theorem d_Plan_skipHopeless_59 : decode b_Plan_skipHopeless 59 = .ok (.goto (-47), 3) := by decide +kernel
theorem d_Plan_skipHopeless_62 : decode b_Plan_skipHopeless 62 = .ok (.iinc 2 1, 3) := by decide +kernel
theorem d_Plan_skipHopeless_65 : decode b_Plan_skipHopeless 65 = .ok (.goto (-63), 3) := by decide +kernel
theorem d_Plan_skipHopeless_68 : decode b_Plan_skipHopeless 68 = .ok (.return_, 1) := by decide +kernel
theorem d_Plan_isHopeless_0 : decode b_Plan_isHopeless 0 = .ok (.iload_n 2, 1) := by decide +kernel
theorem d_Plan_isHopeless_1 : decode b_Plan_isHopeless 1 = .ok (.aload_n 1, 1) := by decide +kernel
theorem d_Plan_isHopeless_2 : decode b_Plan_isHopeless 2 = .ok (.getfield 36, 3) := by decide +kernel
theorem d_Plan_isHopeless_5 : decode b_Plan_isHopeless 5 = .ok (.if_icmp .le 5, 3) := by decide +kernel
theorem d_Plan_isHopeless_8 : decode b_Plan_isHopeless 8 = .ok (.iconst 1, 1) := by decide +kernel
theorem d_Plan_isHopeless_9 : decode b_Plan_isHopeless 9 = .ok (.ireturn, 1) := by decide +kernel
theorem d_Plan_isHopeless_10 : decode b_Plan_isHopeless 10 = .ok (.iconst 0, 1) := by decide +kernel
theorem d_Plan_isHopeless_11 : decode b_Plan_isHopeless 11 = .ok (.istore_n 3, 1) := by decide +kernel
end
section
theorem d_Plan_isHopeless_12 : decode b_Plan_isHopeless 12 = .ok (.iload_n 3, 1) := by decide +kernel
theorem d_Plan_isHopeless_13 : decode b_Plan_isHopeless 13 = .ok (.aload_n 0, 1) := by decide +kernel
theorem d_Plan_isHopeless_14 : decode b_Plan_isHopeless 14 = .ok (.getfield 16, 3) := by decide +kernel
theorem d_Plan_isHopeless_17 : decode b_Plan_isHopeless 17 = .ok (.if_icmp .ge 51, 3) := by decide +kernel
theorem d_Plan_isHopeless_20 : decode b_Plan_isHopeless 20 = .ok (.aload_n 1, 1) := by decide +kernel
theorem d_Plan_isHopeless_21 : decode b_Plan_isHopeless 21 = .ok (.iload_n 3, 1) := by decide +kernel
theorem d_Plan_isHopeless_22 : decode b_Plan_isHopeless 22 = .ok (.invokevirtual 58, 3) := by decide +kernel
theorem d_Plan_isHopeless_25 : decode b_Plan_isHopeless 25 = .ok (.ifCond .eq 15, 3) := by decide +kernel
theorem d_Plan_isHopeless_28 : decode b_Plan_isHopeless 28 = .ok (.aload_n 0, 1) := by decide +kernel
theorem d_Plan_isHopeless_29 : decode b_Plan_isHopeless 29 = .ok (.getfield 11, 3) := by decide +kernel
theorem d_Plan_isHopeless_32 : decode b_Plan_isHopeless 32 = .ok (.iload_n 3, 1) := by decide +kernel
theorem d_Plan_isHopeless_33 : decode b_Plan_isHopeless 33 = .ok (.aaload, 1) := by decide +kernel
theorem d_Plan_isHopeless_34 : decode b_Plan_isHopeless 34 = .ok (.invokevirtual 93, 3) := by decide +kernel
theorem d_Plan_isHopeless_37 : decode b_Plan_isHopeless 37 = .ok (.ifCond .ne 23, 3) := by decide +kernel
theorem d_Plan_isHopeless_40 : decode b_Plan_isHopeless 40 = .ok (.aload_n 1, 1) := by decide +kernel
theorem d_Plan_isHopeless_41 : decode b_Plan_isHopeless 41 = .ok (.iload_n 3, 1) := by decide +kernel
theorem d_Plan_isHopeless_42 : decode b_Plan_isHopeless 42 = .ok (.invokevirtual 96, 3) := by decide +kernel
theorem d_Plan_isHopeless_45 : decode b_Plan_isHopeless 45 = .ok (.ifCond .eq 17, 3) := by decide +kernel
theorem d_Plan_isHopeless_48 : decode b_Plan_isHopeless 48 = .ok (.aload_n 0, 1) := by decide +kernel
theorem d_Plan_isHopeless_49 : decode b_Plan_isHopeless 49 = .ok (.getfield 11, 3) := by decide +kernel
theorem d_Plan_isHopeless_52 : decode b_Plan_isHopeless 52 = .ok (.iload_n 3, 1) := by decide +kernel
theorem d_Plan_isHopeless_53 : decode b_Plan_isHopeless 53 = .ok (.aaload, 1) := by decide +kernel
theorem d_Plan_isHopeless_54 : decode b_Plan_isHopeless 54 = .ok (.invokevirtual 99, 3) := by decide +kernel
theorem d_Plan_isHopeless_57 : decode b_Plan_isHopeless 57 = .ok (.ifCond .eq 5, 3) := by decide +kernel
theorem d_Plan_isHopeless_60 : decode b_Plan_isHopeless 60 = .ok (.iconst 1, 1) := by decide +kernel
theorem d_Plan_isHopeless_61 : decode b_Plan_isHopeless 61 = .ok (.ireturn, 1) := by decide +kernel
theorem d_Plan_isHopeless_62 : decode b_Plan_isHopeless 62 = .ok (.iinc 3 1, 3) := by decide +kernel
theorem d_Plan_isHopeless_65 : decode b_Plan_isHopeless 65 = .ok (.goto (-53), 3) := by decide +kernel
theorem d_Plan_isHopeless_68 : decode b_Plan_isHopeless 68 = .ok (.iconst 0, 1) := by decide +kernel
theorem d_Plan_isHopeless_69 : decode b_Plan_isHopeless 69 = .ok (.ireturn, 1) := by decide +kernel
theorem d_Plan_isReady_0 : decode b_Plan_isReady 0 = .ok (.aload_n 0, 1) := by decide +kernel
theorem d_Plan_isReady_1 : decode b_Plan_isReady 1 = .ok (.getfield 11, 3) := by decide +kernel
theorem d_Plan_isReady_4 : decode b_Plan_isReady 4 = .ok (.iload_n 1, 1) := by decide +kernel
theorem d_Plan_isReady_5 : decode b_Plan_isReady 5 = .ok (.aaload, 1) := by decide +kernel
theorem d_Plan_isReady_6 : decode b_Plan_isReady 6 = .ok (.astore_n 2, 1) := by decide +kernel
theorem d_Plan_isReady_7 : decode b_Plan_isReady 7 = .ok (.aload_n 2, 1) := by decide +kernel
theorem d_Plan_isReady_8 : decode b_Plan_isReady 8 = .ok (.invokevirtual 83, 3) := by decide +kernel
theorem d_Plan_isReady_11 : decode b_Plan_isReady 11 = .ok (.ifCond .ne 5, 3) := by decide +kernel
theorem d_Plan_isReady_14 : decode b_Plan_isReady 14 = .ok (.iconst 0, 1) := by decide +kernel
theorem d_Plan_isReady_15 : decode b_Plan_isReady 15 = .ok (.ireturn, 1) := by decide +kernel
theorem d_Plan_isReady_16 : decode b_Plan_isReady 16 = .ok (.iconst 0, 1) := by decide +kernel
theorem d_Plan_isReady_17 : decode b_Plan_isReady 17 = .ok (.istore_n 3, 1) := by decide +kernel
theorem d_Plan_isReady_18 : decode b_Plan_isReady 18 = .ok (.iload_n 3, 1) := by decide +kernel
theorem d_Plan_isReady_19 : decode b_Plan_isReady 19 = .ok (.aload_n 0, 1) := by decide +kernel
theorem d_Plan_isReady_20 : decode b_Plan_isReady 20 = .ok (.getfield 16, 3) := by decide +kernel
theorem d_Plan_isReady_23 : decode b_Plan_isReady 23 = .ok (.if_icmp .ge 51, 3) := by decide +kernel
theorem d_Plan_isReady_26 : decode b_Plan_isReady 26 = .ok (.aload_n 2, 1) := by decide +kernel
theorem d_Plan_isReady_27 : decode b_Plan_isReady 27 = .ok (.iload_n 3, 1) := by decide +kernel
theorem d_Plan_isReady_28 : decode b_Plan_isReady 28 = .ok (.invokevirtual 58, 3) := by decide +kernel
theorem d_Plan_isReady_31 : decode b_Plan_isReady 31 = .ok (.ifCond .eq 15, 3) := by decide +kernel
theorem d_Plan_isReady_34 : decode b_Plan_isReady 34 = .ok (.aload_n 0, 1) := by decide +kernel
theorem d_Plan_isReady_35 : decode b_Plan_isReady 35 = .ok (.getfield 11, 3) := by decide +kernel
theorem d_Plan_isReady_38 : decode b_Plan_isReady 38 = .ok (.iload_n 3, 1) := by decide +kernel
theorem d_Plan_isReady_39 : decode b_Plan_isReady 39 = .ok (.aaload, 1) := by decide +kernel
theorem d_Plan_isReady_40 : decode b_Plan_isReady 40 = .ok (.invokevirtual 99, 3) := by decide +kernel
theorem d_Plan_isReady_43 : decode b_Plan_isReady 43 = .ok (.ifCond .eq 23, 3) := by decide +kernel
theorem d_Plan_isReady_46 : decode b_Plan_isReady 46 = .ok (.aload_n 2, 1) := by decide +kernel
theorem d_Plan_isReady_47 : decode b_Plan_isReady 47 = .ok (.iload_n 3, 1) := by decide +kernel
theorem d_Plan_isReady_48 : decode b_Plan_isReady 48 = .ok (.invokevirtual 96, 3) := by decide +kernel
theorem d_Plan_isReady_51 : decode b_Plan_isReady 51 = .ok (.ifCond .eq 17, 3) := by decide +kernel
theorem d_Plan_isReady_54 : decode b_Plan_isReady 54 = .ok (.aload_n 0, 1) := by decide +kernel
theorem d_Plan_isReady_55 : decode b_Plan_isReady 55 = .ok (.getfield 11, 3) := by decide +kernel
theorem d_Plan_isReady_58 : decode b_Plan_isReady 58 = .ok (.iload_n 3, 1) := by decide +kernel
theorem d_Plan_isReady_59 : decode b_Plan_isReady 59 = .ok (.aaload, 1) := by decide +kernel
theorem d_Plan_isReady_60 : decode b_Plan_isReady 60 = .ok (.invokevirtual 93, 3) := by decide +kernel
theorem d_Plan_isReady_63 : decode b_Plan_isReady 63 = .ok (.ifCond .ne 5, 3) := by decide +kernel
theorem d_Plan_isReady_66 : decode b_Plan_isReady 66 = .ok (.iconst 0, 1) := by decide +kernel
theorem d_Plan_isReady_67 : decode b_Plan_isReady 67 = .ok (.ireturn, 1) := by decide +kernel
theorem d_Plan_isReady_68 : decode b_Plan_isReady 68 = .ok (.iinc 3 1, 3) := by decide +kernel
theorem d_Plan_isReady_71 : decode b_Plan_isReady 71 = .ok (.goto (-53), 3) := by decide +kernel
theorem d_Plan_isReady_74 : decode b_Plan_isReady 74 = .ok (.iconst 1, 1) := by decide +kernel
theorem d_Plan_isReady_75 : decode b_Plan_isReady 75 = .ok (.ireturn, 1) := by decide +kernel
theorem d_Plan_giveUp_0 : decode b_Plan_giveUp 0 = .ok (.iconst 0, 1) := by decide +kernel
theorem d_Plan_giveUp_1 : decode b_Plan_giveUp 1 = .ok (.istore_n 1, 1) := by decide +kernel
theorem d_Plan_giveUp_2 : decode b_Plan_giveUp 2 = .ok (.iload_n 1, 1) := by decide +kernel
theorem d_Plan_giveUp_3 : decode b_Plan_giveUp 3 = .ok (.aload_n 0, 1) := by decide +kernel
theorem d_Plan_giveUp_4 : decode b_Plan_giveUp 4 = .ok (.getfield 16, 3) := by decide +kernel
theorem d_Plan_giveUp_7 : decode b_Plan_giveUp 7 = .ok (.if_icmp .ge 56, 3) := by decide +kernel
theorem d_Plan_giveUp_10 : decode b_Plan_giveUp 10 = .ok (.aload_n 0, 1) := by decide +kernel
theorem d_Plan_giveUp_11 : decode b_Plan_giveUp 11 = .ok (.getfield 11, 3) := by decide +kernel
theorem d_Plan_giveUp_14 : decode b_Plan_giveUp 14 = .ok (.iload_n 1, 1) := by decide +kernel
theorem d_Plan_giveUp_15 : decode b_Plan_giveUp 15 = .ok (.aaload, 1) := by decide +kernel
theorem d_Plan_giveUp_16 : decode b_Plan_giveUp 16 = .ok (.invokevirtual 67, 3) := by decide +kernel
theorem d_Plan_giveUp_19 : decode b_Plan_giveUp 19 = .ok (.ifCond .eq 16, 3) := by decide +kernel
theorem d_Plan_giveUp_22 : decode b_Plan_giveUp 22 = .ok (.aload_n 0, 1) := by decide +kernel
theorem d_Plan_giveUp_23 : decode b_Plan_giveUp 23 = .ok (.getfield 11, 3) := by decide +kernel
theorem d_Plan_giveUp_26 : decode b_Plan_giveUp 26 = .ok (.iload_n 1, 1) := by decide +kernel
theorem d_Plan_giveUp_27 : decode b_Plan_giveUp 27 = .ok (.aaload, 1) := by decide +kernel
theorem d_Plan_giveUp_28 : decode b_Plan_giveUp 28 = .ok (.iconst 3, 1) := by decide +kernel
theorem d_Plan_giveUp_29 : decode b_Plan_giveUp 29 = .ok (.putfield 90, 3) := by decide +kernel
theorem d_Plan_giveUp_32 : decode b_Plan_giveUp 32 = .ok (.goto 25, 3) := by decide +kernel
theorem d_Plan_giveUp_35 : decode b_Plan_giveUp 35 = .ok (.aload_n 0, 1) := by decide +kernel
theorem d_Plan_giveUp_36 : decode b_Plan_giveUp 36 = .ok (.getfield 11, 3) := by decide +kernel
theorem d_Plan_giveUp_39 : decode b_Plan_giveUp 39 = .ok (.iload_n 1, 1) := by decide +kernel
theorem d_Plan_giveUp_40 : decode b_Plan_giveUp 40 = .ok (.aaload, 1) := by decide +kernel
theorem d_Plan_giveUp_41 : decode b_Plan_giveUp 41 = .ok (.invokevirtual 83, 3) := by decide +kernel
theorem d_Plan_giveUp_44 : decode b_Plan_giveUp 44 = .ok (.ifCond .eq 13, 3) := by decide +kernel
theorem d_Plan_giveUp_47 : decode b_Plan_giveUp 47 = .ok (.aload_n 0, 1) := by decide +kernel
theorem d_Plan_giveUp_48 : decode b_Plan_giveUp 48 = .ok (.getfield 11, 3) := by decide +kernel
theorem d_Plan_giveUp_51 : decode b_Plan_giveUp 51 = .ok (.iload_n 1, 1) := by decide +kernel
theorem d_Plan_giveUp_52 : decode b_Plan_giveUp 52 = .ok (.aaload, 1) := by decide +kernel
theorem d_Plan_giveUp_53 : decode b_Plan_giveUp 53 = .ok (.iconst 4, 1) := by decide +kernel
theorem d_Plan_giveUp_54 : decode b_Plan_giveUp 54 = .ok (.putfield 90, 3) := by decide +kernel
theorem d_Plan_giveUp_57 : decode b_Plan_giveUp 57 = .ok (.iinc 1 1, 3) := by decide +kernel
theorem d_Plan_giveUp_60 : decode b_Plan_giveUp 60 = .ok (.goto (-58), 3) := by decide +kernel
theorem d_Plan_giveUp_63 : decode b_Plan_giveUp 63 = .ok (.return_, 1) := by decide +kernel
theorem d_Plan_isOver_0 : decode b_Plan_isOver 0 = .ok (.iconst 0, 1) := by decide +kernel
theorem d_Plan_isOver_1 : decode b_Plan_isOver 1 = .ok (.istore_n 1, 1) := by decide +kernel
theorem d_Plan_isOver_2 : decode b_Plan_isOver 2 = .ok (.iload_n 1, 1) := by decide +kernel
theorem d_Plan_isOver_3 : decode b_Plan_isOver 3 = .ok (.aload_n 0, 1) := by decide +kernel
theorem d_Plan_isOver_4 : decode b_Plan_isOver 4 = .ok (.getfield 16, 3) := by decide +kernel
theorem d_Plan_isOver_7 : decode b_Plan_isOver 7 = .ok (.if_icmp .ge 35, 3) := by decide +kernel
theorem d_Plan_isOver_10 : decode b_Plan_isOver 10 = .ok (.aload_n 0, 1) := by decide +kernel
theorem d_Plan_isOver_11 : decode b_Plan_isOver 11 = .ok (.getfield 11, 3) := by decide +kernel
theorem d_Plan_isOver_14 : decode b_Plan_isOver 14 = .ok (.iload_n 1, 1) := by decide +kernel
theorem d_Plan_isOver_15 : decode b_Plan_isOver 15 = .ok (.aaload, 1) := by decide +kernel
theorem d_Plan_isOver_16 : decode b_Plan_isOver 16 = .ok (.invokevirtual 67, 3) := by decide +kernel
theorem d_Plan_isOver_19 : decode b_Plan_isOver 19 = .ok (.ifCond .ne 15, 3) := by decide +kernel
theorem d_Plan_isOver_22 : decode b_Plan_isOver 22 = .ok (.aload_n 0, 1) := by decide +kernel
theorem d_Plan_isOver_23 : decode b_Plan_isOver 23 = .ok (.getfield 11, 3) := by decide +kernel
theorem d_Plan_isOver_26 : decode b_Plan_isOver 26 = .ok (.iload_n 1, 1) := by decide +kernel
theorem d_Plan_isOver_27 : decode b_Plan_isOver 27 = .ok (.aaload, 1) := by decide +kernel
theorem d_Plan_isOver_28 : decode b_Plan_isOver 28 = .ok (.invokevirtual 83, 3) := by decide +kernel
theorem d_Plan_isOver_31 : decode b_Plan_isOver 31 = .ok (.ifCond .eq 5, 3) := by decide +kernel
theorem d_Plan_isOver_34 : decode b_Plan_isOver 34 = .ok (.iconst 0, 1) := by decide +kernel
theorem d_Plan_isOver_35 : decode b_Plan_isOver 35 = .ok (.ireturn, 1) := by decide +kernel
theorem d_Plan_isOver_36 : decode b_Plan_isOver 36 = .ok (.iinc 1 1, 3) := by decide +kernel
theorem d_Plan_isOver_39 : decode b_Plan_isOver 39 = .ok (.goto (-37), 3) := by decide +kernel
theorem d_Plan_isOver_42 : decode b_Plan_isOver 42 = .ok (.iconst 1, 1) := by decide +kernel
theorem d_Plan_isOver_43 : decode b_Plan_isOver 43 = .ok (.ireturn, 1) := by decide +kernel
end
section
theorem d_PlanReader_init_0 : decode b_PlanReader_init 0 = .ok (.aload_n 0, 1) := by decide +kernel
theorem d_PlanReader_init_1 : decode b_PlanReader_init 1 = .ok (.invokespecial 3, 3) := by decide +kernel
theorem d_PlanReader_init_4 : decode b_PlanReader_init 4 = .ok (.aload_n 0, 1) := by decide +kernel
theorem d_PlanReader_init_5 : decode b_PlanReader_init 5 = .ok (.aload_n 1, 1) := by decide +kernel
theorem d_PlanReader_init_6 : decode b_PlanReader_init 6 = .ok (.putfield 9, 3) := by decide +kernel
theorem d_PlanReader_init_9 : decode b_PlanReader_init 9 = .ok (.return_, 1) := by decide +kernel
theorem d_PlanReader_read_0 : decode b_PlanReader_read 0 = .ok (.aload_n 0, 1) := by decide +kernel
theorem d_PlanReader_read_1 : decode b_PlanReader_read 1 = .ok (.iconst 0, 1) := by decide +kernel
theorem d_PlanReader_read_2 : decode b_PlanReader_read 2 = .ok (.putfield 15, 3) := by decide +kernel
theorem d_PlanReader_read_5 : decode b_PlanReader_read 5 = .ok (.iconst 0, 1) := by decide +kernel
theorem d_PlanReader_read_6 : decode b_PlanReader_read 6 = .ok (.istore_n 2, 1) := by decide +kernel
theorem d_PlanReader_read_7 : decode b_PlanReader_read 7 = .ok (.iload_n 2, 1) := by decide +kernel
theorem d_PlanReader_read_8 : decode b_PlanReader_read 8 = .ok (.bipush 8, 2) := by decide +kernel
theorem d_PlanReader_read_10 : decode b_PlanReader_read 10 = .ok (.if_icmp .ge 84, 3) := by decide +kernel
theorem d_PlanReader_read_13 : decode b_PlanReader_read 13 = .ok (.aload_n 1, 1) := by decide +kernel
theorem d_PlanReader_read_14 : decode b_PlanReader_read 14 = .ok (.getfield 21, 3) := by decide +kernel
theorem d_PlanReader_read_17 : decode b_PlanReader_read 17 = .ok (.iload_n 2, 1) := by decide +kernel
theorem d_PlanReader_read_18 : decode b_PlanReader_read 18 = .ok (.aaload, 1) := by decide +kernel
theorem d_PlanReader_read_19 : decode b_PlanReader_read 19 = .ok (.astore_n 3, 1) := by decide +kernel
theorem d_PlanReader_read_20 : decode b_PlanReader_read 20 = .ok (.aload_n 3, 1) := by decide +kernel
theorem d_PlanReader_read_21 : decode b_PlanReader_read 21 = .ok (.invokevirtual 25, 3) := by decide +kernel
theorem d_PlanReader_read_24 : decode b_PlanReader_read 24 = .ok (.iload_n 2, 1) := by decide +kernel
theorem d_PlanReader_read_25 : decode b_PlanReader_read 25 = .ok (.ifCond .le 12, 3) := by decide +kernel
theorem d_PlanReader_read_28 : decode b_PlanReader_read 28 = .ok (.aload_n 0, 1) := by decide +kernel
theorem d_PlanReader_read_29 : decode b_PlanReader_read 29 = .ok (.bipush 59, 2) := by decide +kernel
theorem d_PlanReader_read_31 : decode b_PlanReader_read 31 = .ok (.invokevirtual 30, 3) := by decide +kernel
theorem d_PlanReader_read_34 : decode b_PlanReader_read 34 = .ok (.ifCond .eq 24, 3) := by decide +kernel
theorem d_PlanReader_read_37 : decode b_PlanReader_read 37 = .ok (.aload_n 0, 1) := by decide +kernel
theorem d_PlanReader_read_38 : decode b_PlanReader_read 38 = .ok (.aload_n 3, 1) := by decide +kernel
theorem d_PlanReader_read_39 : decode b_PlanReader_read 39 = .ok (.bipush 97, 2) := by decide +kernel
theorem d_PlanReader_read_41 : decode b_PlanReader_read 41 = .ok (.iload_n 2, 1) := by decide +kernel
theorem d_PlanReader_read_42 : decode b_PlanReader_read 42 = .ok (.iadd, 1) := by decide +kernel
theorem d_PlanReader_read_43 : decode b_PlanReader_read 43 = .ok (.i2c, 1) := by decide +kernel
theorem d_PlanReader_read_44 : decode b_PlanReader_read 44 = .ok (.invokevirtual 34, 3) := by decide +kernel
theorem d_PlanReader_read_47 : decode b_PlanReader_read 47 = .ok (.ifCond .eq 11, 3) := by decide +kernel
theorem d_PlanReader_read_50 : decode b_PlanReader_read 50 = .ok (.aload_n 0, 1) := by decide +kernel
theorem d_PlanReader_read_51 : decode b_PlanReader_read 51 = .ok (.aload_n 3, 1) := by decide +kernel
theorem d_PlanReader_read_52 : decode b_PlanReader_read 52 = .ok (.invokevirtual 38, 3) := by decide +kernel
theorem d_PlanReader_read_55 : decode b_PlanReader_read 55 = .ok (.ifCond .ne 10, 3) := by decide +kernel
theorem d_PlanReader_read_58 : decode b_PlanReader_read 58 = .ok (.aload_n 0, 1) := by decide +kernel
theorem d_PlanReader_read_59 : decode b_PlanReader_read 59 = .ok (.getfield 15, 3) := by decide +kernel
theorem d_PlanReader_read_62 : decode b_PlanReader_read 62 = .ok (.iconst 1, 1) := by decide +kernel
theorem d_PlanReader_read_63 : decode b_PlanReader_read 63 = .ok (.iadd, 1) := by decide +kernel
theorem d_PlanReader_read_64 : decode b_PlanReader_read 64 = .ok (.ireturn, 1) := by decide +kernel
theorem d_PlanReader_read_65 : decode b_PlanReader_read 65 = .ok (.aload_n 1, 1) := by decide +kernel
theorem d_PlanReader_read_66 : decode b_PlanReader_read 66 = .ok (.iload_n 2, 1) := by decide +kernel
theorem d_PlanReader_read_67 : decode b_PlanReader_read 67 = .ok (.iconst 1, 1) := by decide +kernel
theorem d_PlanReader_read_68 : decode b_PlanReader_read 68 = .ok (.iadd, 1) := by decide +kernel
theorem d_PlanReader_read_69 : decode b_PlanReader_read 69 = .ok (.putfield 42, 3) := by decide +kernel
theorem d_PlanReader_read_72 : decode b_PlanReader_read 72 = .ok (.aload_n 0, 1) := by decide +kernel
theorem d_PlanReader_read_73 : decode b_PlanReader_read 73 = .ok (.getfield 15, 3) := by decide +kernel
theorem d_PlanReader_read_76 : decode b_PlanReader_read 76 = .ok (.aload_n 0, 1) := by decide +kernel
theorem d_PlanReader_read_77 : decode b_PlanReader_read 77 = .ok (.getfield 9, 3) := by decide +kernel
theorem d_PlanReader_read_80 : decode b_PlanReader_read 80 = .ok (.getfield 45, 3) := by decide +kernel
theorem d_PlanReader_read_83 : decode b_PlanReader_read 83 = .ok (.if_icmp .ne 5, 3) := by decide +kernel
theorem d_PlanReader_read_86 : decode b_PlanReader_read 86 = .ok (.iconst 0, 1) := by decide +kernel
theorem d_PlanReader_read_87 : decode b_PlanReader_read 87 = .ok (.ireturn, 1) := by decide +kernel
theorem d_PlanReader_read_88 : decode b_PlanReader_read 88 = .ok (.iinc 2 1, 3) := by decide +kernel
theorem d_PlanReader_read_91 : decode b_PlanReader_read 91 = .ok (.goto (-84), 3) := by decide +kernel
theorem d_PlanReader_read_94 : decode b_PlanReader_read 94 = .ok (.aload_n 0, 1) := by decide +kernel
theorem d_PlanReader_read_95 : decode b_PlanReader_read 95 = .ok (.getfield 15, 3) := by decide +kernel
theorem d_PlanReader_read_98 : decode b_PlanReader_read 98 = .ok (.iconst 1, 1) := by decide +kernel
theorem d_PlanReader_read_99 : decode b_PlanReader_read 99 = .ok (.iadd, 1) := by decide +kernel
theorem d_PlanReader_read_100 : decode b_PlanReader_read 100 = .ok (.ireturn, 1) := by decide +kernel
theorem d_PlanReader_readTimes_0 : decode b_PlanReader_readTimes 0 = .ok (.aload_n 0, 1) := by decide +kernel
theorem d_PlanReader_readTimes_1 : decode b_PlanReader_readTimes 1 = .ok (.iload_n 2, 1) := by decide +kernel
theorem d_PlanReader_readTimes_2 : decode b_PlanReader_readTimes 2 = .ok (.invokevirtual 30, 3) := by decide +kernel
theorem d_PlanReader_readTimes_5 : decode b_PlanReader_readTimes 5 = .ok (.ifCond .ne 5, 3) := by decide +kernel
theorem d_PlanReader_readTimes_8 : decode b_PlanReader_readTimes 8 = .ok (.iconst 0, 1) := by decide +kernel
theorem d_PlanReader_readTimes_9 : decode b_PlanReader_readTimes 9 = .ok (.ireturn, 1) := by decide +kernel
theorem d_PlanReader_readTimes_10 : decode b_PlanReader_readTimes 10 = .ok (.aload_n 1, 1) := by decide +kernel
theorem d_PlanReader_readTimes_11 : decode b_PlanReader_readTimes 11 = .ok (.aload_n 0, 1) := by decide +kernel
theorem d_PlanReader_readTimes_12 : decode b_PlanReader_readTimes 12 = .ok (.invokevirtual 50, 3) := by decide +kernel
theorem d_PlanReader_readTimes_15 : decode b_PlanReader_readTimes 15 = .ok (.putfield 54, 3) := by decide +kernel
theorem d_PlanReader_readTimes_18 : decode b_PlanReader_readTimes 18 = .ok (.aload_n 1, 1) := by decide +kernel
theorem d_PlanReader_readTimes_19 : decode b_PlanReader_readTimes 19 = .ok (.getfield 54, 3) := by decide +kernel
theorem d_PlanReader_readTimes_22 : decode b_PlanReader_readTimes 22 = .ok (.iconst (-1), 1) := by decide +kernel
theorem d_PlanReader_readTimes_23 : decode b_PlanReader_readTimes 23 = .ok (.if_icmp .eq 12, 3) := by decide +kernel
theorem d_PlanReader_readTimes_26 : decode b_PlanReader_readTimes 26 = .ok (.aload_n 0, 1) := by decide +kernel
theorem d_PlanReader_readTimes_27 : decode b_PlanReader_readTimes 27 = .ok (.bipush 45, 2) := by decide +kernel
theorem d_PlanReader_readTimes_29 : decode b_PlanReader_readTimes 29 = .ok (.invokevirtual 30, 3) := by decide +kernel
theorem d_PlanReader_readTimes_32 : decode b_PlanReader_readTimes 32 = .ok (.ifCond .ne 5, 3) := by decide +kernel
theorem d_PlanReader_readTimes_35 : decode b_PlanReader_readTimes 35 = .ok (.iconst 0, 1) := by decide +kernel
theorem d_PlanReader_readTimes_36 : decode b_PlanReader_readTimes 36 = .ok (.ireturn, 1) := by decide +kernel
theorem d_PlanReader_readTimes_37 : decode b_PlanReader_readTimes 37 = .ok (.aload_n 1, 1) := by decide +kernel
theorem d_PlanReader_readTimes_38 : decode b_PlanReader_readTimes 38 = .ok (.aload_n 0, 1) := by decide +kernel
theorem d_PlanReader_readTimes_39 : decode b_PlanReader_readTimes 39 = .ok (.invokevirtual 50, 3) := by decide +kernel
theorem d_PlanReader_readTimes_42 : decode b_PlanReader_readTimes 42 = .ok (.putfield 57, 3) := by decide +kernel
theorem d_PlanReader_readTimes_45 : decode b_PlanReader_readTimes 45 = .ok (.aload_n 1, 1) := by decide +kernel
theorem d_PlanReader_readTimes_46 : decode b_PlanReader_readTimes 46 = .ok (.getfield 57, 3) := by decide +kernel
theorem d_PlanReader_readTimes_49 : decode b_PlanReader_readTimes 49 = .ok (.iconst (-1), 1) := by decide +kernel
theorem d_PlanReader_readTimes_50 : decode b_PlanReader_readTimes 50 = .ok (.if_icmp .eq 7, 3) := by decide +kernel
theorem d_PlanReader_readTimes_53 : decode b_PlanReader_readTimes 53 = .ok (.iconst 1, 1) := by decide +kernel
theorem d_PlanReader_readTimes_54 : decode b_PlanReader_readTimes 54 = .ok (.goto 4, 3) := by decide +kernel
theorem d_PlanReader_readTimes_57 : decode b_PlanReader_readTimes 57 = .ok (.iconst 0, 1) := by decide +kernel
theorem d_PlanReader_readTimes_58 : decode b_PlanReader_readTimes 58 = .ok (.ireturn, 1) := by decide +kernel
theorem d_PlanReader_readOptions_0 : decode b_PlanReader_readOptions 0 = .ok (.iconst 0, 1) := by decide +kernel
theorem d_PlanReader_readOptions_1 : decode b_PlanReader_readOptions 1 = .ok (.istore_n 2, 1) := by decide +kernel
theorem d_PlanReader_readOptions_2 : decode b_PlanReader_readOptions 2 = .ok (.iconst 0, 1) := by decide +kernel
theorem d_PlanReader_readOptions_3 : decode b_PlanReader_readOptions 3 = .ok (.istore_n 3, 1) := by decide +kernel
theorem d_PlanReader_readOptions_4 : decode b_PlanReader_readOptions 4 = .ok (.iload_n 3, 1) := by decide +kernel
theorem d_PlanReader_readOptions_5 : decode b_PlanReader_readOptions 5 = .ok (.bipush 64, 2) := by decide +kernel
theorem d_PlanReader_readOptions_7 : decode b_PlanReader_readOptions 7 = .ok (.if_icmp .ge 129, 3) := by decide +kernel
theorem d_PlanReader_readOptions_10 : decode b_PlanReader_readOptions 10 = .ok (.aload_n 0, 1) := by decide +kernel
theorem d_PlanReader_readOptions_11 : decode b_PlanReader_readOptions 11 = .ok (.getfield 15, 3) := by decide +kernel
theorem d_PlanReader_readOptions_14 : decode b_PlanReader_readOptions 14 = .ok (.aload_n 0, 1) := by decide +kernel
theorem d_PlanReader_readOptions_15 : decode b_PlanReader_readOptions 15 = .ok (.getfield 9, 3) := by decide +kernel
theorem d_PlanReader_readOptions_18 : decode b_PlanReader_readOptions 18 = .ok (.getfield 45, 3) := by decide +kernel
theorem d_PlanReader_readOptions_21 : decode b_PlanReader_readOptions 21 = .ok (.if_icmp .ge 115, 3) := by decide +kernel
theorem d_PlanReader_readOptions_24 : decode b_PlanReader_readOptions 24 = .ok (.aload_n 0, 1) := by decide +kernel
theorem d_PlanReader_readOptions_25 : decode b_PlanReader_readOptions 25 = .ok (.getfield 9, 3) := by decide +kernel
theorem d_PlanReader_readOptions_28 : decode b_PlanReader_readOptions 28 = .ok (.getfield 60, 3) := by decide +kernel
theorem d_PlanReader_readOptions_31 : decode b_PlanReader_readOptions 31 = .ok (.aload_n 0, 1) := by decide +kernel
theorem d_PlanReader_readOptions_32 : decode b_PlanReader_readOptions 32 = .ok (.getfield 15, 3) := by decide +kernel
theorem d_PlanReader_readOptions_35 : decode b_PlanReader_readOptions 35 = .ok (.caload, 1) := by decide +kernel
theorem d_PlanReader_readOptions_36 : decode b_PlanReader_readOptions 36 = .ok (.istore 4, 2) := by decide +kernel
theorem d_PlanReader_readOptions_38 : decode b_PlanReader_readOptions 38 = .ok (.ldc 64, 2) := by decide +kernel
theorem d_PlanReader_readOptions_40 : decode b_PlanReader_readOptions 40 = .ok (.iload 4, 2) := by decide +kernel
theorem d_PlanReader_readOptions_42 : decode b_PlanReader_readOptions 42 = .ok (.invokevirtual 66, 3) := by decide +kernel
theorem d_PlanReader_readOptions_45 : decode b_PlanReader_readOptions 45 = .ok (.istore 5, 2) := by decide +kernel
theorem d_PlanReader_readOptions_47 : decode b_PlanReader_readOptions 47 = .ok (.iload 5, 2) := by decide +kernel
theorem d_PlanReader_readOptions_49 : decode b_PlanReader_readOptions 49 = .ok (.ifCond .lt 43, 3) := by decide +kernel
theorem d_PlanReader_readOptions_52 : decode b_PlanReader_readOptions 52 = .ok (.iload_n 2, 1) := by decide +kernel
theorem d_PlanReader_readOptions_53 : decode b_PlanReader_readOptions 53 = .ok (.iload 5, 2) := by decide +kernel
theorem d_PlanReader_readOptions_55 : decode b_PlanReader_readOptions 55 = .ok (.ishr, 1) := by decide +kernel
theorem d_PlanReader_readOptions_56 : decode b_PlanReader_readOptions 56 = .ok (.iconst 1, 1) := by decide +kernel
theorem d_PlanReader_readOptions_57 : decode b_PlanReader_readOptions 57 = .ok (.iand, 1) := by decide +kernel
theorem d_PlanReader_readOptions_58 : decode b_PlanReader_readOptions 58 = .ok (.ifCond .eq 5, 3) := by decide +kernel
theorem d_PlanReader_readOptions_61 : decode b_PlanReader_readOptions 61 = .ok (.iconst 0, 1) := by decide +kernel
theorem d_PlanReader_readOptions_62 : decode b_PlanReader_readOptions 62 = .ok (.ireturn, 1) := by decide +kernel
theorem d_PlanReader_readOptions_63 : decode b_PlanReader_readOptions 63 = .ok (.iload_n 2, 1) := by decide +kernel
theorem d_PlanReader_readOptions_64 : decode b_PlanReader_readOptions 64 = .ok (.iconst 1, 1) := by decide +kernel
theorem d_PlanReader_readOptions_65 : decode b_PlanReader_readOptions 65 = .ok (.iload 5, 2) := by decide +kernel
theorem d_PlanReader_readOptions_67 : decode b_PlanReader_readOptions 67 = .ok (.ishl, 1) := by decide +kernel
theorem d_PlanReader_readOptions_68 : decode b_PlanReader_readOptions 68 = .ok (.ior, 1) := by decide +kernel
theorem d_PlanReader_readOptions_69 : decode b_PlanReader_readOptions 69 = .ok (.istore_n 2, 1) := by decide +kernel
theorem d_PlanReader_readOptions_70 : decode b_PlanReader_readOptions 70 = .ok (.aload_n 0, 1) := by decide +kernel
theorem d_PlanReader_readOptions_71 : decode b_PlanReader_readOptions 71 = .ok (.dup, 1) := by decide +kernel
theorem d_PlanReader_readOptions_72 : decode b_PlanReader_readOptions 72 = .ok (.getfield 15, 3) := by decide +kernel
theorem d_PlanReader_readOptions_75 : decode b_PlanReader_readOptions 75 = .ok (.iconst 1, 1) := by decide +kernel
theorem d_PlanReader_readOptions_76 : decode b_PlanReader_readOptions 76 = .ok (.iadd, 1) := by decide +kernel
theorem d_PlanReader_readOptions_77 : decode b_PlanReader_readOptions 77 = .ok (.putfield 15, 3) := by decide +kernel
theorem d_PlanReader_readOptions_80 : decode b_PlanReader_readOptions 80 = .ok (.aload_n 0, 1) := by decide +kernel
theorem d_PlanReader_readOptions_81 : decode b_PlanReader_readOptions 81 = .ok (.aload_n 1, 1) := by decide +kernel
theorem d_PlanReader_readOptions_82 : decode b_PlanReader_readOptions 82 = .ok (.iload 5, 2) := by decide +kernel
theorem d_PlanReader_readOptions_84 : decode b_PlanReader_readOptions 84 = .ok (.invokevirtual 72, 3) := by decide +kernel
theorem d_PlanReader_readOptions_87 : decode b_PlanReader_readOptions 87 = .ok (.ifCond .ne 43, 3) := by decide +kernel
theorem d_PlanReader_readOptions_90 : decode b_PlanReader_readOptions 90 = .ok (.iconst 0, 1) := by decide +kernel
theorem d_PlanReader_readOptions_91 : decode b_PlanReader_readOptions 91 = .ok (.ireturn, 1) := by decide +kernel
theorem d_PlanReader_readOptions_92 : decode b_PlanReader_readOptions 92 = .ok (.iload 4, 2) := by decide +kernel
theorem d_PlanReader_readOptions_94 : decode b_PlanReader_readOptions 94 = .ok (.bipush 62, 2) := by decide +kernel
theorem d_PlanReader_readOptions_96 : decode b_PlanReader_readOptions 96 = .ok (.if_icmp .eq 10, 3) := by decide +kernel
theorem d_PlanReader_readOptions_99 : decode b_PlanReader_readOptions 99 = .ok (.iload 4, 2) := by decide +kernel
theorem d_PlanReader_readOptions_101 : decode b_PlanReader_readOptions 101 = .ok (.bipush 47, 2) := by decide +kernel
theorem d_PlanReader_readOptions_103 : decode b_PlanReader_readOptions 103 = .ok (.if_icmp .ne 25, 3) := by decide +kernel
theorem d_PlanReader_readOptions_106 : decode b_PlanReader_readOptions 106 = .ok (.aload_n 0, 1) := by decide +kernel
theorem d_PlanReader_readOptions_107 : decode b_PlanReader_readOptions 107 = .ok (.dup, 1) := by decide +kernel
theorem d_PlanReader_readOptions_108 : decode b_PlanReader_readOptions 108 = .ok (.getfield 15, 3) := by decide +kernel
theorem d_PlanReader_readOptions_111 : decode b_PlanReader_readOptions 111 = .ok (.iconst 1, 1) := by decide +kernel
theorem d_PlanReader_readOptions_112 : decode b_PlanReader_readOptions 112 = .ok (.iadd, 1) := by decide +kernel
theorem d_PlanReader_readOptions_113 : decode b_PlanReader_readOptions 113 = .ok (.putfield 15, 3) := by decide +kernel
theorem d_PlanReader_readOptions_116 : decode b_PlanReader_readOptions 116 = .ok (.aload_n 0, 1) := by decide +kernel
theorem d_PlanReader_readOptions_117 : decode b_PlanReader_readOptions 117 = .ok (.aload_n 1, 1) := by decide +kernel
theorem d_PlanReader_readOptions_118 : decode b_PlanReader_readOptions 118 = .ok (.iload 4, 2) := by decide +kernel
theorem d_PlanReader_readOptions_120 : decode b_PlanReader_readOptions 120 = .ok (.invokevirtual 76, 3) := by decide +kernel
theorem d_PlanReader_readOptions_123 : decode b_PlanReader_readOptions 123 = .ok (.ifCond .ne 7, 3) := by decide +kernel
theorem d_PlanReader_readOptions_126 : decode b_PlanReader_readOptions 126 = .ok (.iconst 0, 1) := by decide +kernel
theorem d_PlanReader_readOptions_127 : decode b_PlanReader_readOptions 127 = .ok (.ireturn, 1) := by decide +kernel
theorem d_PlanReader_readOptions_128 : decode b_PlanReader_readOptions 128 = .ok (.iconst 1, 1) := by decide +kernel
theorem d_PlanReader_readOptions_129 : decode b_PlanReader_readOptions 129 = .ok (.ireturn, 1) := by decide +kernel
theorem d_PlanReader_readOptions_130 : decode b_PlanReader_readOptions 130 = .ok (.iinc 3 1, 3) := by decide +kernel
theorem d_PlanReader_readOptions_133 : decode b_PlanReader_readOptions 133 = .ok (.goto (-129), 3) := by decide +kernel
theorem d_PlanReader_readOptions_136 : decode b_PlanReader_readOptions 136 = .ok (.iconst 1, 1) := by decide +kernel
theorem d_PlanReader_readOptions_137 : decode b_PlanReader_readOptions 137 = .ok (.ireturn, 1) := by decide +kernel
theorem d_PlanReader_readValue_0 : decode b_PlanReader_readValue 0 = .ok (.aload_n 0, 1) := by decide +kernel
theorem d_PlanReader_readValue_1 : decode b_PlanReader_readValue 1 = .ok (.invokevirtual 50, 3) := by decide +kernel
theorem d_PlanReader_readValue_4 : decode b_PlanReader_readValue 4 = .ok (.istore_n 3, 1) := by decide +kernel
theorem d_PlanReader_readValue_5 : decode b_PlanReader_readValue 5 = .ok (.iload_n 3, 1) := by decide +kernel
theorem d_PlanReader_readValue_6 : decode b_PlanReader_readValue 6 = .ok (.iconst (-1), 1) := by decide +kernel
theorem d_PlanReader_readValue_7 : decode b_PlanReader_readValue 7 = .ok (.if_icmp .ne 5, 3) := by decide +kernel
theorem d_PlanReader_readValue_10 : decode b_PlanReader_readValue 10 = .ok (.iconst 0, 1) := by decide +kernel
theorem d_PlanReader_readValue_11 : decode b_PlanReader_readValue 11 = .ok (.ireturn, 1) := by decide +kernel
theorem d_PlanReader_readValue_12 : decode b_PlanReader_readValue 12 = .ok (.iload_n 2, 1) := by decide +kernel
theorem d_PlanReader_readValue_13 : decode b_PlanReader_readValue 13 = .ok (.tableswitch 63 0 3 #[31, 39, 47, 55], 31) := by decide +kernel
theorem d_PlanReader_readValue_44 : decode b_PlanReader_readValue 44 = .ok (.aload_n 1, 1) := by decide +kernel
theorem d_PlanReader_readValue_45 : decode b_PlanReader_readValue 45 = .ok (.iload_n 3, 1) := by decide +kernel
theorem d_PlanReader_readValue_46 : decode b_PlanReader_readValue 46 = .ok (.putfield 79, 3) := by decide +kernel
theorem d_PlanReader_readValue_49 : decode b_PlanReader_readValue 49 = .ok (.goto 32, 3) := by decide +kernel
theorem d_PlanReader_readValue_52 : decode b_PlanReader_readValue 52 = .ok (.aload_n 1, 1) := by decide +kernel
theorem d_PlanReader_readValue_53 : decode b_PlanReader_readValue 53 = .ok (.iload_n 3, 1) := by decide +kernel
theorem d_PlanReader_readValue_54 : decode b_PlanReader_readValue 54 = .ok (.putfield 82, 3) := by decide +kernel
theorem d_PlanReader_readValue_57 : decode b_PlanReader_readValue 57 = .ok (.goto 24, 3) := by decide +kernel
theorem d_PlanReader_readValue_60 : decode b_PlanReader_readValue 60 = .ok (.aload_n 1, 1) := by decide +kernel
theorem d_PlanReader_readValue_61 : decode b_PlanReader_readValue 61 = .ok (.iload_n 3, 1) := by decide +kernel
theorem d_PlanReader_readValue_62 : decode b_PlanReader_readValue 62 = .ok (.putfield 85, 3) := by decide +kernel
theorem d_PlanReader_readValue_65 : decode b_PlanReader_readValue 65 = .ok (.goto 16, 3) := by decide +kernel
theorem d_PlanReader_readValue_68 : decode b_PlanReader_readValue 68 = .ok (.aload_n 1, 1) := by decide +kernel
theorem d_PlanReader_readValue_69 : decode b_PlanReader_readValue 69 = .ok (.iload_n 3, 1) := by decide +kernel
theorem d_PlanReader_readValue_70 : decode b_PlanReader_readValue 70 = .ok (.putfield 88, 3) := by decide +kernel
theorem d_PlanReader_readValue_73 : decode b_PlanReader_readValue 73 = .ok (.goto 8, 3) := by decide +kernel
theorem d_PlanReader_readValue_76 : decode b_PlanReader_readValue 76 = .ok (.aload_n 1, 1) := by decide +kernel
theorem d_PlanReader_readValue_77 : decode b_PlanReader_readValue 77 = .ok (.iload_n 3, 1) := by decide +kernel
theorem d_PlanReader_readValue_78 : decode b_PlanReader_readValue 78 = .ok (.putfield 91, 3) := by decide +kernel
theorem d_PlanReader_readValue_81 : decode b_PlanReader_readValue 81 = .ok (.iconst 1, 1) := by decide +kernel
theorem d_PlanReader_readValue_82 : decode b_PlanReader_readValue 82 = .ok (.ireturn, 1) := by decide +kernel
theorem d_PlanReader_readLink_0 : decode b_PlanReader_readLink 0 = .ok (.aload_n 0, 1) := by decide +kernel
theorem d_PlanReader_readLink_1 : decode b_PlanReader_readLink 1 = .ok (.getfield 15, 3) := by decide +kernel
theorem d_PlanReader_readLink_4 : decode b_PlanReader_readLink 4 = .ok (.aload_n 0, 1) := by decide +kernel
theorem d_PlanReader_readLink_5 : decode b_PlanReader_readLink 5 = .ok (.getfield 9, 3) := by decide +kernel
theorem d_PlanReader_readLink_8 : decode b_PlanReader_readLink 8 = .ok (.getfield 45, 3) := by decide +kernel
theorem d_PlanReader_readLink_11 : decode b_PlanReader_readLink 11 = .ok (.if_icmp .ge 37, 3) := by decide +kernel
theorem d_PlanReader_readLink_14 : decode b_PlanReader_readLink 14 = .ok (.aload_n 0, 1) := by decide +kernel
theorem d_PlanReader_readLink_15 : decode b_PlanReader_readLink 15 = .ok (.getfield 9, 3) := by decide +kernel
theorem d_PlanReader_readLink_18 : decode b_PlanReader_readLink 18 = .ok (.getfield 60, 3) := by decide +kernel
theorem d_PlanReader_readLink_21 : decode b_PlanReader_readLink 21 = .ok (.aload_n 0, 1) := by decide +kernel
theorem d_PlanReader_readLink_22 : decode b_PlanReader_readLink 22 = .ok (.getfield 15, 3) := by decide +kernel
theorem d_PlanReader_readLink_25 : decode b_PlanReader_readLink 25 = .ok (.caload, 1) := by decide +kernel
theorem d_PlanReader_readLink_26 : decode b_PlanReader_readLink 26 = .ok (.bipush 97, 2) := by decide +kernel
theorem d_PlanReader_readLink_28 : decode b_PlanReader_readLink 28 = .ok (.if_icmp .lt 20, 3) := by decide +kernel
theorem d_PlanReader_readLink_31 : decode b_PlanReader_readLink 31 = .ok (.aload_n 0, 1) := by decide +kernel
theorem d_PlanReader_readLink_32 : decode b_PlanReader_readLink 32 = .ok (.getfield 9, 3) := by decide +kernel
theorem d_PlanReader_readLink_35 : decode b_PlanReader_readLink 35 = .ok (.getfield 60, 3) := by decide +kernel
theorem d_PlanReader_readLink_38 : decode b_PlanReader_readLink 38 = .ok (.aload_n 0, 1) := by decide +kernel
theorem d_PlanReader_readLink_39 : decode b_PlanReader_readLink 39 = .ok (.getfield 15, 3) := by decide +kernel
theorem d_PlanReader_readLink_42 : decode b_PlanReader_readLink 42 = .ok (.caload, 1) := by decide +kernel
theorem d_PlanReader_readLink_43 : decode b_PlanReader_readLink 43 = .ok (.bipush 122, 2) := by decide +kernel
theorem d_PlanReader_readLink_45 : decode b_PlanReader_readLink 45 = .ok (.if_icmp .le 5, 3) := by decide +kernel
theorem d_PlanReader_readLink_48 : decode b_PlanReader_readLink 48 = .ok (.iconst 0, 1) := by decide +kernel
theorem d_PlanReader_readLink_49 : decode b_PlanReader_readLink 49 = .ok (.ireturn, 1) := by decide +kernel
theorem d_PlanReader_readLink_50 : decode b_PlanReader_readLink 50 = .ok (.iconst 1, 1) := by decide +kernel
theorem d_PlanReader_readLink_51 : decode b_PlanReader_readLink 51 = .ok (.aload_n 0, 1) := by decide +kernel
theorem d_PlanReader_readLink_52 : decode b_PlanReader_readLink 52 = .ok (.getfield 9, 3) := by decide +kernel
theorem d_PlanReader_readLink_55 : decode b_PlanReader_readLink 55 = .ok (.getfield 60, 3) := by decide +kernel
theorem d_PlanReader_readLink_58 : decode b_PlanReader_readLink 58 = .ok (.aload_n 0, 1) := by decide +kernel
theorem d_PlanReader_readLink_59 : decode b_PlanReader_readLink 59 = .ok (.getfield 15, 3) := by decide +kernel
theorem d_PlanReader_readLink_62 : decode b_PlanReader_readLink 62 = .ok (.caload, 1) := by decide +kernel
theorem d_PlanReader_readLink_63 : decode b_PlanReader_readLink 63 = .ok (.bipush 97, 2) := by decide +kernel
theorem d_PlanReader_readLink_65 : decode b_PlanReader_readLink 65 = .ok (.isub, 1) := by decide +kernel
theorem d_PlanReader_readLink_66 : decode b_PlanReader_readLink 66 = .ok (.ishl, 1) := by decide +kernel
theorem d_PlanReader_readLink_67 : decode b_PlanReader_readLink 67 = .ok (.istore_n 3, 1) := by decide +kernel
theorem d_PlanReader_readLink_68 : decode b_PlanReader_readLink 68 = .ok (.aload_n 0, 1) := by decide +kernel
theorem d_PlanReader_readLink_69 : decode b_PlanReader_readLink 69 = .ok (.dup, 1) := by decide +kernel
theorem d_PlanReader_readLink_70 : decode b_PlanReader_readLink 70 = .ok (.getfield 15, 3) := by decide +kernel
theorem d_PlanReader_readLink_73 : decode b_PlanReader_readLink 73 = .ok (.iconst 1, 1) := by decide +kernel
theorem d_PlanReader_readLink_74 : decode b_PlanReader_readLink 74 = .ok (.iadd, 1) := by decide +kernel
theorem d_PlanReader_readLink_75 : decode b_PlanReader_readLink 75 = .ok (.putfield 15, 3) := by decide +kernel
theorem d_PlanReader_readLink_78 : decode b_PlanReader_readLink 78 = .ok (.iload_n 2, 1) := by decide +kernel
theorem d_PlanReader_readLink_79 : decode b_PlanReader_readLink 79 = .ok (.bipush 62, 2) := by decide +kernel
theorem d_PlanReader_readLink_81 : decode b_PlanReader_readLink 81 = .ok (.if_icmp .ne 16, 3) := by decide +kernel
theorem d_PlanReader_readLink_84 : decode b_PlanReader_readLink 84 = .ok (.aload_n 1, 1) := by decide +kernel
theorem d_PlanReader_readLink_85 : decode b_PlanReader_readLink 85 = .ok (.dup, 1) := by decide +kernel
theorem d_PlanReader_readLink_86 : decode b_PlanReader_readLink 86 = .ok (.getfield 94, 3) := by decide +kernel
theorem d_PlanReader_readLink_89 : decode b_PlanReader_readLink 89 = .ok (.iload_n 3, 1) := by decide +kernel
theorem d_PlanReader_readLink_90 : decode b_PlanReader_readLink 90 = .ok (.ior, 1) := by decide +kernel
theorem d_PlanReader_readLink_91 : decode b_PlanReader_readLink 91 = .ok (.putfield 94, 3) := by decide +kernel
theorem d_PlanReader_readLink_94 : decode b_PlanReader_readLink 94 = .ok (.goto 13, 3) := by decide +kernel
theorem d_PlanReader_readLink_97 : decode b_PlanReader_readLink 97 = .ok (.aload_n 1, 1) := by decide +kernel
theorem d_PlanReader_readLink_98 : decode b_PlanReader_readLink 98 = .ok (.dup, 1) := by decide +kernel
theorem d_PlanReader_readLink_99 : decode b_PlanReader_readLink 99 = .ok (.getfield 97, 3) := by decide +kernel
theorem d_PlanReader_readLink_102 : decode b_PlanReader_readLink 102 = .ok (.iload_n 3, 1) := by decide +kernel
theorem d_PlanReader_readLink_103 : decode b_PlanReader_readLink 103 = .ok (.ior, 1) := by decide +kernel
theorem d_PlanReader_readLink_104 : decode b_PlanReader_readLink 104 = .ok (.putfield 97, 3) := by decide +kernel
theorem d_PlanReader_readLink_107 : decode b_PlanReader_readLink 107 = .ok (.iconst 1, 1) := by decide +kernel
theorem d_PlanReader_readLink_108 : decode b_PlanReader_readLink 108 = .ok (.ireturn, 1) := by decide +kernel
theorem d_PlanReader_take_0 : decode b_PlanReader_take 0 = .ok (.aload_n 0, 1) := by decide +kernel
theorem d_PlanReader_take_1 : decode b_PlanReader_take 1 = .ok (.getfield 15, 3) := by decide +kernel
theorem d_PlanReader_take_4 : decode b_PlanReader_take 4 = .ok (.aload_n 0, 1) := by decide +kernel
theorem d_PlanReader_take_5 : decode b_PlanReader_take 5 = .ok (.getfield 9, 3) := by decide +kernel
theorem d_PlanReader_take_8 : decode b_PlanReader_take 8 = .ok (.getfield 45, 3) := by decide +kernel
theorem d_PlanReader_take_11 : decode b_PlanReader_take 11 = .ok (.if_icmp .ge 19, 3) := by decide +kernel
theorem d_PlanReader_take_14 : decode b_PlanReader_take 14 = .ok (.aload_n 0, 1) := by decide +kernel
theorem d_PlanReader_take_15 : decode b_PlanReader_take 15 = .ok (.getfield 9, 3) := by decide +kernel
theorem d_PlanReader_take_18 : decode b_PlanReader_take 18 = .ok (.getfield 60, 3) := by decide +kernel
theorem d_PlanReader_take_21 : decode b_PlanReader_take 21 = .ok (.aload_n 0, 1) := by decide +kernel
theorem d_PlanReader_take_22 : decode b_PlanReader_take 22 = .ok (.getfield 15, 3) := by decide +kernel
theorem d_PlanReader_take_25 : decode b_PlanReader_take 25 = .ok (.caload, 1) := by decide +kernel
theorem d_PlanReader_take_26 : decode b_PlanReader_take 26 = .ok (.iload_n 1, 1) := by decide +kernel
theorem d_PlanReader_take_27 : decode b_PlanReader_take 27 = .ok (.if_icmp .eq 5, 3) := by decide +kernel
theorem d_PlanReader_take_30 : decode b_PlanReader_take 30 = .ok (.iconst 0, 1) := by decide +kernel
theorem d_PlanReader_take_31 : decode b_PlanReader_take 31 = .ok (.ireturn, 1) := by decide +kernel
theorem d_PlanReader_take_32 : decode b_PlanReader_take 32 = .ok (.aload_n 0, 1) := by decide +kernel
theorem d_PlanReader_take_33 : decode b_PlanReader_take 33 = .ok (.dup, 1) := by decide +kernel
theorem d_PlanReader_take_34 : decode b_PlanReader_take 34 = .ok (.getfield 15, 3) := by decide +kernel
theorem d_PlanReader_take_37 : decode b_PlanReader_take 37 = .ok (.iconst 1, 1) := by decide +kernel
theorem d_PlanReader_take_38 : decode b_PlanReader_take 38 = .ok (.iadd, 1) := by decide +kernel
theorem d_PlanReader_take_39 : decode b_PlanReader_take 39 = .ok (.putfield 15, 3) := by decide +kernel
theorem d_PlanReader_take_42 : decode b_PlanReader_take 42 = .ok (.iconst 1, 1) := by decide +kernel
theorem d_PlanReader_take_43 : decode b_PlanReader_take 43 = .ok (.ireturn, 1) := by decide +kernel
theorem d_PlanReader_takeNumber_0 : decode b_PlanReader_takeNumber 0 = .ok (.aload_n 0, 1) := by decide +kernel
theorem d_PlanReader_takeNumber_1 : decode b_PlanReader_takeNumber 1 = .ok (.invokevirtual 100, 3) := by decide +kernel
theorem d_PlanReader_takeNumber_4 : decode b_PlanReader_takeNumber 4 = .ok (.istore_n 1, 1) := by decide +kernel
theorem d_PlanReader_takeNumber_5 : decode b_PlanReader_takeNumber 5 = .ok (.iload_n 1, 1) := by decide +kernel
theorem d_PlanReader_takeNumber_6 : decode b_PlanReader_takeNumber 6 = .ok (.ifCond .gt 5, 3) := by decide +kernel
theorem d_PlanReader_takeNumber_9 : decode b_PlanReader_takeNumber 9 = .ok (.iload_n 1, 1) := by decide +kernel
theorem d_PlanReader_takeNumber_10 : decode b_PlanReader_takeNumber 10 = .ok (.ireturn, 1) := by decide +kernel
theorem d_PlanReader_takeNumber_11 : decode b_PlanReader_takeNumber 11 = .ok (.aload_n 0, 1) := by decide +kernel
theorem d_PlanReader_takeNumber_12 : decode b_PlanReader_takeNumber 12 = .ok (.invokevirtual 100, 3) := by decide +kernel
theorem d_PlanReader_takeNumber_15 : decode b_PlanReader_takeNumber 15 = .ok (.istore_n 2, 1) := by decide +kernel
theorem d_PlanReader_takeNumber_16 : decode b_PlanReader_takeNumber 16 = .ok (.iload_n 2, 1) := by decide +kernel
theorem d_PlanReader_takeNumber_17 : decode b_PlanReader_takeNumber 17 = .ok (.iconst (-1), 1) := by decide +kernel
theorem d_PlanReader_takeNumber_18 : decode b_PlanReader_takeNumber 18 = .ok (.if_icmp .ne 7, 3) := by decide +kernel
theorem d_PlanReader_takeNumber_21 : decode b_PlanReader_takeNumber 21 = .ok (.iload_n 1, 1) := by decide +kernel
theorem d_PlanReader_takeNumber_22 : decode b_PlanReader_takeNumber 22 = .ok (.goto 9, 3) := by decide +kernel
theorem d_PlanReader_takeNumber_25 : decode b_PlanReader_takeNumber 25 = .ok (.bipush 10, 2) := by decide +kernel
theorem d_PlanReader_takeNumber_27 : decode b_PlanReader_takeNumber 27 = .ok (.iload_n 1, 1) := by decide +kernel
theorem d_PlanReader_takeNumber_28 : decode b_PlanReader_takeNumber 28 = .ok (.imul, 1) := by decide +kernel
theorem d_PlanReader_takeNumber_29 : decode b_PlanReader_takeNumber 29 = .ok (.iload_n 2, 1) := by decide +kernel
theorem d_PlanReader_takeNumber_30 : decode b_PlanReader_takeNumber 30 = .ok (.iadd, 1) := by decide +kernel
theorem d_PlanReader_takeNumber_31 : decode b_PlanReader_takeNumber 31 = .ok (.ireturn, 1) := by decide +kernel
theorem d_PlanReader_takeDigit_0 : decode b_PlanReader_takeDigit 0 = .ok (.aload_n 0, 1) := by decide +kernel
theorem d_PlanReader_takeDigit_1 : decode b_PlanReader_takeDigit 1 = .ok (.getfield 15, 3) := by decide +kernel
theorem d_PlanReader_takeDigit_4 : decode b_PlanReader_takeDigit 4 = .ok (.aload_n 0, 1) := by decide +kernel
theorem d_PlanReader_takeDigit_5 : decode b_PlanReader_takeDigit 5 = .ok (.getfield 9, 3) := by decide +kernel
theorem d_PlanReader_takeDigit_8 : decode b_PlanReader_takeDigit 8 = .ok (.getfield 45, 3) := by decide +kernel
theorem d_PlanReader_takeDigit_11 : decode b_PlanReader_takeDigit 11 = .ok (.if_icmp .ge 37, 3) := by decide +kernel
theorem d_PlanReader_takeDigit_14 : decode b_PlanReader_takeDigit 14 = .ok (.aload_n 0, 1) := by decide +kernel
theorem d_PlanReader_takeDigit_15 : decode b_PlanReader_takeDigit 15 = .ok (.getfield 9, 3) := by decide +kernel
theorem d_PlanReader_takeDigit_18 : decode b_PlanReader_takeDigit 18 = .ok (.getfield 60, 3) := by decide +kernel
theorem d_PlanReader_takeDigit_21 : decode b_PlanReader_takeDigit 21 = .ok (.aload_n 0, 1) := by decide +kernel
theorem d_PlanReader_takeDigit_22 : decode b_PlanReader_takeDigit 22 = .ok (.getfield 15, 3) := by decide +kernel
theorem d_PlanReader_takeDigit_25 : decode b_PlanReader_takeDigit 25 = .ok (.caload, 1) := by decide +kernel
theorem d_PlanReader_takeDigit_26 : decode b_PlanReader_takeDigit 26 = .ok (.bipush 48, 2) := by decide +kernel
theorem d_PlanReader_takeDigit_28 : decode b_PlanReader_takeDigit 28 = .ok (.if_icmp .lt 20, 3) := by decide +kernel
theorem d_PlanReader_takeDigit_31 : decode b_PlanReader_takeDigit 31 = .ok (.aload_n 0, 1) := by decide +kernel
theorem d_PlanReader_takeDigit_32 : decode b_PlanReader_takeDigit 32 = .ok (.getfield 9, 3) := by decide +kernel
theorem d_PlanReader_takeDigit_35 : decode b_PlanReader_takeDigit 35 = .ok (.getfield 60, 3) := by decide +kernel
theorem d_PlanReader_takeDigit_38 : decode b_PlanReader_takeDigit 38 = .ok (.aload_n 0, 1) := by decide +kernel
theorem d_PlanReader_takeDigit_39 : decode b_PlanReader_takeDigit 39 = .ok (.getfield 15, 3) := by decide +kernel
theorem d_PlanReader_takeDigit_42 : decode b_PlanReader_takeDigit 42 = .ok (.caload, 1) := by decide +kernel
theorem d_PlanReader_takeDigit_43 : decode b_PlanReader_takeDigit 43 = .ok (.bipush 57, 2) := by decide +kernel
theorem d_PlanReader_takeDigit_45 : decode b_PlanReader_takeDigit 45 = .ok (.if_icmp .le 5, 3) := by decide +kernel
theorem d_PlanReader_takeDigit_48 : decode b_PlanReader_takeDigit 48 = .ok (.iconst (-1), 1) := by decide +kernel
theorem d_PlanReader_takeDigit_49 : decode b_PlanReader_takeDigit 49 = .ok (.ireturn, 1) := by decide +kernel
theorem d_PlanReader_takeDigit_50 : decode b_PlanReader_takeDigit 50 = .ok (.aload_n 0, 1) := by decide +kernel
theorem d_PlanReader_takeDigit_51 : decode b_PlanReader_takeDigit 51 = .ok (.getfield 9, 3) := by decide +kernel
theorem d_PlanReader_takeDigit_54 : decode b_PlanReader_takeDigit 54 = .ok (.getfield 60, 3) := by decide +kernel
theorem d_PlanReader_takeDigit_57 : decode b_PlanReader_takeDigit 57 = .ok (.aload_n 0, 1) := by decide +kernel
theorem d_PlanReader_takeDigit_58 : decode b_PlanReader_takeDigit 58 = .ok (.getfield 15, 3) := by decide +kernel
theorem d_PlanReader_takeDigit_61 : decode b_PlanReader_takeDigit 61 = .ok (.caload, 1) := by decide +kernel
theorem d_PlanReader_takeDigit_62 : decode b_PlanReader_takeDigit 62 = .ok (.bipush 48, 2) := by decide +kernel
theorem d_PlanReader_takeDigit_64 : decode b_PlanReader_takeDigit 64 = .ok (.isub, 1) := by decide +kernel
theorem d_PlanReader_takeDigit_65 : decode b_PlanReader_takeDigit 65 = .ok (.istore_n 1, 1) := by decide +kernel
theorem d_PlanReader_takeDigit_66 : decode b_PlanReader_takeDigit 66 = .ok (.aload_n 0, 1) := by decide +kernel
theorem d_PlanReader_takeDigit_67 : decode b_PlanReader_takeDigit 67 = .ok (.dup, 1) := by decide +kernel
theorem d_PlanReader_takeDigit_68 : decode b_PlanReader_takeDigit 68 = .ok (.getfield 15, 3) := by decide +kernel
theorem d_PlanReader_takeDigit_71 : decode b_PlanReader_takeDigit 71 = .ok (.iconst 1, 1) := by decide +kernel
theorem d_PlanReader_takeDigit_72 : decode b_PlanReader_takeDigit 72 = .ok (.iadd, 1) := by decide +kernel
theorem d_PlanReader_takeDigit_73 : decode b_PlanReader_takeDigit 73 = .ok (.putfield 15, 3) := by decide +kernel
theorem d_PlanReader_takeDigit_76 : decode b_PlanReader_takeDigit 76 = .ok (.iload_n 1, 1) := by decide +kernel
theorem d_PlanReader_takeDigit_77 : decode b_PlanReader_takeDigit 77 = .ok (.ireturn, 1) := by decide +kernel
end
section
theorem d_Rm_init_0 : decode b_Rm_init 0 = .ok (.aload_n 0, 1) := by decide +kernel
theorem d_Rm_init_1 : decode b_Rm_init 1 = .ok (.invokespecial 1, 3) := by decide +kernel
theorem d_Rm_init_4 : decode b_Rm_init 4 = .ok (.aload_n 0, 1) := by decide +kernel
theorem d_Rm_init_5 : decode b_Rm_init 5 = .ok (.new 7, 3) := by decide +kernel
theorem d_Rm_init_8 : decode b_Rm_init 8 = .ok (.dup, 1) := by decide +kernel
theorem d_Rm_init_9 : decode b_Rm_init 9 = .ok (.invokespecial 9, 3) := by decide +kernel
theorem d_Rm_init_12 : decode b_Rm_init 12 = .ok (.putfield 10, 3) := by decide +kernel
theorem d_Rm_init_15 : decode b_Rm_init 15 = .ok (.aload_n 0, 1) := by decide +kernel
theorem d_Rm_init_16 : decode b_Rm_init 16 = .ok (.new 16, 3) := by decide +kernel
theorem d_Rm_init_19 : decode b_Rm_init 19 = .ok (.dup, 1) := by decide +kernel
theorem d_Rm_init_20 : decode b_Rm_init 20 = .ok (.aload_n 0, 1) := by decide +kernel
theorem d_Rm_init_21 : decode b_Rm_init 21 = .ok (.getfield 10, 3) := by decide +kernel
theorem d_Rm_init_24 : decode b_Rm_init 24 = .ok (.invokespecial 18, 3) := by decide +kernel
theorem d_Rm_init_27 : decode b_Rm_init 27 = .ok (.putfield 21, 3) := by decide +kernel
theorem d_Rm_init_30 : decode b_Rm_init 30 = .ok (.aload_n 0, 1) := by decide +kernel
theorem d_Rm_init_31 : decode b_Rm_init 31 = .ok (.new 25, 3) := by decide +kernel
theorem d_Rm_init_34 : decode b_Rm_init 34 = .ok (.dup, 1) := by decide +kernel
theorem d_Rm_init_35 : decode b_Rm_init 35 = .ok (.invokespecial 27, 3) := by decide +kernel
theorem d_Rm_init_38 : decode b_Rm_init 38 = .ok (.putfield 28, 3) := by decide +kernel
theorem d_Rm_init_41 : decode b_Rm_init 41 = .ok (.aload_n 0, 1) := by decide +kernel
theorem d_Rm_init_42 : decode b_Rm_init 42 = .ok (.new 32, 3) := by decide +kernel
theorem d_Rm_init_45 : decode b_Rm_init 45 = .ok (.dup, 1) := by decide +kernel
theorem d_Rm_init_46 : decode b_Rm_init 46 = .ok (.invokespecial 34, 3) := by decide +kernel
theorem d_Rm_init_49 : decode b_Rm_init 49 = .ok (.putfield 35, 3) := by decide +kernel
theorem d_Rm_init_52 : decode b_Rm_init 52 = .ok (.aload_n 0, 1) := by decide +kernel
theorem d_Rm_init_53 : decode b_Rm_init 53 = .ok (.new 39, 3) := by decide +kernel
theorem d_Rm_init_56 : decode b_Rm_init 56 = .ok (.dup, 1) := by decide +kernel
theorem d_Rm_init_57 : decode b_Rm_init 57 = .ok (.invokespecial 41, 3) := by decide +kernel
theorem d_Rm_init_60 : decode b_Rm_init 60 = .ok (.putfield 42, 3) := by decide +kernel
theorem d_Rm_init_63 : decode b_Rm_init 63 = .ok (.aload_n 0, 1) := by decide +kernel
theorem d_Rm_init_64 : decode b_Rm_init 64 = .ok (.new 39, 3) := by decide +kernel
theorem d_Rm_init_67 : decode b_Rm_init 67 = .ok (.dup, 1) := by decide +kernel
theorem d_Rm_init_68 : decode b_Rm_init 68 = .ok (.invokespecial 41, 3) := by decide +kernel
theorem d_Rm_init_71 : decode b_Rm_init 71 = .ok (.putfield 46, 3) := by decide +kernel
theorem d_Rm_init_74 : decode b_Rm_init 74 = .ok (.aload_n 0, 1) := by decide +kernel
theorem d_Rm_init_75 : decode b_Rm_init 75 = .ok (.iconst 0, 1) := by decide +kernel
theorem d_Rm_init_76 : decode b_Rm_init 76 = .ok (.putfield 49, 3) := by decide +kernel
theorem d_Rm_init_79 : decode b_Rm_init 79 = .ok (.return_, 1) := by decide +kernel
theorem d_Rm_type_0 : decode b_Rm_type 0 = .ok (.iconst 0, 1) := by decide +kernel
theorem d_Rm_type_1 : decode b_Rm_type 1 = .ok (.istore_n 2, 1) := by decide +kernel
theorem d_Rm_type_2 : decode b_Rm_type 2 = .ok (.iload_n 2, 1) := by decide +kernel
theorem d_Rm_type_3 : decode b_Rm_type 3 = .ok (.iconst 4, 1) := by decide +kernel
theorem d_Rm_type_4 : decode b_Rm_type 4 = .ok (.if_icmp .ge 36, 3) := by decide +kernel
theorem d_Rm_type_7 : decode b_Rm_type 7 = .ok (.iload_n 1, 1) := by decide +kernel
theorem d_Rm_type_8 : decode b_Rm_type 8 = .ok (.iload_n 2, 1) := by decide +kernel
theorem d_Rm_type_9 : decode b_Rm_type 9 = .ok (.invokestatic 53, 3) := by decide +kernel
theorem d_Rm_type_12 : decode b_Rm_type 12 = .ok (.ifCond .eq 28, 3) := by decide +kernel
theorem d_Rm_type_15 : decode b_Rm_type 15 = .ok (.iload_n 1, 1) := by decide +kernel
theorem d_Rm_type_16 : decode b_Rm_type 16 = .ok (.iload_n 2, 1) := by decide +kernel
theorem d_Rm_type_17 : decode b_Rm_type 17 = .ok (.invokestatic 53, 3) := by decide +kernel
theorem d_Rm_type_20 : decode b_Rm_type 20 = .ok (.invokestatic 57, 3) := by decide +kernel
theorem d_Rm_type_23 : decode b_Rm_type 23 = .ok (.ifCond .ne 11, 3) := by decide +kernel
theorem d_Rm_type_26 : decode b_Rm_type 26 = .ok (.new 61, 3) := by decide +kernel
theorem d_Rm_type_29 : decode b_Rm_type 29 = .ok (.dup, 1) := by decide +kernel
theorem d_Rm_type_30 : decode b_Rm_type 30 = .ok (.invokespecial 63, 3) := by decide +kernel
theorem d_Rm_type_33 : decode b_Rm_type 33 = .ok (.athrow, 1) := by decide +kernel
theorem d_Rm_type_34 : decode b_Rm_type 34 = .ok (.iinc 2 1, 3) := by decide +kernel
theorem d_Rm_type_37 : decode b_Rm_type 37 = .ok (.goto (-35), 3) := by decide +kernel
theorem d_Rm_type_40 : decode b_Rm_type 40 = .ok (.aload_n 0, 1) := by decide +kernel
theorem d_Rm_type_41 : decode b_Rm_type 41 = .ok (.getfield 10, 3) := by decide +kernel
theorem d_Rm_type_44 : decode b_Rm_type 44 = .ok (.iload_n 2, 1) := by decide +kernel
theorem d_Rm_type_45 : decode b_Rm_type 45 = .ok (.invokevirtual 64, 3) := by decide +kernel
theorem d_Rm_type_48 : decode b_Rm_type 48 = .ok (.ifCond .ne 5, 3) := by decide +kernel
theorem d_Rm_type_51 : decode b_Rm_type 51 = .ok (.iconst 0, 1) := by decide +kernel
theorem d_Rm_type_52 : decode b_Rm_type 52 = .ok (.ireturn, 1) := by decide +kernel
theorem d_Rm_type_53 : decode b_Rm_type 53 = .ok (.iconst 0, 1) := by decide +kernel
theorem d_Rm_type_54 : decode b_Rm_type 54 = .ok (.istore_n 3, 1) := by decide +kernel
theorem d_Rm_type_55 : decode b_Rm_type 55 = .ok (.iload_n 3, 1) := by decide +kernel
theorem d_Rm_type_56 : decode b_Rm_type 56 = .ok (.iload_n 2, 1) := by decide +kernel
theorem d_Rm_type_57 : decode b_Rm_type 57 = .ok (.if_icmp .ge 22, 3) := by decide +kernel
theorem d_Rm_type_60 : decode b_Rm_type 60 = .ok (.aload_n 0, 1) := by decide +kernel
theorem d_Rm_type_61 : decode b_Rm_type 61 = .ok (.getfield 10, 3) := by decide +kernel
theorem d_Rm_type_64 : decode b_Rm_type 64 = .ok (.iload_n 1, 1) := by decide +kernel
theorem d_Rm_type_65 : decode b_Rm_type 65 = .ok (.iload_n 3, 1) := by decide +kernel
theorem d_Rm_type_66 : decode b_Rm_type 66 = .ok (.invokestatic 53, 3) := by decide +kernel
theorem d_Rm_type_69 : decode b_Rm_type 69 = .ok (.i2c, 1) := by decide +kernel
theorem d_Rm_type_70 : decode b_Rm_type 70 = .ok (.invokevirtual 67, 3) := by decide +kernel
theorem d_Rm_type_73 : decode b_Rm_type 73 = .ok (.iinc 3 1, 3) := by decide +kernel
theorem d_Rm_type_76 : decode b_Rm_type 76 = .ok (.goto (-21), 3) := by decide +kernel
theorem d_Rm_type_79 : decode b_Rm_type 79 = .ok (.iconst 1, 1) := by decide +kernel
theorem d_Rm_type_80 : decode b_Rm_type 80 = .ok (.ireturn, 1) := by decide +kernel
theorem d_Rm_submit_0 : decode b_Rm_submit 0 = .ok (.aload_n 0, 1) := by decide +kernel
theorem d_Rm_submit_1 : decode b_Rm_submit 1 = .ok (.getfield 49, 3) := by decide +kernel
theorem d_Rm_submit_4 : decode b_Rm_submit 4 = .ok (.ifCond .eq 11, 3) := by decide +kernel
theorem d_Rm_submit_7 : decode b_Rm_submit 7 = .ok (.new 71, 3) := by decide +kernel
theorem d_Rm_submit_10 : decode b_Rm_submit 10 = .ok (.dup, 1) := by decide +kernel
theorem d_Rm_submit_11 : decode b_Rm_submit 11 = .ok (.invokespecial 73, 3) := by decide +kernel
theorem d_Rm_submit_14 : decode b_Rm_submit 14 = .ok (.athrow, 1) := by decide +kernel
theorem d_Rm_submit_15 : decode b_Rm_submit 15 = .ok (.aload_n 0, 1) := by decide +kernel
theorem d_Rm_submit_16 : decode b_Rm_submit 16 = .ok (.getfield 21, 3) := by decide +kernel
theorem d_Rm_submit_19 : decode b_Rm_submit 19 = .ok (.aload_n 0, 1) := by decide +kernel
theorem d_Rm_submit_20 : decode b_Rm_submit 20 = .ok (.getfield 46, 3) := by decide +kernel
theorem d_Rm_submit_23 : decode b_Rm_submit 23 = .ok (.invokevirtual 74, 3) := by decide +kernel
theorem d_Rm_submit_26 : decode b_Rm_submit 26 = .ok (.istore_n 1, 1) := by decide +kernel
theorem d_Rm_submit_27 : decode b_Rm_submit 27 = .ok (.aload_n 0, 1) := by decide +kernel
theorem d_Rm_submit_28 : decode b_Rm_submit 28 = .ok (.getfield 10, 3) := by decide +kernel
theorem d_Rm_submit_31 : decode b_Rm_submit 31 = .ok (.invokevirtual 78, 3) := by decide +kernel
theorem d_Rm_submit_34 : decode b_Rm_submit 34 = .ok (.iload_n 1, 1) := by decide +kernel
theorem d_Rm_submit_35 : decode b_Rm_submit 35 = .ok (.ifCond .ne 11, 3) := by decide +kernel
theorem d_Rm_submit_38 : decode b_Rm_submit 38 = .ok (.aload_n 0, 1) := by decide +kernel
theorem d_Rm_submit_39 : decode b_Rm_submit 39 = .ok (.getfield 46, 3) := by decide +kernel
theorem d_Rm_submit_42 : decode b_Rm_submit 42 = .ok (.invokevirtual 81, 3) := by decide +kernel
theorem d_Rm_submit_45 : decode b_Rm_submit 45 = .ok (.istore_n 1, 1) := by decide +kernel
theorem d_Rm_submit_46 : decode b_Rm_submit 46 = .ok (.iload_n 1, 1) := by decide +kernel
theorem d_Rm_submit_47 : decode b_Rm_submit 47 = .ok (.ifCond .ne 28, 3) := by decide +kernel
theorem d_Rm_submit_50 : decode b_Rm_submit 50 = .ok (.aload_n 0, 1) := by decide +kernel
theorem d_Rm_submit_51 : decode b_Rm_submit 51 = .ok (.getfield 42, 3) := by decide +kernel
theorem d_Rm_submit_54 : decode b_Rm_submit 54 = .ok (.astore_n 2, 1) := by decide +kernel
theorem d_Rm_submit_55 : decode b_Rm_submit 55 = .ok (.aload_n 0, 1) := by decide +kernel
theorem d_Rm_submit_56 : decode b_Rm_submit 56 = .ok (.aload_n 0, 1) := by decide +kernel
theorem d_Rm_submit_57 : decode b_Rm_submit 57 = .ok (.getfield 46, 3) := by decide +kernel
theorem d_Rm_submit_60 : decode b_Rm_submit 60 = .ok (.putfield 42, 3) := by decide +kernel
theorem d_Rm_submit_63 : decode b_Rm_submit 63 = .ok (.aload_n 0, 1) := by decide +kernel
theorem d_Rm_submit_64 : decode b_Rm_submit 64 = .ok (.aload_n 2, 1) := by decide +kernel
theorem d_Rm_submit_65 : decode b_Rm_submit 65 = .ok (.putfield 46, 3) := by decide +kernel
theorem d_Rm_submit_68 : decode b_Rm_submit 68 = .ok (.aload_n 0, 1) := by decide +kernel
theorem d_Rm_submit_69 : decode b_Rm_submit 69 = .ok (.getfield 42, 3) := by decide +kernel
theorem d_Rm_submit_72 : decode b_Rm_submit 72 = .ok (.invokevirtual 85, 3) := by decide +kernel
theorem d_Rm_submit_75 : decode b_Rm_submit 75 = .ok (.iload_n 1, 1) := by decide +kernel
theorem d_Rm_submit_76 : decode b_Rm_submit 76 = .ok (.ireturn, 1) := by decide +kernel
theorem d_Rm_enable_0 : decode b_Rm_enable 0 = .ok (.aload_n 0, 1) := by decide +kernel
theorem d_Rm_enable_1 : decode b_Rm_enable 1 = .ok (.getfield 49, 3) := by decide +kernel
theorem d_Rm_enable_4 : decode b_Rm_enable 4 = .ok (.ifCond .ne 34, 3) := by decide +kernel
theorem d_Rm_enable_7 : decode b_Rm_enable 7 = .ok (.aload_n 0, 1) := by decide +kernel
theorem d_Rm_enable_8 : decode b_Rm_enable 8 = .ok (.getfield 42, 3) := by decide +kernel
theorem d_Rm_enable_11 : decode b_Rm_enable 11 = .ok (.getfield 88, 3) := by decide +kernel
theorem d_Rm_enable_14 : decode b_Rm_enable 14 = .ok (.ifCond .eq 24, 3) := by decide +kernel
theorem d_Rm_enable_17 : decode b_Rm_enable 17 = .ok (.aload_n 0, 1) := by decide +kernel
theorem d_Rm_enable_18 : decode b_Rm_enable 18 = .ok (.getfield 28, 3) := by decide +kernel
theorem d_Rm_enable_21 : decode b_Rm_enable 21 = .ok (.aload_n 0, 1) := by decide +kernel
theorem d_Rm_enable_22 : decode b_Rm_enable 22 = .ok (.getfield 28, 3) := by decide +kernel
theorem d_Rm_enable_25 : decode b_Rm_enable 25 = .ok (.getfield 91, 3) := by decide +kernel
theorem d_Rm_enable_28 : decode b_Rm_enable 28 = .ok (.aload_n 0, 1) := by decide +kernel
theorem d_Rm_enable_29 : decode b_Rm_enable 29 = .ok (.getfield 94, 3) := by decide +kernel
theorem d_Rm_enable_32 : decode b_Rm_enable 32 = .ok (.invokevirtual 97, 3) := by decide +kernel
theorem d_Rm_enable_35 : decode b_Rm_enable 35 = .ok (.ifCond .ne 11, 3) := by decide +kernel
theorem d_Rm_enable_38 : decode b_Rm_enable 38 = .ok (.new 71, 3) := by decide +kernel
theorem d_Rm_enable_41 : decode b_Rm_enable 41 = .ok (.dup, 1) := by decide +kernel
theorem d_Rm_enable_42 : decode b_Rm_enable 42 = .ok (.invokespecial 73, 3) := by decide +kernel
theorem d_Rm_enable_45 : decode b_Rm_enable 45 = .ok (.athrow, 1) := by decide +kernel
theorem d_Rm_enable_46 : decode b_Rm_enable 46 = .ok (.aload_n 0, 1) := by decide +kernel
theorem d_Rm_enable_47 : decode b_Rm_enable 47 = .ok (.getfield 42, 3) := by decide +kernel
theorem d_Rm_enable_50 : decode b_Rm_enable 50 = .ok (.invokevirtual 85, 3) := by decide +kernel
theorem d_Rm_enable_53 : decode b_Rm_enable 53 = .ok (.aload_n 0, 1) := by decide +kernel
theorem d_Rm_enable_54 : decode b_Rm_enable 54 = .ok (.iconst 1, 1) := by decide +kernel
theorem d_Rm_enable_55 : decode b_Rm_enable 55 = .ok (.putfield 49, 3) := by decide +kernel
theorem d_Rm_enable_58 : decode b_Rm_enable 58 = .ok (.aload_n 0, 1) := by decide +kernel
theorem d_Rm_enable_59 : decode b_Rm_enable 59 = .ok (.aload_n 0, 1) := by decide +kernel
theorem d_Rm_enable_60 : decode b_Rm_enable 60 = .ok (.getfield 94, 3) := by decide +kernel
theorem d_Rm_enable_63 : decode b_Rm_enable 63 = .ok (.putfield 101, 3) := by decide +kernel
theorem d_Rm_enable_66 : decode b_Rm_enable 66 = .ok (.aload_n 0, 1) := by decide +kernel
theorem d_Rm_enable_67 : decode b_Rm_enable 67 = .ok (.getfield 42, 3) := by decide +kernel
theorem d_Rm_enable_70 : decode b_Rm_enable 70 = .ok (.iconst 0, 1) := by decide +kernel
theorem d_Rm_enable_71 : decode b_Rm_enable 71 = .ok (.invokevirtual 104, 3) := by decide +kernel
theorem d_Rm_enable_74 : decode b_Rm_enable 74 = .ok (.aload_n 0, 1) := by decide +kernel
theorem d_Rm_enable_75 : decode b_Rm_enable 75 = .ok (.invokevirtual 108, 3) := by decide +kernel
theorem d_Rm_enable_78 : decode b_Rm_enable 78 = .ok (.ireturn, 1) := by decide +kernel
theorem d_Rm_cancel_0 : decode b_Rm_cancel 0 = .ok (.aload_n 0, 1) := by decide +kernel
theorem d_Rm_cancel_1 : decode b_Rm_cancel 1 = .ok (.getfield 49, 3) := by decide +kernel
theorem d_Rm_cancel_4 : decode b_Rm_cancel 4 = .ok (.iconst 1, 1) := by decide +kernel
theorem d_Rm_cancel_5 : decode b_Rm_cancel 5 = .ok (.if_icmp .eq 11, 3) := by decide +kernel
theorem d_Rm_cancel_8 : decode b_Rm_cancel 8 = .ok (.new 71, 3) := by decide +kernel
theorem d_Rm_cancel_11 : decode b_Rm_cancel 11 = .ok (.dup, 1) := by decide +kernel
theorem d_Rm_cancel_12 : decode b_Rm_cancel 12 = .ok (.invokespecial 73, 3) := by decide +kernel
theorem d_Rm_cancel_15 : decode b_Rm_cancel 15 = .ok (.athrow, 1) := by decide +kernel
theorem d_Rm_cancel_16 : decode b_Rm_cancel 16 = .ok (.aload_n 0, 1) := by decide +kernel
theorem d_Rm_cancel_17 : decode b_Rm_cancel 17 = .ok (.invokevirtual 111, 3) := by decide +kernel
theorem d_Rm_cancel_20 : decode b_Rm_cancel 20 = .ok (.return_, 1) := by decide +kernel
theorem d_Rm_minutes_0 : decode b_Rm_minutes 0 = .ok (.iload_n 1, 1) := by decide +kernel
theorem d_Rm_minutes_1 : decode b_Rm_minutes 1 = .ok (.ifCond .lt 9, 3) := by decide +kernel
theorem d_Rm_minutes_4 : decode b_Rm_minutes 4 = .ok (.iload_n 1, 1) := by decide +kernel
theorem d_Rm_minutes_5 : decode b_Rm_minutes 5 = .ok (.bipush 60, 2) := by decide +kernel
theorem d_Rm_minutes_7 : decode b_Rm_minutes 7 = .ok (.if_icmp .le 11, 3) := by decide +kernel
theorem d_Rm_minutes_10 : decode b_Rm_minutes 10 = .ok (.new 61, 3) := by decide +kernel
theorem d_Rm_minutes_13 : decode b_Rm_minutes 13 = .ok (.dup, 1) := by decide +kernel
theorem d_Rm_minutes_14 : decode b_Rm_minutes 14 = .ok (.invokespecial 63, 3) := by decide +kernel
theorem d_Rm_minutes_17 : decode b_Rm_minutes 17 = .ok (.athrow, 1) := by decide +kernel
theorem d_Rm_minutes_18 : decode b_Rm_minutes 18 = .ok (.iconst 0, 1) := by decide +kernel
theorem d_Rm_minutes_19 : decode b_Rm_minutes 19 = .ok (.istore_n 2, 1) := by decide +kernel
theorem d_Rm_minutes_20 : decode b_Rm_minutes 20 = .ok (.iconst 0, 1) := by decide +kernel
theorem d_Rm_minutes_21 : decode b_Rm_minutes 21 = .ok (.istore_n 3, 1) := by decide +kernel
theorem d_Rm_minutes_22 : decode b_Rm_minutes 22 = .ok (.iload_n 3, 1) := by decide +kernel
theorem d_Rm_minutes_23 : decode b_Rm_minutes 23 = .ok (.iload_n 1, 1) := by decide +kernel
theorem d_Rm_minutes_24 : decode b_Rm_minutes 24 = .ok (.if_icmp .ge 64, 3) := by decide +kernel
theorem d_Rm_minutes_27 : decode b_Rm_minutes 27 = .ok (.aload_n 0, 1) := by decide +kernel
theorem d_Rm_minutes_28 : decode b_Rm_minutes 28 = .ok (.dup, 1) := by decide +kernel
theorem d_Rm_minutes_29 : decode b_Rm_minutes 29 = .ok (.getfield 94, 3) := by decide +kernel
theorem d_Rm_minutes_32 : decode b_Rm_minutes 32 = .ok (.iconst 1, 1) := by decide +kernel
theorem d_Rm_minutes_33 : decode b_Rm_minutes 33 = .ok (.iadd, 1) := by decide +kernel
theorem d_Rm_minutes_34 : decode b_Rm_minutes 34 = .ok (.putfield 94, 3) := by decide +kernel
theorem d_Rm_minutes_37 : decode b_Rm_minutes 37 = .ok (.aload_n 0, 1) := by decide +kernel
theorem d_Rm_minutes_38 : decode b_Rm_minutes 38 = .ok (.getfield 49, 3) := by decide +kernel
theorem d_Rm_minutes_41 : decode b_Rm_minutes 41 = .ok (.iconst 1, 1) := by decide +kernel
theorem d_Rm_minutes_42 : decode b_Rm_minutes 42 = .ok (.if_icmp .ne 13, 3) := by decide +kernel
theorem d_Rm_minutes_45 : decode b_Rm_minutes 45 = .ok (.iload_n 2, 1) := by decide +kernel
theorem d_Rm_minutes_46 : decode b_Rm_minutes 46 = .ok (.aload_n 0, 1) := by decide +kernel
theorem d_Rm_minutes_47 : decode b_Rm_minutes 47 = .ok (.invokevirtual 114, 3) := by decide +kernel
theorem d_Rm_minutes_50 : decode b_Rm_minutes 50 = .ok (.iadd, 1) := by decide +kernel
theorem d_Rm_minutes_51 : decode b_Rm_minutes 51 = .ok (.istore_n 2, 1) := by decide +kernel
theorem d_Rm_minutes_52 : decode b_Rm_minutes 52 = .ok (.goto 30, 3) := by decide +kernel
theorem d_Rm_minutes_55 : decode b_Rm_minutes 55 = .ok (.aload_n 0, 1) := by decide +kernel
theorem d_Rm_minutes_56 : decode b_Rm_minutes 56 = .ok (.getfield 49, 3) := by decide +kernel
theorem d_Rm_minutes_59 : decode b_Rm_minutes 59 = .ok (.iconst 2, 1) := by decide +kernel
theorem d_Rm_minutes_60 : decode b_Rm_minutes 60 = .ok (.if_icmp .ne 10, 3) := by decide +kernel
theorem d_Rm_minutes_63 : decode b_Rm_minutes 63 = .ok (.aload_n 0, 1) := by decide +kernel
theorem d_Rm_minutes_64 : decode b_Rm_minutes 64 = .ok (.invokevirtual 117, 3) := by decide +kernel
theorem d_Rm_minutes_67 : decode b_Rm_minutes 67 = .ok (.goto 15, 3) := by decide +kernel
theorem d_Rm_minutes_70 : decode b_Rm_minutes 70 = .ok (.aload_n 0, 1) := by decide +kernel
theorem d_Rm_minutes_71 : decode b_Rm_minutes 71 = .ok (.getfield 28, 3) := by decide +kernel
theorem d_Rm_minutes_74 : decode b_Rm_minutes 74 = .ok (.aload_n 0, 1) := by decide +kernel
theorem d_Rm_minutes_75 : decode b_Rm_minutes 75 = .ok (.getfield 94, 3) := by decide +kernel
theorem d_Rm_minutes_78 : decode b_Rm_minutes 78 = .ok (.iconst 0, 1) := by decide +kernel
theorem d_Rm_minutes_79 : decode b_Rm_minutes 79 = .ok (.invokevirtual 120, 3) := by decide +kernel
theorem d_Rm_minutes_82 : decode b_Rm_minutes 82 = .ok (.iinc 3 1, 3) := by decide +kernel
theorem d_Rm_minutes_85 : decode b_Rm_minutes 85 = .ok (.goto (-63), 3) := by decide +kernel
theorem d_Rm_minutes_88 : decode b_Rm_minutes 88 = .ok (.iload_n 2, 1) := by decide +kernel
theorem d_Rm_minutes_89 : decode b_Rm_minutes 89 = .ok (.ireturn, 1) := by decide +kernel
theorem d_Rm_lasts_0 : decode b_Rm_lasts 0 = .ok (.aload_n 0, 1) := by decide +kernel
theorem d_Rm_lasts_1 : decode b_Rm_lasts 1 = .ok (.getfield 42, 3) := by decide +kernel
theorem d_Rm_lasts_4 : decode b_Rm_lasts 4 = .ok (.iload_n 1, 1) := by decide +kernel
theorem d_Rm_lasts_5 : decode b_Rm_lasts 5 = .ok (.invokevirtual 124, 3) := by decide +kernel
theorem d_Rm_lasts_8 : decode b_Rm_lasts 8 = .ok (.ifCond .ne 11, 3) := by decide +kernel
theorem d_Rm_lasts_11 : decode b_Rm_lasts 11 = .ok (.new 127, 3) := by decide +kernel
theorem d_Rm_lasts_14 : decode b_Rm_lasts 14 = .ok (.dup, 1) := by decide +kernel
theorem d_Rm_lasts_15 : decode b_Rm_lasts 15 = .ok (.invokespecial 129, 3) := by decide +kernel
theorem d_Rm_lasts_18 : decode b_Rm_lasts 18 = .ok (.athrow, 1) := by decide +kernel
theorem d_Rm_lasts_19 : decode b_Rm_lasts 19 = .ok (.iload_n 2, 1) := by decide +kernel
theorem d_Rm_lasts_20 : decode b_Rm_lasts 20 = .ok (.iconst 1, 1) := by decide +kernel
theorem d_Rm_lasts_21 : decode b_Rm_lasts 21 = .ok (.if_icmp .lt 9, 3) := by decide +kernel
theorem d_Rm_lasts_24 : decode b_Rm_lasts 24 = .ok (.iload_n 2, 1) := by decide +kernel
theorem d_Rm_lasts_25 : decode b_Rm_lasts 25 = .ok (.bipush 40, 2) := by decide +kernel
theorem d_Rm_lasts_27 : decode b_Rm_lasts 27 = .ok (.if_icmp .le 11, 3) := by decide +kernel
theorem d_Rm_lasts_30 : decode b_Rm_lasts 30 = .ok (.new 61, 3) := by decide +kernel
theorem d_Rm_lasts_33 : decode b_Rm_lasts 33 = .ok (.dup, 1) := by decide +kernel
theorem d_Rm_lasts_34 : decode b_Rm_lasts 34 = .ok (.invokespecial 63, 3) := by decide +kernel
theorem d_Rm_lasts_37 : decode b_Rm_lasts 37 = .ok (.athrow, 1) := by decide +kernel
theorem d_Rm_lasts_38 : decode b_Rm_lasts 38 = .ok (.aload_n 0, 1) := by decide +kernel
theorem d_Rm_lasts_39 : decode b_Rm_lasts 39 = .ok (.getfield 42, 3) := by decide +kernel
theorem d_Rm_lasts_42 : decode b_Rm_lasts 42 = .ok (.getfield 130, 3) := by decide +kernel
theorem d_Rm_lasts_45 : decode b_Rm_lasts 45 = .ok (.iload_n 1, 1) := by decide +kernel
theorem d_Rm_lasts_46 : decode b_Rm_lasts 46 = .ok (.aaload, 1) := by decide +kernel
theorem d_Rm_lasts_47 : decode b_Rm_lasts 47 = .ok (.iload_n 2, 1) := by decide +kernel
theorem d_Rm_lasts_48 : decode b_Rm_lasts 48 = .ok (.putfield 134, 3) := by decide +kernel
theorem d_Rm_lasts_51 : decode b_Rm_lasts 51 = .ok (.return_, 1) := by decide +kernel
theorem d_Rm_draws_0 : decode b_Rm_draws 0 = .ok (.aload_n 0, 1) := by decide +kernel
theorem d_Rm_draws_1 : decode b_Rm_draws 1 = .ok (.getfield 42, 3) := by decide +kernel
theorem d_Rm_draws_4 : decode b_Rm_draws 4 = .ok (.iload_n 1, 1) := by decide +kernel
theorem d_Rm_draws_5 : decode b_Rm_draws 5 = .ok (.invokevirtual 124, 3) := by decide +kernel
theorem d_Rm_draws_8 : decode b_Rm_draws 8 = .ok (.ifCond .ne 11, 3) := by decide +kernel
theorem d_Rm_draws_11 : decode b_Rm_draws 11 = .ok (.new 127, 3) := by decide +kernel
theorem d_Rm_draws_14 : decode b_Rm_draws 14 = .ok (.dup, 1) := by decide +kernel
theorem d_Rm_draws_15 : decode b_Rm_draws 15 = .ok (.invokespecial 129, 3) := by decide +kernel
theorem d_Rm_draws_18 : decode b_Rm_draws 18 = .ok (.athrow, 1) := by decide +kernel
theorem d_Rm_draws_19 : decode b_Rm_draws 19 = .ok (.iload_n 2, 1) := by decide +kernel
theorem d_Rm_draws_20 : decode b_Rm_draws 20 = .ok (.ifCond .lt 10, 3) := by decide +kernel
theorem d_Rm_draws_23 : decode b_Rm_draws 23 = .ok (.iload_n 2, 1) := by decide +kernel
theorem d_Rm_draws_24 : decode b_Rm_draws 24 = .ok (.sipush 200, 3) := by decide +kernel
theorem d_Rm_draws_27 : decode b_Rm_draws 27 = .ok (.if_icmp .le 11, 3) := by decide +kernel
theorem d_Rm_draws_30 : decode b_Rm_draws 30 = .ok (.new 61, 3) := by decide +kernel
theorem d_Rm_draws_33 : decode b_Rm_draws 33 = .ok (.dup, 1) := by decide +kernel
theorem d_Rm_draws_34 : decode b_Rm_draws 34 = .ok (.invokespecial 63, 3) := by decide +kernel
theorem d_Rm_draws_37 : decode b_Rm_draws 37 = .ok (.athrow, 1) := by decide +kernel
theorem d_Rm_draws_38 : decode b_Rm_draws 38 = .ok (.aload_n 0, 1) := by decide +kernel
theorem d_Rm_draws_39 : decode b_Rm_draws 39 = .ok (.getfield 42, 3) := by decide +kernel
theorem d_Rm_draws_42 : decode b_Rm_draws 42 = .ok (.getfield 130, 3) := by decide +kernel
theorem d_Rm_draws_45 : decode b_Rm_draws 45 = .ok (.iload_n 1, 1) := by decide +kernel
theorem d_Rm_draws_46 : decode b_Rm_draws 46 = .ok (.aaload, 1) := by decide +kernel
theorem d_Rm_draws_47 : decode b_Rm_draws 47 = .ok (.iload_n 2, 1) := by decide +kernel
theorem d_Rm_draws_48 : decode b_Rm_draws 48 = .ok (.putfield 139, 3) := by decide +kernel
theorem d_Rm_draws_51 : decode b_Rm_draws 51 = .ok (.return_, 1) := by decide +kernel
theorem d_Rm_curve_0 : decode b_Rm_curve 0 = .ok (.iload_n 1, 1) := by decide +kernel
theorem d_Rm_curve_1 : decode b_Rm_curve 1 = .ok (.ifCond .lt 9, 3) := by decide +kernel
theorem d_Rm_curve_4 : decode b_Rm_curve 4 = .ok (.iload_n 1, 1) := by decide +kernel
theorem d_Rm_curve_5 : decode b_Rm_curve 5 = .ok (.bipush 24, 2) := by decide +kernel
theorem d_Rm_curve_7 : decode b_Rm_curve 7 = .ok (.if_icmp .lt 11, 3) := by decide +kernel
theorem d_Rm_curve_10 : decode b_Rm_curve 10 = .ok (.new 127, 3) := by decide +kernel
theorem d_Rm_curve_13 : decode b_Rm_curve 13 = .ok (.dup, 1) := by decide +kernel
theorem d_Rm_curve_14 : decode b_Rm_curve 14 = .ok (.invokespecial 129, 3) := by decide +kernel
theorem d_Rm_curve_17 : decode b_Rm_curve 17 = .ok (.athrow, 1) := by decide +kernel
theorem d_Rm_curve_18 : decode b_Rm_curve 18 = .ok (.iload_n 2, 1) := by decide +kernel
theorem d_Rm_curve_19 : decode b_Rm_curve 19 = .ok (.ifCond .lt 9, 3) := by decide +kernel
theorem d_Rm_curve_22 : decode b_Rm_curve 22 = .ok (.iload_n 2, 1) := by decide +kernel
theorem d_Rm_curve_23 : decode b_Rm_curve 23 = .ok (.bipush 50, 2) := by decide +kernel
theorem d_Rm_curve_25 : decode b_Rm_curve 25 = .ok (.if_icmp .le 11, 3) := by decide +kernel
theorem d_Rm_curve_28 : decode b_Rm_curve 28 = .ok (.new 61, 3) := by decide +kernel
theorem d_Rm_curve_31 : decode b_Rm_curve 31 = .ok (.dup, 1) := by decide +kernel
theorem d_Rm_curve_32 : decode b_Rm_curve 32 = .ok (.invokespecial 63, 3) := by decide +kernel
theorem d_Rm_curve_35 : decode b_Rm_curve 35 = .ok (.athrow, 1) := by decide +kernel
theorem d_Rm_curve_36 : decode b_Rm_curve 36 = .ok (.aload_n 0, 1) := by decide +kernel
theorem d_Rm_curve_37 : decode b_Rm_curve 37 = .ok (.getfield 28, 3) := by decide +kernel
theorem d_Rm_curve_40 : decode b_Rm_curve 40 = .ok (.iload_n 1, 1) := by decide +kernel
theorem d_Rm_curve_41 : decode b_Rm_curve 41 = .ok (.iload_n 2, 1) := by decide +kernel
theorem d_Rm_curve_42 : decode b_Rm_curve 42 = .ok (.invokevirtual 142, 3) := by decide +kernel
theorem d_Rm_curve_45 : decode b_Rm_curve 45 = .ok (.return_, 1) := by decide +kernel
theorem d_Rm_gain_0 : decode b_Rm_gain 0 = .ok (.iload_n 1, 1) := by decide +kernel
theorem d_Rm_gain_1 : decode b_Rm_gain 1 = .ok (.iconst (-1), 1) := by decide +kernel
theorem d_Rm_gain_2 : decode b_Rm_gain 2 = .ok (.if_icmp .lt 9, 3) := by decide +kernel
theorem d_Rm_gain_5 : decode b_Rm_gain 5 = .ok (.iload_n 1, 1) := by decide +kernel
theorem d_Rm_gain_6 : decode b_Rm_gain 6 = .ok (.bipush 100, 2) := by decide +kernel
theorem d_Rm_gain_8 : decode b_Rm_gain 8 = .ok (.if_icmp .le 11, 3) := by decide +kernel
theorem d_Rm_gain_11 : decode b_Rm_gain 11 = .ok (.new 61, 3) := by decide +kernel
theorem d_Rm_gain_14 : decode b_Rm_gain 14 = .ok (.dup, 1) := by decide +kernel
theorem d_Rm_gain_15 : decode b_Rm_gain 15 = .ok (.invokespecial 63, 3) := by decide +kernel
theorem d_Rm_gain_18 : decode b_Rm_gain 18 = .ok (.athrow, 1) := by decide +kernel
theorem d_Rm_gain_19 : decode b_Rm_gain 19 = .ok (.aload_n 0, 1) := by decide +kernel
theorem d_Rm_gain_20 : decode b_Rm_gain 20 = .ok (.getfield 28, 3) := by decide +kernel
theorem d_Rm_gain_23 : decode b_Rm_gain 23 = .ok (.iload_n 1, 1) := by decide +kernel
theorem d_Rm_gain_24 : decode b_Rm_gain 24 = .ok (.putfield 145, 3) := by decide +kernel
theorem d_Rm_gain_27 : decode b_Rm_gain 27 = .ok (.return_, 1) := by decide +kernel
theorem d_Rm_home_0 : decode b_Rm_home 0 = .ok (.iload_n 1, 1) := by decide +kernel
theorem d_Rm_home_1 : decode b_Rm_home 1 = .ok (.iconst 1, 1) := by decide +kernel
theorem d_Rm_home_2 : decode b_Rm_home 2 = .ok (.if_icmp .lt 19, 3) := by decide +kernel
theorem d_Rm_home_5 : decode b_Rm_home 5 = .ok (.iload_n 1, 1) := by decide +kernel
theorem d_Rm_home_6 : decode b_Rm_home 6 = .ok (.bipush 20, 2) := by decide +kernel
theorem d_Rm_home_8 : decode b_Rm_home 8 = .ok (.if_icmp .gt 13, 3) := by decide +kernel
theorem d_Rm_home_11 : decode b_Rm_home 11 = .ok (.iload_n 2, 1) := by decide +kernel
theorem d_Rm_home_12 : decode b_Rm_home 12 = .ok (.ifCond .lt 9, 3) := by decide +kernel
theorem d_Rm_home_15 : decode b_Rm_home 15 = .ok (.iload_n 2, 1) := by decide +kernel
theorem d_Rm_home_16 : decode b_Rm_home 16 = .ok (.bipush 99, 2) := by decide +kernel
theorem d_Rm_home_18 : decode b_Rm_home 18 = .ok (.if_icmp .le 11, 3) := by decide +kernel
theorem d_Rm_home_21 : decode b_Rm_home 21 = .ok (.new 61, 3) := by decide +kernel
theorem d_Rm_home_24 : decode b_Rm_home 24 = .ok (.dup, 1) := by decide +kernel
theorem d_Rm_home_25 : decode b_Rm_home 25 = .ok (.invokespecial 63, 3) := by decide +kernel
theorem d_Rm_home_28 : decode b_Rm_home 28 = .ok (.athrow, 1) := by decide +kernel
theorem d_Rm_home_29 : decode b_Rm_home 29 = .ok (.aload_n 0, 1) := by decide +kernel
theorem d_Rm_home_30 : decode b_Rm_home 30 = .ok (.getfield 49, 3) := by decide +kernel
theorem d_Rm_home_33 : decode b_Rm_home 33 = .ok (.ifCond .eq 11, 3) := by decide +kernel
theorem d_Rm_home_36 : decode b_Rm_home 36 = .ok (.new 71, 3) := by decide +kernel
theorem d_Rm_home_39 : decode b_Rm_home 39 = .ok (.dup, 1) := by decide +kernel
theorem d_Rm_home_40 : decode b_Rm_home 40 = .ok (.invokespecial 73, 3) := by decide +kernel
theorem d_Rm_home_43 : decode b_Rm_home 43 = .ok (.athrow, 1) := by decide +kernel
theorem d_Rm_home_44 : decode b_Rm_home 44 = .ok (.aload_n 0, 1) := by decide +kernel
theorem d_Rm_home_45 : decode b_Rm_home 45 = .ok (.getfield 28, 3) := by decide +kernel
theorem d_Rm_home_48 : decode b_Rm_home 48 = .ok (.iload_n 1, 1) := by decide +kernel
theorem d_Rm_home_49 : decode b_Rm_home 49 = .ok (.iload_n 2, 1) := by decide +kernel
theorem d_Rm_home_50 : decode b_Rm_home 50 = .ok (.invokevirtual 148, 3) := by decide +kernel
theorem d_Rm_home_53 : decode b_Rm_home 53 = .ok (.return_, 1) := by decide +kernel
theorem d_Rm_fill_0 : decode b_Rm_fill 0 = .ok (.iload_n 1, 1) := by decide +kernel
theorem d_Rm_fill_1 : decode b_Rm_fill 1 = .ok (.ifCond .lt 21, 3) := by decide +kernel
theorem d_Rm_fill_4 : decode b_Rm_fill 4 = .ok (.iload_n 1, 1) := by decide +kernel
theorem d_Rm_fill_5 : decode b_Rm_fill 5 = .ok (.sipush 1000, 3) := by decide +kernel
theorem d_Rm_fill_8 : decode b_Rm_fill 8 = .ok (.if_icmp .gt 14, 3) := by decide +kernel
theorem d_Rm_fill_11 : decode b_Rm_fill 11 = .ok (.iload_n 2, 1) := by decide +kernel
theorem d_Rm_fill_12 : decode b_Rm_fill 12 = .ok (.ifCond .lt 10, 3) := by decide +kernel
theorem d_Rm_fill_15 : decode b_Rm_fill 15 = .ok (.iload_n 2, 1) := by decide +kernel
theorem d_Rm_fill_16 : decode b_Rm_fill 16 = .ok (.sipush 500, 3) := by decide +kernel
theorem d_Rm_fill_19 : decode b_Rm_fill 19 = .ok (.if_icmp .le 11, 3) := by decide +kernel
theorem d_Rm_fill_22 : decode b_Rm_fill 22 = .ok (.new 61, 3) := by decide +kernel
theorem d_Rm_fill_25 : decode b_Rm_fill 25 = .ok (.dup, 1) := by decide +kernel
theorem d_Rm_fill_26 : decode b_Rm_fill 26 = .ok (.invokespecial 63, 3) := by decide +kernel
theorem d_Rm_fill_29 : decode b_Rm_fill 29 = .ok (.athrow, 1) := by decide +kernel
theorem d_Rm_fill_30 : decode b_Rm_fill 30 = .ok (.aload_n 0, 1) := by decide +kernel
theorem d_Rm_fill_31 : decode b_Rm_fill 31 = .ok (.getfield 49, 3) := by decide +kernel
theorem d_Rm_fill_34 : decode b_Rm_fill 34 = .ok (.ifCond .eq 11, 3) := by decide +kernel
theorem d_Rm_fill_37 : decode b_Rm_fill 37 = .ok (.new 71, 3) := by decide +kernel
theorem d_Rm_fill_40 : decode b_Rm_fill 40 = .ok (.dup, 1) := by decide +kernel
theorem d_Rm_fill_41 : decode b_Rm_fill 41 = .ok (.invokespecial 73, 3) := by decide +kernel
theorem d_Rm_fill_44 : decode b_Rm_fill 44 = .ok (.athrow, 1) := by decide +kernel
theorem d_Rm_fill_45 : decode b_Rm_fill 45 = .ok (.aload_n 0, 1) := by decide +kernel
theorem d_Rm_fill_46 : decode b_Rm_fill 46 = .ok (.getfield 28, 3) := by decide +kernel
theorem d_Rm_fill_49 : decode b_Rm_fill 49 = .ok (.iload_n 1, 1) := by decide +kernel
theorem d_Rm_fill_50 : decode b_Rm_fill 50 = .ok (.putfield 91, 3) := by decide +kernel
theorem d_Rm_fill_53 : decode b_Rm_fill 53 = .ok (.aload_n 0, 1) := by decide +kernel
theorem d_Rm_fill_54 : decode b_Rm_fill 54 = .ok (.getfield 28, 3) := by decide +kernel
theorem d_Rm_fill_57 : decode b_Rm_fill 57 = .ok (.iload_n 2, 1) := by decide +kernel
theorem d_Rm_fill_58 : decode b_Rm_fill 58 = .ok (.putfield 151, 3) := by decide +kernel
theorem d_Rm_fill_61 : decode b_Rm_fill 61 = .ok (.return_, 1) := by decide +kernel
theorem d_Rm_now_0 : decode b_Rm_now 0 = .ok (.aload_n 0, 1) := by decide +kernel
theorem d_Rm_now_1 : decode b_Rm_now 1 = .ok (.getfield 94, 3) := by decide +kernel
theorem d_Rm_now_4 : decode b_Rm_now 4 = .ok (.ireturn, 1) := by decide +kernel
theorem d_Rm_mode_0 : decode b_Rm_mode 0 = .ok (.aload_n 0, 1) := by decide +kernel
theorem d_Rm_mode_1 : decode b_Rm_mode 1 = .ok (.getfield 49, 3) := by decide +kernel
theorem d_Rm_mode_4 : decode b_Rm_mode 4 = .ok (.ireturn, 1) := by decide +kernel
theorem d_Rm_level_0 : decode b_Rm_level 0 = .ok (.iload_n 1, 1) := by decide +kernel
theorem d_Rm_level_1 : decode b_Rm_level 1 = .ok (.tableswitch 51 0 2 #[27, 35, 43], 27) := by decide +kernel
theorem d_Rm_level_28 : decode b_Rm_level 28 = .ok (.aload_n 0, 1) := by decide +kernel
theorem d_Rm_level_29 : decode b_Rm_level 29 = .ok (.getfield 28, 3) := by decide +kernel
theorem d_Rm_level_32 : decode b_Rm_level 32 = .ok (.getfield 91, 3) := by decide +kernel
theorem d_Rm_level_35 : decode b_Rm_level 35 = .ok (.ireturn, 1) := by decide +kernel
theorem d_Rm_level_36 : decode b_Rm_level 36 = .ok (.aload_n 0, 1) := by decide +kernel
theorem d_Rm_level_37 : decode b_Rm_level 37 = .ok (.getfield 28, 3) := by decide +kernel
theorem d_Rm_level_40 : decode b_Rm_level 40 = .ok (.getfield 151, 3) := by decide +kernel
theorem d_Rm_level_43 : decode b_Rm_level 43 = .ok (.ireturn, 1) := by decide +kernel
theorem d_Rm_level_44 : decode b_Rm_level 44 = .ok (.aload_n 0, 1) := by decide +kernel
theorem d_Rm_level_45 : decode b_Rm_level 45 = .ok (.getfield 42, 3) := by decide +kernel
theorem d_Rm_level_48 : decode b_Rm_level 48 = .ok (.invokevirtual 154, 3) := by decide +kernel
theorem d_Rm_level_51 : decode b_Rm_level 51 = .ok (.ireturn, 1) := by decide +kernel
theorem d_Rm_level_52 : decode b_Rm_level 52 = .ok (.new 127, 3) := by decide +kernel
theorem d_Rm_level_55 : decode b_Rm_level 55 = .ok (.dup, 1) := by decide +kernel
theorem d_Rm_level_56 : decode b_Rm_level 56 = .ok (.invokespecial 129, 3) := by decide +kernel
theorem d_Rm_level_59 : decode b_Rm_level 59 = .ok (.athrow, 1) := by decide +kernel
theorem d_Rm_reserve_0 : decode b_Rm_reserve 0 = .ok (.aload_n 0, 1) := by decide +kernel
theorem d_Rm_reserve_1 : decode b_Rm_reserve 1 = .ok (.getfield 28, 3) := by decide +kernel
theorem d_Rm_reserve_4 : decode b_Rm_reserve 4 = .ok (.aload_n 0, 1) := by decide +kernel
theorem d_Rm_reserve_5 : decode b_Rm_reserve 5 = .ok (.getfield 94, 3) := by decide +kernel
theorem d_Rm_reserve_8 : decode b_Rm_reserve 8 = .ok (.invokevirtual 157, 3) := by decide +kernel
theorem d_Rm_reserve_11 : decode b_Rm_reserve 11 = .ok (.ireturn, 1) := by decide +kernel
theorem d_Rm_activities_0 : decode b_Rm_activities 0 = .ok (.aload_n 0, 1) := by decide +kernel
theorem d_Rm_activities_1 : decode b_Rm_activities 1 = .ok (.getfield 42, 3) := by decide +kernel
theorem d_Rm_activities_4 : decode b_Rm_activities 4 = .ok (.getfield 88, 3) := by decide +kernel
end
section
theorem d_Rm_activities_7 : decode b_Rm_activities 7 = .ok (.ireturn, 1) := by decide +kernel
theorem d_Rm_activity_0 : decode b_Rm_activity 0 = .ok (.aload_n 0, 1) := by decide +kernel
theorem d_Rm_activity_1 : decode b_Rm_activity 1 = .ok (.getfield 42, 3) := by decide +kernel
theorem d_Rm_activity_4 : decode b_Rm_activity 4 = .ok (.iload_n 1, 1) := by decide +kernel
theorem d_Rm_activity_5 : decode b_Rm_activity 5 = .ok (.invokevirtual 124, 3) := by decide +kernel
theorem d_Rm_activity_8 : decode b_Rm_activity 8 = .ok (.ifCond .ne 11, 3) := by decide +kernel
theorem d_Rm_activity_11 : decode b_Rm_activity 11 = .ok (.new 127, 3) := by decide +kernel
theorem d_Rm_activity_14 : decode b_Rm_activity 14 = .ok (.dup, 1) := by decide +kernel
theorem d_Rm_activity_15 : decode b_Rm_activity 15 = .ok (.invokespecial 129, 3) := by decide +kernel
theorem d_Rm_activity_18 : decode b_Rm_activity 18 = .ok (.athrow, 1) := by decide +kernel
theorem d_Rm_activity_19 : decode b_Rm_activity 19 = .ok (.aload_n 0, 1) := by decide +kernel
theorem d_Rm_activity_20 : decode b_Rm_activity 20 = .ok (.getfield 42, 3) := by decide +kernel
theorem d_Rm_activity_23 : decode b_Rm_activity 23 = .ok (.getfield 130, 3) := by decide +kernel
theorem d_Rm_activity_26 : decode b_Rm_activity 26 = .ok (.iload_n 1, 1) := by decide +kernel
theorem d_Rm_activity_27 : decode b_Rm_activity 27 = .ok (.aaload, 1) := by decide +kernel
theorem d_Rm_activity_28 : decode b_Rm_activity 28 = .ok (.astore_n 3, 1) := by decide +kernel
theorem d_Rm_activity_29 : decode b_Rm_activity 29 = .ok (.iload_n 2, 1) := by decide +kernel
theorem d_Rm_activity_30 : decode b_Rm_activity 30 = .ok (.tableswitch 68 0 5 #[38, 43, 48, 53, 58, 63], 38) := by decide +kernel
theorem d_Rm_activity_68 : decode b_Rm_activity 68 = .ok (.aload_n 3, 1) := by decide +kernel
theorem d_Rm_activity_69 : decode b_Rm_activity 69 = .ok (.getfield 161, 3) := by decide +kernel
theorem d_Rm_activity_72 : decode b_Rm_activity 72 = .ok (.ireturn, 1) := by decide +kernel
theorem d_Rm_activity_73 : decode b_Rm_activity 73 = .ok (.aload_n 3, 1) := by decide +kernel
theorem d_Rm_activity_74 : decode b_Rm_activity 74 = .ok (.getfield 164, 3) := by decide +kernel
theorem d_Rm_activity_77 : decode b_Rm_activity 77 = .ok (.ireturn, 1) := by decide +kernel
theorem d_Rm_activity_78 : decode b_Rm_activity 78 = .ok (.aload_n 3, 1) := by decide +kernel
theorem d_Rm_activity_79 : decode b_Rm_activity 79 = .ok (.getfield 167, 3) := by decide +kernel
theorem d_Rm_activity_82 : decode b_Rm_activity 82 = .ok (.ireturn, 1) := by decide +kernel
theorem d_Rm_activity_83 : decode b_Rm_activity 83 = .ok (.aload_n 3, 1) := by decide +kernel
theorem d_Rm_activity_84 : decode b_Rm_activity 84 = .ok (.getfield 170, 3) := by decide +kernel
theorem d_Rm_activity_87 : decode b_Rm_activity 87 = .ok (.ireturn, 1) := by decide +kernel
theorem d_Rm_activity_88 : decode b_Rm_activity 88 = .ok (.aload_n 3, 1) := by decide +kernel
theorem d_Rm_activity_89 : decode b_Rm_activity 89 = .ok (.getfield 173, 3) := by decide +kernel
theorem d_Rm_activity_92 : decode b_Rm_activity 92 = .ok (.ireturn, 1) := by decide +kernel
theorem d_Rm_activity_93 : decode b_Rm_activity 93 = .ok (.aload_n 3, 1) := by decide +kernel
theorem d_Rm_activity_94 : decode b_Rm_activity 94 = .ok (.getfield 176, 3) := by decide +kernel
theorem d_Rm_activity_97 : decode b_Rm_activity 97 = .ok (.ireturn, 1) := by decide +kernel
theorem d_Rm_activity_98 : decode b_Rm_activity 98 = .ok (.new 127, 3) := by decide +kernel
theorem d_Rm_activity_101 : decode b_Rm_activity 101 = .ok (.dup, 1) := by decide +kernel
theorem d_Rm_activity_102 : decode b_Rm_activity 102 = .ok (.invokespecial 129, 3) := by decide +kernel
theorem d_Rm_activity_105 : decode b_Rm_activity 105 = .ok (.athrow, 1) := by decide +kernel
theorem d_Rm_lowest_0 : decode b_Rm_lowest 0 = .ok (.aload_n 0, 1) := by decide +kernel
theorem d_Rm_lowest_1 : decode b_Rm_lowest 1 = .ok (.getfield 35, 3) := by decide +kernel
theorem d_Rm_lowest_4 : decode b_Rm_lowest 4 = .ok (.aload_n 0, 1) := by decide +kernel
theorem d_Rm_lowest_5 : decode b_Rm_lowest 5 = .ok (.getfield 42, 3) := by decide +kernel
theorem d_Rm_lowest_8 : decode b_Rm_lowest 8 = .ok (.iconst (-1), 1) := by decide +kernel
theorem d_Rm_lowest_9 : decode b_Rm_lowest 9 = .ok (.invokevirtual 179, 3) := by decide +kernel
theorem d_Rm_lowest_12 : decode b_Rm_lowest 12 = .ok (.aload_n 0, 1) := by decide +kernel
theorem d_Rm_lowest_13 : decode b_Rm_lowest 13 = .ok (.getfield 35, 3) := by decide +kernel
theorem d_Rm_lowest_16 : decode b_Rm_lowest 16 = .ok (.aload_n 0, 1) := by decide +kernel
theorem d_Rm_lowest_17 : decode b_Rm_lowest 17 = .ok (.getfield 28, 3) := by decide +kernel
theorem d_Rm_lowest_20 : decode b_Rm_lowest 20 = .ok (.aload_n 0, 1) := by decide +kernel
theorem d_Rm_lowest_21 : decode b_Rm_lowest 21 = .ok (.getfield 94, 3) := by decide +kernel
theorem d_Rm_lowest_24 : decode b_Rm_lowest 24 = .ok (.invokevirtual 183, 3) := by decide +kernel
theorem d_Rm_lowest_27 : decode b_Rm_lowest 27 = .ok (.ireturn, 1) := by decide +kernel
theorem d_Rm_could_0 : decode b_Rm_could 0 = .ok (.aload_n 0, 1) := by decide +kernel
theorem d_Rm_could_1 : decode b_Rm_could 1 = .ok (.getfield 42, 3) := by decide +kernel
theorem d_Rm_could_4 : decode b_Rm_could 4 = .ok (.iload_n 1, 1) := by decide +kernel
theorem d_Rm_could_5 : decode b_Rm_could 5 = .ok (.invokevirtual 124, 3) := by decide +kernel
theorem d_Rm_could_8 : decode b_Rm_could 8 = .ok (.ifCond .ne 11, 3) := by decide +kernel
theorem d_Rm_could_11 : decode b_Rm_could 11 = .ok (.new 127, 3) := by decide +kernel
theorem d_Rm_could_14 : decode b_Rm_could 14 = .ok (.dup, 1) := by decide +kernel
theorem d_Rm_could_15 : decode b_Rm_could 15 = .ok (.invokespecial 129, 3) := by decide +kernel
theorem d_Rm_could_18 : decode b_Rm_could 18 = .ok (.athrow, 1) := by decide +kernel
theorem d_Rm_could_19 : decode b_Rm_could 19 = .ok (.aload_n 0, 1) := by decide +kernel
theorem d_Rm_could_20 : decode b_Rm_could 20 = .ok (.getfield 49, 3) := by decide +kernel
theorem d_Rm_could_23 : decode b_Rm_could 23 = .ok (.iconst 1, 1) := by decide +kernel
theorem d_Rm_could_24 : decode b_Rm_could 24 = .ok (.if_icmp .ne 15, 3) := by decide +kernel
theorem d_Rm_could_27 : decode b_Rm_could 27 = .ok (.aload_n 0, 1) := by decide +kernel
theorem d_Rm_could_28 : decode b_Rm_could 28 = .ok (.iload_n 1, 1) := by decide +kernel
theorem d_Rm_could_29 : decode b_Rm_could 29 = .ok (.invokevirtual 187, 3) := by decide +kernel
theorem d_Rm_could_32 : decode b_Rm_could 32 = .ok (.ifCond .eq 7, 3) := by decide +kernel
theorem d_Rm_could_35 : decode b_Rm_could 35 = .ok (.iconst 1, 1) := by decide +kernel
theorem d_Rm_could_36 : decode b_Rm_could 36 = .ok (.goto 4, 3) := by decide +kernel
theorem d_Rm_could_39 : decode b_Rm_could 39 = .ok (.iconst 0, 1) := by decide +kernel
theorem d_Rm_could_40 : decode b_Rm_could 40 = .ok (.ireturn, 1) := by decide +kernel
theorem d_Rm_byteOf_0 : decode b_Rm_byteOf 0 = .ok (.iload_n 0, 1) := by decide +kernel
theorem d_Rm_byteOf_1 : decode b_Rm_byteOf 1 = .ok (.bipush 8, 2) := by decide +kernel
theorem d_Rm_byteOf_3 : decode b_Rm_byteOf 3 = .ok (.iload_n 1, 1) := by decide +kernel
theorem d_Rm_byteOf_4 : decode b_Rm_byteOf 4 = .ok (.imul, 1) := by decide +kernel
theorem d_Rm_byteOf_5 : decode b_Rm_byteOf 5 = .ok (.iushr, 1) := by decide +kernel
theorem d_Rm_byteOf_6 : decode b_Rm_byteOf 6 = .ok (.sipush 255, 3) := by decide +kernel
theorem d_Rm_byteOf_9 : decode b_Rm_byteOf 9 = .ok (.iand, 1) := by decide +kernel
theorem d_Rm_byteOf_10 : decode b_Rm_byteOf 10 = .ok (.ireturn, 1) := by decide +kernel
theorem d_Rm_passInPlan_0 : decode b_Rm_passInPlan 0 = .ok (.aload_n 0, 1) := by decide +kernel
theorem d_Rm_passInPlan_1 : decode b_Rm_passInPlan 1 = .ok (.getfield 28, 3) := by decide +kernel
theorem d_Rm_passInPlan_4 : decode b_Rm_passInPlan 4 = .ok (.aload_n 0, 1) := by decide +kernel
theorem d_Rm_passInPlan_5 : decode b_Rm_passInPlan 5 = .ok (.getfield 94, 3) := by decide +kernel
theorem d_Rm_passInPlan_8 : decode b_Rm_passInPlan 8 = .ok (.aload_n 0, 1) := by decide +kernel
theorem d_Rm_passInPlan_9 : decode b_Rm_passInPlan 9 = .ok (.getfield 42, 3) := by decide +kernel
theorem d_Rm_passInPlan_12 : decode b_Rm_passInPlan 12 = .ok (.invokevirtual 190, 3) := by decide +kernel
theorem d_Rm_passInPlan_15 : decode b_Rm_passInPlan 15 = .ok (.invokevirtual 120, 3) := by decide +kernel
theorem d_Rm_passInPlan_18 : decode b_Rm_passInPlan 18 = .ok (.aload_n 0, 1) := by decide +kernel
theorem d_Rm_passInPlan_19 : decode b_Rm_passInPlan 19 = .ok (.getfield 28, 3) := by decide +kernel
theorem d_Rm_passInPlan_22 : decode b_Rm_passInPlan 22 = .ok (.aload_n 0, 1) := by decide +kernel
theorem d_Rm_passInPlan_23 : decode b_Rm_passInPlan 23 = .ok (.getfield 42, 3) := by decide +kernel
theorem d_Rm_passInPlan_26 : decode b_Rm_passInPlan 26 = .ok (.invokevirtual 193, 3) := by decide +kernel
theorem d_Rm_passInPlan_29 : decode b_Rm_passInPlan 29 = .ok (.invokevirtual 196, 3) := by decide +kernel
theorem d_Rm_passInPlan_32 : decode b_Rm_passInPlan 32 = .ok (.aload_n 0, 1) := by decide +kernel
theorem d_Rm_passInPlan_33 : decode b_Rm_passInPlan 33 = .ok (.getfield 42, 3) := by decide +kernel
theorem d_Rm_passInPlan_36 : decode b_Rm_passInPlan 36 = .ok (.invokevirtual 199, 3) := by decide +kernel
theorem d_Rm_passInPlan_39 : decode b_Rm_passInPlan 39 = .ok (.aload_n 0, 1) := by decide +kernel
theorem d_Rm_passInPlan_40 : decode b_Rm_passInPlan 40 = .ok (.getfield 42, 3) := by decide +kernel
theorem d_Rm_passInPlan_43 : decode b_Rm_passInPlan 43 = .ok (.aload_n 0, 1) := by decide +kernel
theorem d_Rm_passInPlan_44 : decode b_Rm_passInPlan 44 = .ok (.getfield 94, 3) := by decide +kernel
theorem d_Rm_passInPlan_47 : decode b_Rm_passInPlan 47 = .ok (.aload_n 0, 1) := by decide +kernel
theorem d_Rm_passInPlan_48 : decode b_Rm_passInPlan 48 = .ok (.getfield 101, 3) := by decide +kernel
theorem d_Rm_passInPlan_51 : decode b_Rm_passInPlan 51 = .ok (.isub, 1) := by decide +kernel
theorem d_Rm_passInPlan_52 : decode b_Rm_passInPlan 52 = .ok (.invokevirtual 104, 3) := by decide +kernel
theorem d_Rm_passInPlan_55 : decode b_Rm_passInPlan 55 = .ok (.aload_n 0, 1) := by decide +kernel
theorem d_Rm_passInPlan_56 : decode b_Rm_passInPlan 56 = .ok (.getfield 28, 3) := by decide +kernel
theorem d_Rm_passInPlan_59 : decode b_Rm_passInPlan 59 = .ok (.aload_n 0, 1) := by decide +kernel
theorem d_Rm_passInPlan_60 : decode b_Rm_passInPlan 60 = .ok (.getfield 28, 3) := by decide +kernel
theorem d_Rm_passInPlan_63 : decode b_Rm_passInPlan 63 = .ok (.getfield 91, 3) := by decide +kernel
theorem d_Rm_passInPlan_66 : decode b_Rm_passInPlan 66 = .ok (.aload_n 0, 1) := by decide +kernel
theorem d_Rm_passInPlan_67 : decode b_Rm_passInPlan 67 = .ok (.getfield 94, 3) := by decide +kernel
theorem d_Rm_passInPlan_70 : decode b_Rm_passInPlan 70 = .ok (.invokevirtual 97, 3) := by decide +kernel
theorem d_Rm_passInPlan_73 : decode b_Rm_passInPlan 73 = .ok (.ifCond .ne 9, 3) := by decide +kernel
theorem d_Rm_passInPlan_76 : decode b_Rm_passInPlan 76 = .ok (.aload_n 0, 1) := by decide +kernel
theorem d_Rm_passInPlan_77 : decode b_Rm_passInPlan 77 = .ok (.invokevirtual 111, 3) := by decide +kernel
theorem d_Rm_passInPlan_80 : decode b_Rm_passInPlan 80 = .ok (.iconst 0, 1) := by decide +kernel
theorem d_Rm_passInPlan_81 : decode b_Rm_passInPlan 81 = .ok (.ireturn, 1) := by decide +kernel
theorem d_Rm_passInPlan_82 : decode b_Rm_passInPlan 82 = .ok (.aload_n 0, 1) := by decide +kernel
theorem d_Rm_passInPlan_83 : decode b_Rm_passInPlan 83 = .ok (.invokevirtual 108, 3) := by decide +kernel
theorem d_Rm_passInPlan_86 : decode b_Rm_passInPlan 86 = .ok (.ireturn, 1) := by decide +kernel
theorem d_Rm_passInReturn_0 : decode b_Rm_passInReturn 0 = .ok (.aload_n 0, 1) := by decide +kernel
theorem d_Rm_passInReturn_1 : decode b_Rm_passInReturn 1 = .ok (.getfield 28, 3) := by decide +kernel
theorem d_Rm_passInReturn_4 : decode b_Rm_passInReturn 4 = .ok (.aload_n 0, 1) := by decide +kernel
theorem d_Rm_passInReturn_5 : decode b_Rm_passInReturn 5 = .ok (.getfield 94, 3) := by decide +kernel
theorem d_Rm_passInReturn_8 : decode b_Rm_passInReturn 8 = .ok (.aload_n 0, 1) := by decide +kernel
theorem d_Rm_passInReturn_9 : decode b_Rm_passInReturn 9 = .ok (.getfield 28, 3) := by decide +kernel
theorem d_Rm_passInReturn_12 : decode b_Rm_passInReturn 12 = .ok (.getfield 202, 3) := by decide +kernel
theorem d_Rm_passInReturn_15 : decode b_Rm_passInReturn 15 = .ok (.invokevirtual 120, 3) := by decide +kernel
theorem d_Rm_passInReturn_18 : decode b_Rm_passInReturn 18 = .ok (.aload_n 0, 1) := by decide +kernel
theorem d_Rm_passInReturn_19 : decode b_Rm_passInReturn 19 = .ok (.dup, 1) := by decide +kernel
theorem d_Rm_passInReturn_20 : decode b_Rm_passInReturn 20 = .ok (.getfield 205, 3) := by decide +kernel
theorem d_Rm_passInReturn_23 : decode b_Rm_passInReturn 23 = .ok (.iconst 1, 1) := by decide +kernel
theorem d_Rm_passInReturn_24 : decode b_Rm_passInReturn 24 = .ok (.isub, 1) := by decide +kernel
theorem d_Rm_passInReturn_25 : decode b_Rm_passInReturn 25 = .ok (.putfield 205, 3) := by decide +kernel
theorem d_Rm_passInReturn_28 : decode b_Rm_passInReturn 28 = .ok (.aload_n 0, 1) := by decide +kernel
theorem d_Rm_passInReturn_29 : decode b_Rm_passInReturn 29 = .ok (.getfield 205, 3) := by decide +kernel
theorem d_Rm_passInReturn_32 : decode b_Rm_passInReturn 32 = .ok (.ifCond .gt 8, 3) := by decide +kernel
theorem d_Rm_passInReturn_35 : decode b_Rm_passInReturn 35 = .ok (.aload_n 0, 1) := by decide +kernel
theorem d_Rm_passInReturn_36 : decode b_Rm_passInReturn 36 = .ok (.iconst 0, 1) := by decide +kernel
theorem d_Rm_passInReturn_37 : decode b_Rm_passInReturn 37 = .ok (.putfield 49, 3) := by decide +kernel
theorem d_Rm_passInReturn_40 : decode b_Rm_passInReturn 40 = .ok (.return_, 1) := by decide +kernel
theorem d_Rm_beginReturn_0 : decode b_Rm_beginReturn 0 = .ok (.aload_n 0, 1) := by decide +kernel
theorem d_Rm_beginReturn_1 : decode b_Rm_beginReturn 1 = .ok (.getfield 42, 3) := by decide +kernel
theorem d_Rm_beginReturn_4 : decode b_Rm_beginReturn 4 = .ok (.invokevirtual 208, 3) := by decide +kernel
theorem d_Rm_beginReturn_7 : decode b_Rm_beginReturn 7 = .ok (.aload_n 0, 1) := by decide +kernel
theorem d_Rm_beginReturn_8 : decode b_Rm_beginReturn 8 = .ok (.iconst 2, 1) := by decide +kernel
theorem d_Rm_beginReturn_9 : decode b_Rm_beginReturn 9 = .ok (.putfield 49, 3) := by decide +kernel
theorem d_Rm_beginReturn_12 : decode b_Rm_beginReturn 12 = .ok (.aload_n 0, 1) := by decide +kernel
theorem d_Rm_beginReturn_13 : decode b_Rm_beginReturn 13 = .ok (.aload_n 0, 1) := by decide +kernel
theorem d_Rm_beginReturn_14 : decode b_Rm_beginReturn 14 = .ok (.getfield 28, 3) := by decide +kernel
theorem d_Rm_beginReturn_17 : decode b_Rm_beginReturn 17 = .ok (.getfield 211, 3) := by decide +kernel
theorem d_Rm_beginReturn_20 : decode b_Rm_beginReturn 20 = .ok (.putfield 205, 3) := by decide +kernel
theorem d_Rm_beginReturn_23 : decode b_Rm_beginReturn 23 = .ok (.return_, 1) := by decide +kernel
theorem d_Rm_startAndSettle_0 : decode b_Rm_startAndSettle 0 = .ok (.iconst 0, 1) := by decide +kernel
theorem d_Rm_startAndSettle_1 : decode b_Rm_startAndSettle 1 = .ok (.istore_n 1, 1) := by decide +kernel
theorem d_Rm_startAndSettle_2 : decode b_Rm_startAndSettle 2 = .ok (.iconst 0, 1) := by decide +kernel
theorem d_Rm_startAndSettle_3 : decode b_Rm_startAndSettle 3 = .ok (.istore_n 2, 1) := by decide +kernel
theorem d_Rm_startAndSettle_4 : decode b_Rm_startAndSettle 4 = .ok (.iload_n 2, 1) := by decide +kernel
theorem d_Rm_startAndSettle_5 : decode b_Rm_startAndSettle 5 = .ok (.aload_n 0, 1) := by decide +kernel
theorem d_Rm_startAndSettle_6 : decode b_Rm_startAndSettle 6 = .ok (.getfield 42, 3) := by decide +kernel
theorem d_Rm_startAndSettle_9 : decode b_Rm_startAndSettle 9 = .ok (.getfield 88, 3) := by decide +kernel
theorem d_Rm_startAndSettle_12 : decode b_Rm_startAndSettle 12 = .ok (.if_icmp .ge 36, 3) := by decide +kernel
theorem d_Rm_startAndSettle_15 : decode b_Rm_startAndSettle 15 = .ok (.aload_n 0, 1) := by decide +kernel
theorem d_Rm_startAndSettle_16 : decode b_Rm_startAndSettle 16 = .ok (.iload_n 2, 1) := by decide +kernel
theorem d_Rm_startAndSettle_17 : decode b_Rm_startAndSettle 17 = .ok (.invokevirtual 187, 3) := by decide +kernel
theorem d_Rm_startAndSettle_20 : decode b_Rm_startAndSettle 20 = .ok (.ifCond .eq 22, 3) := by decide +kernel
theorem d_Rm_startAndSettle_23 : decode b_Rm_startAndSettle 23 = .ok (.aload_n 0, 1) := by decide +kernel
theorem d_Rm_startAndSettle_24 : decode b_Rm_startAndSettle 24 = .ok (.getfield 42, 3) := by decide +kernel
theorem d_Rm_startAndSettle_27 : decode b_Rm_startAndSettle 27 = .ok (.getfield 130, 3) := by decide +kernel
theorem d_Rm_startAndSettle_30 : decode b_Rm_startAndSettle 30 = .ok (.iload_n 2, 1) := by decide +kernel
theorem d_Rm_startAndSettle_31 : decode b_Rm_startAndSettle 31 = .ok (.aaload, 1) := by decide +kernel
theorem d_Rm_startAndSettle_32 : decode b_Rm_startAndSettle 32 = .ok (.aload_n 0, 1) := by decide +kernel
theorem d_Rm_startAndSettle_33 : decode b_Rm_startAndSettle 33 = .ok (.getfield 94, 3) := by decide +kernel
theorem d_Rm_startAndSettle_36 : decode b_Rm_startAndSettle 36 = .ok (.invokevirtual 214, 3) := by decide +kernel
theorem d_Rm_startAndSettle_39 : decode b_Rm_startAndSettle 39 = .ok (.iinc 1 1, 3) := by decide +kernel
theorem d_Rm_startAndSettle_42 : decode b_Rm_startAndSettle 42 = .ok (.iinc 2 1, 3) := by decide +kernel
theorem d_Rm_startAndSettle_45 : decode b_Rm_startAndSettle 45 = .ok (.goto (-41), 3) := by decide +kernel
theorem d_Rm_startAndSettle_48 : decode b_Rm_startAndSettle 48 = .ok (.aload_n 0, 1) := by decide +kernel
theorem d_Rm_startAndSettle_49 : decode b_Rm_startAndSettle 49 = .ok (.getfield 42, 3) := by decide +kernel
theorem d_Rm_startAndSettle_52 : decode b_Rm_startAndSettle 52 = .ok (.invokevirtual 217, 3) := by decide +kernel
theorem d_Rm_startAndSettle_55 : decode b_Rm_startAndSettle 55 = .ok (.ifCond .eq 8, 3) := by decide +kernel
theorem d_Rm_startAndSettle_58 : decode b_Rm_startAndSettle 58 = .ok (.aload_n 0, 1) := by decide +kernel
theorem d_Rm_startAndSettle_59 : decode b_Rm_startAndSettle 59 = .ok (.iconst 0, 1) := by decide +kernel
theorem d_Rm_startAndSettle_60 : decode b_Rm_startAndSettle 60 = .ok (.putfield 49, 3) := by decide +kernel
theorem d_Rm_startAndSettle_63 : decode b_Rm_startAndSettle 63 = .ok (.iload_n 1, 1) := by decide +kernel
theorem d_Rm_startAndSettle_64 : decode b_Rm_startAndSettle 64 = .ok (.ireturn, 1) := by decide +kernel
theorem d_Rm_mayStart_0 : decode b_Rm_mayStart 0 = .ok (.aload_n 0, 1) := by decide +kernel
theorem d_Rm_mayStart_1 : decode b_Rm_mayStart 1 = .ok (.getfield 42, 3) := by decide +kernel
theorem d_Rm_mayStart_4 : decode b_Rm_mayStart 4 = .ok (.iload_n 1, 1) := by decide +kernel
theorem d_Rm_mayStart_5 : decode b_Rm_mayStart 5 = .ok (.invokevirtual 221, 3) := by decide +kernel
theorem d_Rm_mayStart_8 : decode b_Rm_mayStart 8 = .ok (.ifCond .ne 5, 3) := by decide +kernel
theorem d_Rm_mayStart_11 : decode b_Rm_mayStart 11 = .ok (.iconst 0, 1) := by decide +kernel
theorem d_Rm_mayStart_12 : decode b_Rm_mayStart 12 = .ok (.ireturn, 1) := by decide +kernel
theorem d_Rm_mayStart_13 : decode b_Rm_mayStart 13 = .ok (.aload_n 0, 1) := by decide +kernel
theorem d_Rm_mayStart_14 : decode b_Rm_mayStart 14 = .ok (.getfield 35, 3) := by decide +kernel
theorem d_Rm_mayStart_17 : decode b_Rm_mayStart 17 = .ok (.aload_n 0, 1) := by decide +kernel
theorem d_Rm_mayStart_18 : decode b_Rm_mayStart 18 = .ok (.getfield 42, 3) := by decide +kernel
theorem d_Rm_mayStart_21 : decode b_Rm_mayStart 21 = .ok (.iload_n 1, 1) := by decide +kernel
theorem d_Rm_mayStart_22 : decode b_Rm_mayStart 22 = .ok (.invokevirtual 179, 3) := by decide +kernel
theorem d_Rm_mayStart_25 : decode b_Rm_mayStart 25 = .ok (.aload_n 0, 1) := by decide +kernel
theorem d_Rm_mayStart_26 : decode b_Rm_mayStart 26 = .ok (.getfield 35, 3) := by decide +kernel
theorem d_Rm_mayStart_29 : decode b_Rm_mayStart 29 = .ok (.aload_n 0, 1) := by decide +kernel
theorem d_Rm_mayStart_30 : decode b_Rm_mayStart 30 = .ok (.getfield 28, 3) := by decide +kernel
theorem d_Rm_mayStart_33 : decode b_Rm_mayStart 33 = .ok (.aload_n 0, 1) := by decide +kernel
theorem d_Rm_mayStart_34 : decode b_Rm_mayStart 34 = .ok (.getfield 94, 3) := by decide +kernel
theorem d_Rm_mayStart_37 : decode b_Rm_mayStart 37 = .ok (.invokevirtual 224, 3) := by decide +kernel
theorem d_Rm_mayStart_40 : decode b_Rm_mayStart 40 = .ok (.ireturn, 1) := by decide +kernel
end
section
theorem d_Mo_init_0 : decode b_Mo_init 0 = .ok (.aload_n 0, 1) := by decide +kernel
theorem d_Mo_init_1 : decode b_Mo_init 1 = .ok (.invokespecial 1, 3) := by decide +kernel
theorem d_Mo_init_4 : decode b_Mo_init 4 = .ok (.aload_n 0, 1) := by decide +kernel
theorem d_Mo_init_5 : decode b_Mo_init 5 = .ok (.bipush 64, 2) := by decide +kernel
theorem d_Mo_init_7 : decode b_Mo_init 7 = .ok (.newarray .int, 2) := by decide +kernel
theorem d_Mo_init_9 : decode b_Mo_init 9 = .ok (.putfield 7, 3) := by decide +kernel
theorem d_Mo_init_12 : decode b_Mo_init 12 = .ok (.aload_n 0, 1) := by decide +kernel
theorem d_Mo_init_13 : decode b_Mo_init 13 = .ok (.bipush 72, 2) := by decide +kernel
theorem d_Mo_init_15 : decode b_Mo_init 15 = .ok (.newarray .int, 2) := by decide +kernel
theorem d_Mo_init_17 : decode b_Mo_init 17 = .ok (.putfield 13, 3) := by decide +kernel
theorem d_Mo_init_20 : decode b_Mo_init 20 = .ok (.aload_n 0, 1) := by decide +kernel
theorem d_Mo_init_21 : decode b_Mo_init 21 = .ok (.bipush 8, 2) := by decide +kernel
theorem d_Mo_init_23 : decode b_Mo_init 23 = .ok (.newarray .int, 2) := by decide +kernel
theorem d_Mo_init_25 : decode b_Mo_init 25 = .ok (.putfield 16, 3) := by decide +kernel
theorem d_Mo_init_28 : decode b_Mo_init 28 = .ok (.aload_n 0, 1) := by decide +kernel
theorem d_Mo_init_29 : decode b_Mo_init 29 = .ok (.bipush 8, 2) := by decide +kernel
theorem d_Mo_init_31 : decode b_Mo_init 31 = .ok (.newarray .int, 2) := by decide +kernel
theorem d_Mo_init_33 : decode b_Mo_init 33 = .ok (.putfield 19, 3) := by decide +kernel
theorem d_Mo_init_36 : decode b_Mo_init 36 = .ok (.aload_n 0, 1) := by decide +kernel
theorem d_Mo_init_37 : decode b_Mo_init 37 = .ok (.bipush 72, 2) := by decide +kernel
theorem d_Mo_init_39 : decode b_Mo_init 39 = .ok (.newarray .int, 2) := by decide +kernel
theorem d_Mo_init_41 : decode b_Mo_init 41 = .ok (.putfield 22, 3) := by decide +kernel
theorem d_Mo_init_44 : decode b_Mo_init 44 = .ok (.aload_n 0, 1) := by decide +kernel
theorem d_Mo_init_45 : decode b_Mo_init 45 = .ok (.bipush 8, 2) := by decide +kernel
theorem d_Mo_init_47 : decode b_Mo_init 47 = .ok (.newarray .int, 2) := by decide +kernel
theorem d_Mo_init_49 : decode b_Mo_init 49 = .ok (.putfield 25, 3) := by decide +kernel
theorem d_Mo_init_52 : decode b_Mo_init 52 = .ok (.aload_n 0, 1) := by decide +kernel
theorem d_Mo_init_53 : decode b_Mo_init 53 = .ok (.bipush 8, 2) := by decide +kernel
theorem d_Mo_init_55 : decode b_Mo_init 55 = .ok (.newarray .int, 2) := by decide +kernel
theorem d_Mo_init_57 : decode b_Mo_init 57 = .ok (.putfield 28, 3) := by decide +kernel
theorem d_Mo_init_60 : decode b_Mo_init 60 = .ok (.aload_n 0, 1) := by decide +kernel
theorem d_Mo_init_61 : decode b_Mo_init 61 = .ok (.bipush 8, 2) := by decide +kernel
theorem d_Mo_init_63 : decode b_Mo_init 63 = .ok (.newarray .int, 2) := by decide +kernel
theorem d_Mo_init_65 : decode b_Mo_init 65 = .ok (.putfield 31, 3) := by decide +kernel
theorem d_Mo_init_68 : decode b_Mo_init 68 = .ok (.aload_n 0, 1) := by decide +kernel
theorem d_Mo_init_69 : decode b_Mo_init 69 = .ok (.bipush 8, 2) := by decide +kernel
theorem d_Mo_init_71 : decode b_Mo_init 71 = .ok (.newarray .int, 2) := by decide +kernel
theorem d_Mo_init_73 : decode b_Mo_init 73 = .ok (.putfield 34, 3) := by decide +kernel
theorem d_Mo_init_76 : decode b_Mo_init 76 = .ok (.aload_n 0, 1) := by decide +kernel
theorem d_Mo_init_77 : decode b_Mo_init 77 = .ok (.bipush 8, 2) := by decide +kernel
theorem d_Mo_init_79 : decode b_Mo_init 79 = .ok (.newarray .int, 2) := by decide +kernel
theorem d_Mo_init_81 : decode b_Mo_init 81 = .ok (.putfield 37, 3) := by decide +kernel
theorem d_Mo_init_84 : decode b_Mo_init 84 = .ok (.aload_n 0, 1) := by decide +kernel
theorem d_Mo_init_85 : decode b_Mo_init 85 = .ok (.bipush 8, 2) := by decide +kernel
theorem d_Mo_init_87 : decode b_Mo_init 87 = .ok (.newarray .int, 2) := by decide +kernel
theorem d_Mo_init_89 : decode b_Mo_init 89 = .ok (.putfield 40, 3) := by decide +kernel
theorem d_Mo_init_92 : decode b_Mo_init 92 = .ok (.aload_n 0, 1) := by decide +kernel
theorem d_Mo_init_93 : decode b_Mo_init 93 = .ok (.bipush 8, 2) := by decide +kernel
theorem d_Mo_init_95 : decode b_Mo_init 95 = .ok (.newarray .int, 2) := by decide +kernel
theorem d_Mo_init_97 : decode b_Mo_init 97 = .ok (.putfield 43, 3) := by decide +kernel
theorem d_Mo_init_100 : decode b_Mo_init 100 = .ok (.aload_n 0, 1) := by decide +kernel
theorem d_Mo_init_101 : decode b_Mo_init 101 = .ok (.bipush 8, 2) := by decide +kernel
theorem d_Mo_init_103 : decode b_Mo_init 103 = .ok (.newarray .int, 2) := by decide +kernel
theorem d_Mo_init_105 : decode b_Mo_init 105 = .ok (.putfield 46, 3) := by decide +kernel
theorem d_Mo_init_108 : decode b_Mo_init 108 = .ok (.aload_n 0, 1) := by decide +kernel
theorem d_Mo_init_109 : decode b_Mo_init 109 = .ok (.bipush 8, 2) := by decide +kernel
theorem d_Mo_init_111 : decode b_Mo_init 111 = .ok (.newarray .int, 2) := by decide +kernel
theorem d_Mo_init_113 : decode b_Mo_init 113 = .ok (.putfield 49, 3) := by decide +kernel
theorem d_Mo_init_116 : decode b_Mo_init 116 = .ok (.aload_n 0, 1) := by decide +kernel
theorem d_Mo_init_117 : decode b_Mo_init 117 = .ok (.bipush 8, 2) := by decide +kernel
theorem d_Mo_init_119 : decode b_Mo_init 119 = .ok (.newarray .int, 2) := by decide +kernel
theorem d_Mo_init_121 : decode b_Mo_init 121 = .ok (.putfield 52, 3) := by decide +kernel
theorem d_Mo_init_124 : decode b_Mo_init 124 = .ok (.aload_n 0, 1) := by decide +kernel
theorem d_Mo_init_125 : decode b_Mo_init 125 = .ok (.sipush 1000, 3) := by decide +kernel
theorem d_Mo_init_128 : decode b_Mo_init 128 = .ok (.putfield 55, 3) := by decide +kernel
theorem d_Mo_init_131 : decode b_Mo_init 131 = .ok (.aload_n 0, 1) := by decide +kernel
theorem d_Mo_init_132 : decode b_Mo_init 132 = .ok (.bipush 24, 2) := by decide +kernel
theorem d_Mo_init_134 : decode b_Mo_init 134 = .ok (.newarray .int, 2) := by decide +kernel
theorem d_Mo_init_136 : decode b_Mo_init 136 = .ok (.putfield 59, 3) := by decide +kernel
theorem d_Mo_init_139 : decode b_Mo_init 139 = .ok (.aload_n 0, 1) := by decide +kernel
theorem d_Mo_init_140 : decode b_Mo_init 140 = .ok (.iconst (-1), 1) := by decide +kernel
theorem d_Mo_init_141 : decode b_Mo_init 141 = .ok (.putfield 62, 3) := by decide +kernel
theorem d_Mo_init_144 : decode b_Mo_init 144 = .ok (.aload_n 0, 1) := by decide +kernel
theorem d_Mo_init_145 : decode b_Mo_init 145 = .ok (.iconst 5, 1) := by decide +kernel
theorem d_Mo_init_146 : decode b_Mo_init 146 = .ok (.putfield 65, 3) := by decide +kernel
theorem d_Mo_init_149 : decode b_Mo_init 149 = .ok (.aload_n 0, 1) := by decide +kernel
theorem d_Mo_init_150 : decode b_Mo_init 150 = .ok (.bipush 20, 2) := by decide +kernel
theorem d_Mo_init_152 : decode b_Mo_init 152 = .ok (.putfield 68, 3) := by decide +kernel
theorem d_Mo_init_155 : decode b_Mo_init 155 = .ok (.aload_n 0, 1) := by decide +kernel
theorem d_Mo_init_156 : decode b_Mo_init 156 = .ok (.iconst 0, 1) := by decide +kernel
theorem d_Mo_init_157 : decode b_Mo_init 157 = .ok (.putfield 71, 3) := by decide +kernel
theorem d_Mo_init_160 : decode b_Mo_init 160 = .ok (.return_, 1) := by decide +kernel
theorem d_Mo_thrown_0 : decode b_Mo_thrown 0 = .ok (.aload_n 0, 1) := by decide +kernel
theorem d_Mo_thrown_1 : decode b_Mo_thrown 1 = .ok (.getfield 74, 3) := by decide +kernel
theorem d_Mo_thrown_4 : decode b_Mo_thrown 4 = .ok (.ireturn, 1) := by decide +kernel
theorem d_Mo_refused_0 : decode b_Mo_refused 0 = .ok (.aload_n 0, 1) := by decide +kernel
theorem d_Mo_refused_1 : decode b_Mo_refused 1 = .ok (.iload_n 1, 1) := by decide +kernel
theorem d_Mo_refused_2 : decode b_Mo_refused 2 = .ok (.ifCond .eq 7, 3) := by decide +kernel
theorem d_Mo_refused_5 : decode b_Mo_refused 5 = .ok (.iconst 1, 1) := by decide +kernel
theorem d_Mo_refused_6 : decode b_Mo_refused 6 = .ok (.goto 12, 3) := by decide +kernel
theorem d_Mo_refused_9 : decode b_Mo_refused 9 = .ok (.iload_n 2, 1) := by decide +kernel
theorem d_Mo_refused_10 : decode b_Mo_refused 10 = .ok (.ifCond .eq 7, 3) := by decide +kernel
theorem d_Mo_refused_13 : decode b_Mo_refused 13 = .ok (.iconst 2, 1) := by decide +kernel
theorem d_Mo_refused_14 : decode b_Mo_refused 14 = .ok (.goto 4, 3) := by decide +kernel
theorem d_Mo_refused_17 : decode b_Mo_refused 17 = .ok (.iconst 0, 1) := by decide +kernel
theorem d_Mo_refused_18 : decode b_Mo_refused 18 = .ok (.putfield 74, 3) := by decide +kernel
theorem d_Mo_refused_21 : decode b_Mo_refused 21 = .ok (.aload_n 0, 1) := by decide +kernel
theorem d_Mo_refused_22 : decode b_Mo_refused 22 = .ok (.getfield 74, 3) := by decide +kernel
theorem d_Mo_refused_25 : decode b_Mo_refused 25 = .ok (.ifCond .le 7, 3) := by decide +kernel
theorem d_Mo_refused_28 : decode b_Mo_refused 28 = .ok (.iconst 1, 1) := by decide +kernel
theorem d_Mo_refused_29 : decode b_Mo_refused 29 = .ok (.goto 4, 3) := by decide +kernel
theorem d_Mo_refused_32 : decode b_Mo_refused 32 = .ok (.iconst 0, 1) := by decide +kernel
theorem d_Mo_refused_33 : decode b_Mo_refused 33 = .ok (.ireturn, 1) := by decide +kernel
theorem d_Mo_type_0 : decode b_Mo_type 0 = .ok (.iconst 0, 1) := by decide +kernel
theorem d_Mo_type_1 : decode b_Mo_type 1 = .ok (.istore_n 2, 1) := by decide +kernel
theorem d_Mo_type_2 : decode b_Mo_type 2 = .ok (.iconst 1, 1) := by decide +kernel
theorem d_Mo_type_3 : decode b_Mo_type 3 = .ok (.istore_n 3, 1) := by decide +kernel
theorem d_Mo_type_4 : decode b_Mo_type 4 = .ok (.iconst 0, 1) := by decide +kernel
theorem d_Mo_type_5 : decode b_Mo_type 5 = .ok (.istore 4, 2) := by decide +kernel
theorem d_Mo_type_7 : decode b_Mo_type 7 = .ok (.iconst 0, 1) := by decide +kernel
theorem d_Mo_type_8 : decode b_Mo_type 8 = .ok (.istore 5, 2) := by decide +kernel
theorem d_Mo_type_10 : decode b_Mo_type 10 = .ok (.iload 5, 2) := by decide +kernel
theorem d_Mo_type_12 : decode b_Mo_type 12 = .ok (.iconst 4, 1) := by decide +kernel
theorem d_Mo_type_13 : decode b_Mo_type 13 = .ok (.if_icmp .ge 79, 3) := by decide +kernel
theorem d_Mo_type_16 : decode b_Mo_type 16 = .ok (.iload_n 1, 1) := by decide +kernel
theorem d_Mo_type_17 : decode b_Mo_type 17 = .ok (.bipush 8, 2) := by decide +kernel
theorem d_Mo_type_19 : decode b_Mo_type 19 = .ok (.iload 5, 2) := by decide +kernel
theorem d_Mo_type_21 : decode b_Mo_type 21 = .ok (.imul, 1) := by decide +kernel
theorem d_Mo_type_22 : decode b_Mo_type 22 = .ok (.ishr, 1) := by decide +kernel
theorem d_Mo_type_23 : decode b_Mo_type 23 = .ok (.sipush 255, 3) := by decide +kernel
theorem d_Mo_type_26 : decode b_Mo_type 26 = .ok (.iand, 1) := by decide +kernel
theorem d_Mo_type_27 : decode b_Mo_type 27 = .ok (.istore 6, 2) := by decide +kernel
theorem d_Mo_type_29 : decode b_Mo_type 29 = .ok (.iload_n 3, 1) := by decide +kernel
theorem d_Mo_type_30 : decode b_Mo_type 30 = .ok (.ifCond .eq 12, 3) := by decide +kernel
theorem d_Mo_type_33 : decode b_Mo_type 33 = .ok (.iload 6, 2) := by decide +kernel
theorem d_Mo_type_35 : decode b_Mo_type 35 = .ok (.ifCond .eq 7, 3) := by decide +kernel
theorem d_Mo_type_38 : decode b_Mo_type 38 = .ok (.iconst 1, 1) := by decide +kernel
theorem d_Mo_type_39 : decode b_Mo_type 39 = .ok (.goto 4, 3) := by decide +kernel
theorem d_Mo_type_42 : decode b_Mo_type 42 = .ok (.iconst 0, 1) := by decide +kernel
theorem d_Mo_type_43 : decode b_Mo_type 43 = .ok (.istore_n 3, 1) := by decide +kernel
theorem d_Mo_type_44 : decode b_Mo_type 44 = .ok (.iload 4, 2) := by decide +kernel
theorem d_Mo_type_46 : decode b_Mo_type 46 = .ok (.ifCond .ne 21, 3) := by decide +kernel
theorem d_Mo_type_49 : decode b_Mo_type 49 = .ok (.iload_n 3, 1) := by decide +kernel
theorem d_Mo_type_50 : decode b_Mo_type 50 = .ok (.ifCond .eq 21, 3) := by decide +kernel
theorem d_Mo_type_53 : decode b_Mo_type 53 = .ok (.iload 6, 2) := by decide +kernel
theorem d_Mo_type_55 : decode b_Mo_type 55 = .ok (.bipush 32, 2) := by decide +kernel
theorem d_Mo_type_57 : decode b_Mo_type 57 = .ok (.if_icmp .lt 10, 3) := by decide +kernel
theorem d_Mo_type_60 : decode b_Mo_type 60 = .ok (.iload 6, 2) := by decide +kernel
theorem d_Mo_type_62 : decode b_Mo_type 62 = .ok (.bipush 126, 2) := by decide +kernel
theorem d_Mo_type_64 : decode b_Mo_type 64 = .ok (.if_icmp .le 7, 3) := by decide +kernel
theorem d_Mo_type_67 : decode b_Mo_type 67 = .ok (.iconst 1, 1) := by decide +kernel
theorem d_Mo_type_68 : decode b_Mo_type 68 = .ok (.goto 4, 3) := by decide +kernel
theorem d_Mo_type_71 : decode b_Mo_type 71 = .ok (.iconst 0, 1) := by decide +kernel
theorem d_Mo_type_72 : decode b_Mo_type 72 = .ok (.istore 4, 2) := by decide +kernel
theorem d_Mo_type_74 : decode b_Mo_type 74 = .ok (.iload_n 3, 1) := by decide +kernel
theorem d_Mo_type_75 : decode b_Mo_type 75 = .ok (.ifCond .eq 9, 3) := by decide +kernel
theorem d_Mo_type_78 : decode b_Mo_type 78 = .ok (.iload_n 2, 1) := by decide +kernel
theorem d_Mo_type_79 : decode b_Mo_type 79 = .ok (.iconst 1, 1) := by decide +kernel
theorem d_Mo_type_80 : decode b_Mo_type 80 = .ok (.iadd, 1) := by decide +kernel
theorem d_Mo_type_81 : decode b_Mo_type 81 = .ok (.goto 4, 3) := by decide +kernel
theorem d_Mo_type_84 : decode b_Mo_type 84 = .ok (.iload_n 2, 1) := by decide +kernel
theorem d_Mo_type_85 : decode b_Mo_type 85 = .ok (.istore_n 2, 1) := by decide +kernel
theorem d_Mo_type_86 : decode b_Mo_type 86 = .ok (.iinc 5 1, 3) := by decide +kernel
theorem d_Mo_type_89 : decode b_Mo_type 89 = .ok (.goto (-79), 3) := by decide +kernel
theorem d_Mo_type_92 : decode b_Mo_type 92 = .ok (.aload_n 0, 1) := by decide +kernel
theorem d_Mo_type_93 : decode b_Mo_type 93 = .ok (.iload 4, 2) := by decide +kernel
theorem d_Mo_type_95 : decode b_Mo_type 95 = .ok (.ifCond .eq 7, 3) := by decide +kernel
theorem d_Mo_type_98 : decode b_Mo_type 98 = .ok (.iconst 1, 1) := by decide +kernel
theorem d_Mo_type_99 : decode b_Mo_type 99 = .ok (.goto 4, 3) := by decide +kernel
theorem d_Mo_type_102 : decode b_Mo_type 102 = .ok (.iconst 0, 1) := by decide +kernel
theorem d_Mo_type_103 : decode b_Mo_type 103 = .ok (.putfield 74, 3) := by decide +kernel
theorem d_Mo_type_106 : decode b_Mo_type 106 = .ok (.iload 4, 2) := by decide +kernel
theorem d_Mo_type_108 : decode b_Mo_type 108 = .ok (.ifCond .ne 14, 3) := by decide +kernel
theorem d_Mo_type_111 : decode b_Mo_type 111 = .ok (.aload_n 0, 1) := by decide +kernel
theorem d_Mo_type_112 : decode b_Mo_type 112 = .ok (.getfield 71, 3) := by decide +kernel
theorem d_Mo_type_115 : decode b_Mo_type 115 = .ok (.iload_n 2, 1) := by decide +kernel
theorem d_Mo_type_116 : decode b_Mo_type 116 = .ok (.iadd, 1) := by decide +kernel
theorem d_Mo_type_117 : decode b_Mo_type 117 = .ok (.bipush 64, 2) := by decide +kernel
theorem d_Mo_type_119 : decode b_Mo_type 119 = .ok (.if_icmp .le 5, 3) := by decide +kernel
theorem d_Mo_type_122 : decode b_Mo_type 122 = .ok (.iconst 0, 1) := by decide +kernel
theorem d_Mo_type_123 : decode b_Mo_type 123 = .ok (.ireturn, 1) := by decide +kernel
theorem d_Mo_type_124 : decode b_Mo_type 124 = .ok (.iconst 0, 1) := by decide +kernel
theorem d_Mo_type_125 : decode b_Mo_type 125 = .ok (.istore 5, 2) := by decide +kernel
theorem d_Mo_type_127 : decode b_Mo_type 127 = .ok (.iload 5, 2) := by decide +kernel
theorem d_Mo_type_129 : decode b_Mo_type 129 = .ok (.iload_n 2, 1) := by decide +kernel
theorem d_Mo_type_130 : decode b_Mo_type 130 = .ok (.if_icmp .ge 39, 3) := by decide +kernel
theorem d_Mo_type_133 : decode b_Mo_type 133 = .ok (.aload_n 0, 1) := by decide +kernel
theorem d_Mo_type_134 : decode b_Mo_type 134 = .ok (.getfield 7, 3) := by decide +kernel
theorem d_Mo_type_137 : decode b_Mo_type 137 = .ok (.aload_n 0, 1) := by decide +kernel
theorem d_Mo_type_138 : decode b_Mo_type 138 = .ok (.getfield 71, 3) := by decide +kernel
theorem d_Mo_type_141 : decode b_Mo_type 141 = .ok (.iload_n 1, 1) := by decide +kernel
theorem d_Mo_type_142 : decode b_Mo_type 142 = .ok (.bipush 8, 2) := by decide +kernel
theorem d_Mo_type_144 : decode b_Mo_type 144 = .ok (.iload 5, 2) := by decide +kernel
theorem d_Mo_type_146 : decode b_Mo_type 146 = .ok (.imul, 1) := by decide +kernel
theorem d_Mo_type_147 : decode b_Mo_type 147 = .ok (.ishr, 1) := by decide +kernel
theorem d_Mo_type_148 : decode b_Mo_type 148 = .ok (.sipush 255, 3) := by decide +kernel
theorem d_Mo_type_151 : decode b_Mo_type 151 = .ok (.iand, 1) := by decide +kernel
theorem d_Mo_type_152 : decode b_Mo_type 152 = .ok (.iastore, 1) := by decide +kernel
theorem d_Mo_type_153 : decode b_Mo_type 153 = .ok (.aload_n 0, 1) := by decide +kernel
theorem d_Mo_type_154 : decode b_Mo_type 154 = .ok (.dup, 1) := by decide +kernel
theorem d_Mo_type_155 : decode b_Mo_type 155 = .ok (.getfield 71, 3) := by decide +kernel
theorem d_Mo_type_158 : decode b_Mo_type 158 = .ok (.iconst 1, 1) := by decide +kernel
theorem d_Mo_type_159 : decode b_Mo_type 159 = .ok (.iadd, 1) := by decide +kernel
theorem d_Mo_type_160 : decode b_Mo_type 160 = .ok (.putfield 71, 3) := by decide +kernel
theorem d_Mo_type_163 : decode b_Mo_type 163 = .ok (.iinc 5 1, 3) := by decide +kernel
theorem d_Mo_type_166 : decode b_Mo_type 166 = .ok (.goto (-39), 3) := by decide +kernel
theorem d_Mo_type_169 : decode b_Mo_type 169 = .ok (.iconst 1, 1) := by decide +kernel
theorem d_Mo_type_170 : decode b_Mo_type 170 = .ok (.ireturn, 1) := by decide +kernel
theorem d_Mo_look_0 : decode b_Mo_look 0 = .ok (.aload_n 0, 1) := by decide +kernel
theorem d_Mo_look_1 : decode b_Mo_look 1 = .ok (.getfield 77, 3) := by decide +kernel
theorem d_Mo_look_4 : decode b_Mo_look 4 = .ok (.aload_n 0, 1) := by decide +kernel
theorem d_Mo_look_5 : decode b_Mo_look 5 = .ok (.getfield 71, 3) := by decide +kernel
theorem d_Mo_look_8 : decode b_Mo_look 8 = .ok (.if_icmp .ge 15, 3) := by decide +kernel
theorem d_Mo_look_11 : decode b_Mo_look 11 = .ok (.aload_n 0, 1) := by decide +kernel
theorem d_Mo_look_12 : decode b_Mo_look 12 = .ok (.getfield 7, 3) := by decide +kernel
theorem d_Mo_look_15 : decode b_Mo_look 15 = .ok (.aload_n 0, 1) := by decide +kernel
theorem d_Mo_look_16 : decode b_Mo_look 16 = .ok (.getfield 77, 3) := by decide +kernel
theorem d_Mo_look_19 : decode b_Mo_look 19 = .ok (.iaload, 1) := by decide +kernel
theorem d_Mo_look_20 : decode b_Mo_look 20 = .ok (.goto 4, 3) := by decide +kernel
theorem d_Mo_look_23 : decode b_Mo_look 23 = .ok (.iconst 0, 1) := by decide +kernel
theorem d_Mo_look_24 : decode b_Mo_look 24 = .ok (.ireturn, 1) := by decide +kernel
theorem d_Mo_isDigit_0 : decode b_Mo_isDigit 0 = .ok (.aload_n 0, 1) := by decide +kernel
theorem d_Mo_isDigit_1 : decode b_Mo_isDigit 1 = .ok (.invokevirtual 80, 3) := by decide +kernel
theorem d_Mo_isDigit_4 : decode b_Mo_isDigit 4 = .ok (.bipush 48, 2) := by decide +kernel
theorem d_Mo_isDigit_6 : decode b_Mo_isDigit 6 = .ok (.if_icmp .lt 16, 3) := by decide +kernel
theorem d_Mo_isDigit_9 : decode b_Mo_isDigit 9 = .ok (.aload_n 0, 1) := by decide +kernel
theorem d_Mo_isDigit_10 : decode b_Mo_isDigit 10 = .ok (.invokevirtual 80, 3) := by decide +kernel
theorem d_Mo_isDigit_13 : decode b_Mo_isDigit 13 = .ok (.bipush 57, 2) := by decide +kernel
theorem d_Mo_isDigit_15 : decode b_Mo_isDigit 15 = .ok (.if_icmp .gt 7, 3) := by decide +kernel
theorem d_Mo_isDigit_18 : decode b_Mo_isDigit 18 = .ok (.iconst 1, 1) := by decide +kernel
theorem d_Mo_isDigit_19 : decode b_Mo_isDigit 19 = .ok (.goto 4, 3) := by decide +kernel
theorem d_Mo_isDigit_22 : decode b_Mo_isDigit 22 = .ok (.iconst 0, 1) := by decide +kernel
theorem d_Mo_isDigit_23 : decode b_Mo_isDigit 23 = .ok (.ireturn, 1) := by decide +kernel
theorem d_Mo_readNumber_0 : decode b_Mo_readNumber 0 = .ok (.aload_n 0, 1) := by decide +kernel
theorem d_Mo_readNumber_1 : decode b_Mo_readNumber 1 = .ok (.invokevirtual 84, 3) := by decide +kernel
theorem d_Mo_readNumber_4 : decode b_Mo_readNumber 4 = .ok (.ifCond .ne 5, 3) := by decide +kernel
theorem d_Mo_readNumber_7 : decode b_Mo_readNumber 7 = .ok (.iconst (-1), 1) := by decide +kernel
theorem d_Mo_readNumber_8 : decode b_Mo_readNumber 8 = .ok (.ireturn, 1) := by decide +kernel
theorem d_Mo_readNumber_9 : decode b_Mo_readNumber 9 = .ok (.aload_n 0, 1) := by decide +kernel
theorem d_Mo_readNumber_10 : decode b_Mo_readNumber 10 = .ok (.invokevirtual 80, 3) := by decide +kernel
theorem d_Mo_readNumber_13 : decode b_Mo_readNumber 13 = .ok (.bipush 48, 2) := by decide +kernel
theorem d_Mo_readNumber_15 : decode b_Mo_readNumber 15 = .ok (.isub, 1) := by decide +kernel
theorem d_Mo_readNumber_16 : decode b_Mo_readNumber 16 = .ok (.istore_n 1, 1) := by decide +kernel
theorem d_Mo_readNumber_17 : decode b_Mo_readNumber 17 = .ok (.aload_n 0, 1) := by decide +kernel
theorem d_Mo_readNumber_18 : decode b_Mo_readNumber 18 = .ok (.dup, 1) := by decide +kernel
theorem d_Mo_readNumber_19 : decode b_Mo_readNumber 19 = .ok (.getfield 77, 3) := by decide +kernel
theorem d_Mo_readNumber_22 : decode b_Mo_readNumber 22 = .ok (.iconst 1, 1) := by decide +kernel
theorem d_Mo_readNumber_23 : decode b_Mo_readNumber 23 = .ok (.iadd, 1) := by decide +kernel
theorem d_Mo_readNumber_24 : decode b_Mo_readNumber 24 = .ok (.putfield 77, 3) := by decide +kernel
theorem d_Mo_readNumber_27 : decode b_Mo_readNumber 27 = .ok (.iload_n 1, 1) := by decide +kernel
theorem d_Mo_readNumber_28 : decode b_Mo_readNumber 28 = .ok (.ifCond .le 33, 3) := by decide +kernel
theorem d_Mo_readNumber_31 : decode b_Mo_readNumber 31 = .ok (.aload_n 0, 1) := by decide +kernel
theorem d_Mo_readNumber_32 : decode b_Mo_readNumber 32 = .ok (.invokevirtual 84, 3) := by decide +kernel
theorem d_Mo_readNumber_35 : decode b_Mo_readNumber 35 = .ok (.ifCond .eq 26, 3) := by decide +kernel
theorem d_Mo_readNumber_38 : decode b_Mo_readNumber 38 = .ok (.bipush 10, 2) := by decide +kernel
theorem d_Mo_readNumber_40 : decode b_Mo_readNumber 40 = .ok (.iload_n 1, 1) := by decide +kernel
theorem d_Mo_readNumber_41 : decode b_Mo_readNumber 41 = .ok (.imul, 1) := by decide +kernel
theorem d_Mo_readNumber_42 : decode b_Mo_readNumber 42 = .ok (.aload_n 0, 1) := by decide +kernel
theorem d_Mo_readNumber_43 : decode b_Mo_readNumber 43 = .ok (.invokevirtual 80, 3) := by decide +kernel
theorem d_Mo_readNumber_46 : decode b_Mo_readNumber 46 = .ok (.iadd, 1) := by decide +kernel
theorem d_Mo_readNumber_47 : decode b_Mo_readNumber 47 = .ok (.bipush 48, 2) := by decide +kernel
theorem d_Mo_readNumber_49 : decode b_Mo_readNumber 49 = .ok (.isub, 1) := by decide +kernel
theorem d_Mo_readNumber_50 : decode b_Mo_readNumber 50 = .ok (.istore_n 1, 1) := by decide +kernel
theorem d_Mo_readNumber_51 : decode b_Mo_readNumber 51 = .ok (.aload_n 0, 1) := by decide +kernel
theorem d_Mo_readNumber_52 : decode b_Mo_readNumber 52 = .ok (.dup, 1) := by decide +kernel
theorem d_Mo_readNumber_53 : decode b_Mo_readNumber 53 = .ok (.getfield 77, 3) := by decide +kernel
theorem d_Mo_readNumber_56 : decode b_Mo_readNumber 56 = .ok (.iconst 1, 1) := by decide +kernel
theorem d_Mo_readNumber_57 : decode b_Mo_readNumber 57 = .ok (.iadd, 1) := by decide +kernel
theorem d_Mo_readNumber_58 : decode b_Mo_readNumber 58 = .ok (.putfield 77, 3) := by decide +kernel
theorem d_Mo_readNumber_61 : decode b_Mo_readNumber 61 = .ok (.iload_n 1, 1) := by decide +kernel
theorem d_Mo_readNumber_62 : decode b_Mo_readNumber 62 = .ok (.ireturn, 1) := by decide +kernel
theorem d_Mo_readInto_0 : decode b_Mo_readInto 0 = .ok (.aload_n 0, 1) := by decide +kernel
theorem d_Mo_readInto_1 : decode b_Mo_readInto 1 = .ok (.invokevirtual 88, 3) := by decide +kernel
theorem d_Mo_readInto_4 : decode b_Mo_readInto 4 = .ok (.istore_n 2, 1) := by decide +kernel
theorem d_Mo_readInto_5 : decode b_Mo_readInto 5 = .ok (.aload_n 0, 1) := by decide +kernel
theorem d_Mo_readInto_6 : decode b_Mo_readInto 6 = .ok (.getfield 13, 3) := by decide +kernel
theorem d_Mo_readInto_9 : decode b_Mo_readInto 9 = .ok (.bipush 8, 2) := by decide +kernel
theorem d_Mo_readInto_11 : decode b_Mo_readInto 11 = .ok (.iload_n 1, 1) := by decide +kernel
theorem d_Mo_readInto_12 : decode b_Mo_readInto 12 = .ok (.imul, 1) := by decide +kernel
theorem d_Mo_readInto_13 : decode b_Mo_readInto 13 = .ok (.aload_n 0, 1) := by decide +kernel
theorem d_Mo_readInto_14 : decode b_Mo_readInto 14 = .ok (.getfield 91, 3) := by decide +kernel
theorem d_Mo_readInto_17 : decode b_Mo_readInto 17 = .ok (.iadd, 1) := by decide +kernel
theorem d_Mo_readInto_18 : decode b_Mo_readInto 18 = .ok (.iload_n 2, 1) := by decide +kernel
theorem d_Mo_readInto_19 : decode b_Mo_readInto 19 = .ok (.iastore, 1) := by decide +kernel
theorem d_Mo_readInto_20 : decode b_Mo_readInto 20 = .ok (.iload_n 2, 1) := by decide +kernel
theorem d_Mo_readInto_21 : decode b_Mo_readInto 21 = .ok (.ifCond .lt 7, 3) := by decide +kernel
theorem d_Mo_readInto_24 : decode b_Mo_readInto 24 = .ok (.iconst 1, 1) := by decide +kernel
theorem d_Mo_readInto_25 : decode b_Mo_readInto 25 = .ok (.goto 4, 3) := by decide +kernel
theorem d_Mo_readInto_28 : decode b_Mo_readInto 28 = .ok (.iconst 0, 1) := by decide +kernel
theorem d_Mo_readInto_29 : decode b_Mo_readInto 29 = .ok (.ireturn, 1) := by decide +kernel
theorem d_Mo_rowOf_0 : decode b_Mo_rowOf 0 = .ok (.iload_n 0, 1) := by decide +kernel
theorem d_Mo_rowOf_1 : decode b_Mo_rowOf 1 = .ok (.bipush 69, 2) := by decide +kernel
theorem d_Mo_rowOf_3 : decode b_Mo_rowOf 3 = .ok (.if_icmp .ne 7, 3) := by decide +kernel
theorem d_Mo_rowOf_6 : decode b_Mo_rowOf 6 = .ok (.iconst 2, 1) := by decide +kernel
theorem d_Mo_rowOf_7 : decode b_Mo_rowOf 7 = .ok (.goto 45, 3) := by decide +kernel
theorem d_Mo_rowOf_10 : decode b_Mo_rowOf 10 = .ok (.iload_n 0, 1) := by decide +kernel
theorem d_Mo_rowOf_11 : decode b_Mo_rowOf 11 = .ok (.bipush 68, 2) := by decide +kernel
theorem d_Mo_rowOf_13 : decode b_Mo_rowOf 13 = .ok (.if_icmp .ne 7, 3) := by decide +kernel
theorem d_Mo_rowOf_16 : decode b_Mo_rowOf 16 = .ok (.iconst 3, 1) := by decide +kernel
theorem d_Mo_rowOf_17 : decode b_Mo_rowOf 17 = .ok (.goto 35, 3) := by decide +kernel
theorem d_Mo_rowOf_20 : decode b_Mo_rowOf 20 = .ok (.iload_n 0, 1) := by decide +kernel
theorem d_Mo_rowOf_21 : decode b_Mo_rowOf 21 = .ok (.bipush 72, 2) := by decide +kernel
theorem d_Mo_rowOf_23 : decode b_Mo_rowOf 23 = .ok (.if_icmp .ne 7, 3) := by decide +kernel
theorem d_Mo_rowOf_26 : decode b_Mo_rowOf 26 = .ok (.iconst 4, 1) := by decide +kernel
theorem d_Mo_rowOf_27 : decode b_Mo_rowOf 27 = .ok (.goto 25, 3) := by decide +kernel
theorem d_Mo_rowOf_30 : decode b_Mo_rowOf 30 = .ok (.iload_n 0, 1) := by decide +kernel
theorem d_Mo_rowOf_31 : decode b_Mo_rowOf 31 = .ok (.bipush 60, 2) := by decide +kernel
theorem d_Mo_rowOf_33 : decode b_Mo_rowOf 33 = .ok (.if_icmp .ne 7, 3) := by decide +kernel
theorem d_Mo_rowOf_36 : decode b_Mo_rowOf 36 = .ok (.iconst 5, 1) := by decide +kernel
theorem d_Mo_rowOf_37 : decode b_Mo_rowOf 37 = .ok (.goto 15, 3) := by decide +kernel
theorem d_Mo_rowOf_40 : decode b_Mo_rowOf 40 = .ok (.iload_n 0, 1) := by decide +kernel
theorem d_Mo_rowOf_41 : decode b_Mo_rowOf 41 = .ok (.bipush 42, 2) := by decide +kernel
theorem d_Mo_rowOf_43 : decode b_Mo_rowOf 43 = .ok (.if_icmp .ne 8, 3) := by decide +kernel
theorem d_Mo_rowOf_46 : decode b_Mo_rowOf 46 = .ok (.bipush 6, 2) := by decide +kernel
theorem d_Mo_rowOf_48 : decode b_Mo_rowOf 48 = .ok (.goto 4, 3) := by decide +kernel
theorem d_Mo_rowOf_51 : decode b_Mo_rowOf 51 = .ok (.iconst (-1), 1) := by decide +kernel
theorem d_Mo_rowOf_52 : decode b_Mo_rowOf 52 = .ok (.ireturn, 1) := by decide +kernel
theorem d_Mo_readOption_0 : decode b_Mo_readOption 0 = .ok (.aload_n 0, 1) := by decide +kernel
theorem d_Mo_readOption_1 : decode b_Mo_readOption 1 = .ok (.invokevirtual 80, 3) := by decide +kernel
theorem d_Mo_readOption_4 : decode b_Mo_readOption 4 = .ok (.istore_n 1, 1) := by decide +kernel
theorem d_Mo_readOption_5 : decode b_Mo_readOption 5 = .ok (.iload_n 1, 1) := by decide +kernel
theorem d_Mo_readOption_6 : decode b_Mo_readOption 6 = .ok (.invokestatic 94, 3) := by decide +kernel
theorem d_Mo_readOption_9 : decode b_Mo_readOption 9 = .ok (.istore_n 2, 1) := by decide +kernel
theorem d_Mo_readOption_10 : decode b_Mo_readOption 10 = .ok (.iload_n 2, 1) := by decide +kernel
theorem d_Mo_readOption_11 : decode b_Mo_readOption 11 = .ok (.ifCond .lt 53, 3) := by decide +kernel
theorem d_Mo_readOption_14 : decode b_Mo_readOption 14 = .ok (.aload_n 0, 1) := by decide +kernel
theorem d_Mo_readOption_15 : decode b_Mo_readOption 15 = .ok (.getfield 98, 3) := by decide +kernel
theorem d_Mo_readOption_18 : decode b_Mo_readOption 18 = .ok (.iload_n 2, 1) := by decide +kernel
theorem d_Mo_readOption_19 : decode b_Mo_readOption 19 = .ok (.ishr, 1) := by decide +kernel
theorem d_Mo_readOption_20 : decode b_Mo_readOption 20 = .ok (.iconst 1, 1) := by decide +kernel
theorem d_Mo_readOption_21 : decode b_Mo_readOption 21 = .ok (.iand, 1) := by decide +kernel
theorem d_Mo_readOption_22 : decode b_Mo_readOption 22 = .ok (.iconst 1, 1) := by decide +kernel
theorem d_Mo_readOption_23 : decode b_Mo_readOption 23 = .ok (.if_icmp .ne 5, 3) := by decide +kernel
theorem d_Mo_readOption_26 : decode b_Mo_readOption 26 = .ok (.iconst (-1), 1) := by decide +kernel
theorem d_Mo_readOption_27 : decode b_Mo_readOption 27 = .ok (.ireturn, 1) := by decide +kernel
theorem d_Mo_readOption_28 : decode b_Mo_readOption 28 = .ok (.aload_n 0, 1) := by decide +kernel
theorem d_Mo_readOption_29 : decode b_Mo_readOption 29 = .ok (.aload_n 0, 1) := by decide +kernel
theorem d_Mo_readOption_30 : decode b_Mo_readOption 30 = .ok (.getfield 98, 3) := by decide +kernel
theorem d_Mo_readOption_33 : decode b_Mo_readOption 33 = .ok (.iconst 1, 1) := by decide +kernel
theorem d_Mo_readOption_34 : decode b_Mo_readOption 34 = .ok (.iload_n 2, 1) := by decide +kernel
theorem d_Mo_readOption_35 : decode b_Mo_readOption 35 = .ok (.ishl, 1) := by decide +kernel
theorem d_Mo_readOption_36 : decode b_Mo_readOption 36 = .ok (.ior, 1) := by decide +kernel
theorem d_Mo_readOption_37 : decode b_Mo_readOption 37 = .ok (.putfield 98, 3) := by decide +kernel
theorem d_Mo_readOption_40 : decode b_Mo_readOption 40 = .ok (.aload_n 0, 1) := by decide +kernel
theorem d_Mo_readOption_41 : decode b_Mo_readOption 41 = .ok (.dup, 1) := by decide +kernel
theorem d_Mo_readOption_42 : decode b_Mo_readOption 42 = .ok (.getfield 77, 3) := by decide +kernel
theorem d_Mo_readOption_45 : decode b_Mo_readOption 45 = .ok (.iconst 1, 1) := by decide +kernel
theorem d_Mo_readOption_46 : decode b_Mo_readOption 46 = .ok (.iadd, 1) := by decide +kernel
theorem d_Mo_readOption_47 : decode b_Mo_readOption 47 = .ok (.putfield 77, 3) := by decide +kernel
theorem d_Mo_readOption_50 : decode b_Mo_readOption 50 = .ok (.aload_n 0, 1) := by decide +kernel
theorem d_Mo_readOption_51 : decode b_Mo_readOption 51 = .ok (.iload_n 2, 1) := by decide +kernel
theorem d_Mo_readOption_52 : decode b_Mo_readOption 52 = .ok (.invokevirtual 101, 3) := by decide +kernel
theorem d_Mo_readOption_55 : decode b_Mo_readOption 55 = .ok (.ifCond .eq 7, 3) := by decide +kernel
theorem d_Mo_readOption_58 : decode b_Mo_readOption 58 = .ok (.iconst 1, 1) := by decide +kernel
theorem d_Mo_readOption_59 : decode b_Mo_readOption 59 = .ok (.goto 4, 3) := by decide +kernel
theorem d_Mo_readOption_62 : decode b_Mo_readOption 62 = .ok (.iconst (-1), 1) := by decide +kernel
theorem d_Mo_readOption_63 : decode b_Mo_readOption 63 = .ok (.ireturn, 1) := by decide +kernel
theorem d_Mo_readOption_64 : decode b_Mo_readOption 64 = .ok (.iload_n 1, 1) := by decide +kernel
theorem d_Mo_readOption_65 : decode b_Mo_readOption 65 = .ok (.bipush 62, 2) := by decide +kernel
theorem d_Mo_readOption_67 : decode b_Mo_readOption 67 = .ok (.if_icmp .eq 11, 3) := by decide +kernel
theorem d_Mo_readOption_70 : decode b_Mo_readOption 70 = .ok (.iload_n 1, 1) := by decide +kernel
theorem d_Mo_readOption_71 : decode b_Mo_readOption 71 = .ok (.bipush 47, 2) := by decide +kernel
theorem d_Mo_readOption_73 : decode b_Mo_readOption 73 = .ok (.if_icmp .eq 5, 3) := by decide +kernel
theorem d_Mo_readOption_76 : decode b_Mo_readOption 76 = .ok (.iconst 0, 1) := by decide +kernel
theorem d_Mo_readOption_77 : decode b_Mo_readOption 77 = .ok (.ireturn, 1) := by decide +kernel
theorem d_Mo_readOption_78 : decode b_Mo_readOption 78 = .ok (.aload_n 0, 1) := by decide +kernel
theorem d_Mo_readOption_79 : decode b_Mo_readOption 79 = .ok (.dup, 1) := by decide +kernel
theorem d_Mo_readOption_80 : decode b_Mo_readOption 80 = .ok (.getfield 77, 3) := by decide +kernel
theorem d_Mo_readOption_83 : decode b_Mo_readOption 83 = .ok (.iconst 1, 1) := by decide +kernel
theorem d_Mo_readOption_84 : decode b_Mo_readOption 84 = .ok (.iadd, 1) := by decide +kernel
theorem d_Mo_readOption_85 : decode b_Mo_readOption 85 = .ok (.putfield 77, 3) := by decide +kernel
theorem d_Mo_readOption_88 : decode b_Mo_readOption 88 = .ok (.aload_n 0, 1) := by decide +kernel
theorem d_Mo_readOption_89 : decode b_Mo_readOption 89 = .ok (.invokevirtual 80, 3) := by decide +kernel
theorem d_Mo_readOption_92 : decode b_Mo_readOption 92 = .ok (.bipush 97, 2) := by decide +kernel
theorem d_Mo_readOption_94 : decode b_Mo_readOption 94 = .ok (.if_icmp .lt 12, 3) := by decide +kernel
theorem d_Mo_readOption_97 : decode b_Mo_readOption 97 = .ok (.aload_n 0, 1) := by decide +kernel
theorem d_Mo_readOption_98 : decode b_Mo_readOption 98 = .ok (.invokevirtual 80, 3) := by decide +kernel
theorem d_Mo_readOption_101 : decode b_Mo_readOption 101 = .ok (.bipush 122, 2) := by decide +kernel
theorem d_Mo_readOption_103 : decode b_Mo_readOption 103 = .ok (.if_icmp .le 5, 3) := by decide +kernel
theorem d_Mo_readOption_106 : decode b_Mo_readOption 106 = .ok (.iconst (-1), 1) := by decide +kernel
theorem d_Mo_readOption_107 : decode b_Mo_readOption 107 = .ok (.ireturn, 1) := by decide +kernel
theorem d_Mo_readOption_108 : decode b_Mo_readOption 108 = .ok (.iload_n 1, 1) := by decide +kernel
theorem d_Mo_readOption_109 : decode b_Mo_readOption 109 = .ok (.bipush 62, 2) := by decide +kernel
theorem d_Mo_readOption_111 : decode b_Mo_readOption 111 = .ok (.if_icmp .ne 8, 3) := by decide +kernel
theorem d_Mo_readOption_114 : decode b_Mo_readOption 114 = .ok (.bipush 56, 2) := by decide +kernel
theorem d_Mo_readOption_116 : decode b_Mo_readOption 116 = .ok (.goto 5, 3) := by decide +kernel
theorem d_Mo_readOption_119 : decode b_Mo_readOption 119 = .ok (.bipush 64, 2) := by decide +kernel
theorem d_Mo_readOption_121 : decode b_Mo_readOption 121 = .ok (.aload_n 0, 1) := by decide +kernel
theorem d_Mo_readOption_122 : decode b_Mo_readOption 122 = .ok (.getfield 91, 3) := by decide +kernel
theorem d_Mo_readOption_125 : decode b_Mo_readOption 125 = .ok (.iadd, 1) := by decide +kernel
theorem d_Mo_readOption_126 : decode b_Mo_readOption 126 = .ok (.istore_n 3, 1) := by decide +kernel
theorem d_Mo_readOption_127 : decode b_Mo_readOption 127 = .ok (.aload_n 0, 1) := by decide +kernel
theorem d_Mo_readOption_128 : decode b_Mo_readOption 128 = .ok (.getfield 13, 3) := by decide +kernel
theorem d_Mo_readOption_131 : decode b_Mo_readOption 131 = .ok (.iload_n 3, 1) := by decide +kernel
theorem d_Mo_readOption_132 : decode b_Mo_readOption 132 = .ok (.aload_n 0, 1) := by decide +kernel
theorem d_Mo_readOption_133 : decode b_Mo_readOption 133 = .ok (.getfield 13, 3) := by decide +kernel
theorem d_Mo_readOption_136 : decode b_Mo_readOption 136 = .ok (.iload_n 3, 1) := by decide +kernel
theorem d_Mo_readOption_137 : decode b_Mo_readOption 137 = .ok (.iaload, 1) := by decide +kernel
theorem d_Mo_readOption_138 : decode b_Mo_readOption 138 = .ok (.iconst 1, 1) := by decide +kernel
theorem d_Mo_readOption_139 : decode b_Mo_readOption 139 = .ok (.aload_n 0, 1) := by decide +kernel
theorem d_Mo_readOption_140 : decode b_Mo_readOption 140 = .ok (.invokevirtual 80, 3) := by decide +kernel
theorem d_Mo_readOption_143 : decode b_Mo_readOption 143 = .ok (.bipush 97, 2) := by decide +kernel
theorem d_Mo_readOption_145 : decode b_Mo_readOption 145 = .ok (.isub, 1) := by decide +kernel
theorem d_Mo_readOption_146 : decode b_Mo_readOption 146 = .ok (.ishl, 1) := by decide +kernel
theorem d_Mo_readOption_147 : decode b_Mo_readOption 147 = .ok (.ior, 1) := by decide +kernel
theorem d_Mo_readOption_148 : decode b_Mo_readOption 148 = .ok (.iastore, 1) := by decide +kernel
theorem d_Mo_readOption_149 : decode b_Mo_readOption 149 = .ok (.aload_n 0, 1) := by decide +kernel
theorem d_Mo_readOption_150 : decode b_Mo_readOption 150 = .ok (.dup, 1) := by decide +kernel
theorem d_Mo_readOption_151 : decode b_Mo_readOption 151 = .ok (.getfield 77, 3) := by decide +kernel
theorem d_Mo_readOption_154 : decode b_Mo_readOption 154 = .ok (.iconst 1, 1) := by decide +kernel
end
section
theorem d_Mo_readOption_155 : decode b_Mo_readOption 155 = .ok (.iadd, 1) := by decide +kernel
theorem d_Mo_readOption_156 : decode b_Mo_readOption 156 = .ok (.putfield 77, 3) := by decide +kernel
theorem d_Mo_readOption_159 : decode b_Mo_readOption 159 = .ok (.iconst 1, 1) := by decide +kernel
theorem d_Mo_readOption_160 : decode b_Mo_readOption 160 = .ok (.ireturn, 1) := by decide +kernel
theorem d_Mo_readActivity_0 : decode b_Mo_readActivity 0 = .ok (.iconst 0, 1) := by decide +kernel
theorem d_Mo_readActivity_1 : decode b_Mo_readActivity 1 = .ok (.istore_n 1, 1) := by decide +kernel
theorem d_Mo_readActivity_2 : decode b_Mo_readActivity 2 = .ok (.iload_n 1, 1) := by decide +kernel
theorem d_Mo_readActivity_3 : decode b_Mo_readActivity 3 = .ok (.bipush 9, 2) := by decide +kernel
theorem d_Mo_readActivity_5 : decode b_Mo_readActivity 5 = .ok (.if_icmp .ge 34, 3) := by decide +kernel
theorem d_Mo_readActivity_8 : decode b_Mo_readActivity 8 = .ok (.aload_n 0, 1) := by decide +kernel
theorem d_Mo_readActivity_9 : decode b_Mo_readActivity 9 = .ok (.getfield 13, 3) := by decide +kernel
theorem d_Mo_readActivity_12 : decode b_Mo_readActivity 12 = .ok (.bipush 8, 2) := by decide +kernel
theorem d_Mo_readActivity_14 : decode b_Mo_readActivity 14 = .ok (.iload_n 1, 1) := by decide +kernel
theorem d_Mo_readActivity_15 : decode b_Mo_readActivity 15 = .ok (.imul, 1) := by decide +kernel
theorem d_Mo_readActivity_16 : decode b_Mo_readActivity 16 = .ok (.aload_n 0, 1) := by decide +kernel
theorem d_Mo_readActivity_17 : decode b_Mo_readActivity 17 = .ok (.getfield 91, 3) := by decide +kernel
theorem d_Mo_readActivity_20 : decode b_Mo_readActivity 20 = .ok (.iadd, 1) := by decide +kernel
theorem d_Mo_readActivity_21 : decode b_Mo_readActivity 21 = .ok (.iload_n 1, 1) := by decide +kernel
theorem d_Mo_readActivity_22 : decode b_Mo_readActivity 22 = .ok (.iconst 5, 1) := by decide +kernel
theorem d_Mo_readActivity_23 : decode b_Mo_readActivity 23 = .ok (.if_icmp .ne 8, 3) := by decide +kernel
theorem d_Mo_readActivity_26 : decode b_Mo_readActivity 26 = .ok (.bipush 99, 2) := by decide +kernel
theorem d_Mo_readActivity_28 : decode b_Mo_readActivity 28 = .ok (.goto 4, 3) := by decide +kernel
theorem d_Mo_readActivity_31 : decode b_Mo_readActivity 31 = .ok (.iconst 0, 1) := by decide +kernel
theorem d_Mo_readActivity_32 : decode b_Mo_readActivity 32 = .ok (.iastore, 1) := by decide +kernel
theorem d_Mo_readActivity_33 : decode b_Mo_readActivity 33 = .ok (.iinc 1 1, 3) := by decide +kernel
theorem d_Mo_readActivity_36 : decode b_Mo_readActivity 36 = .ok (.goto (-34), 3) := by decide +kernel
theorem d_Mo_readActivity_39 : decode b_Mo_readActivity 39 = .ok (.aload_n 0, 1) := by decide +kernel
theorem d_Mo_readActivity_40 : decode b_Mo_readActivity 40 = .ok (.invokevirtual 80, 3) := by decide +kernel
theorem d_Mo_readActivity_43 : decode b_Mo_readActivity 43 = .ok (.bipush 97, 2) := by decide +kernel
theorem d_Mo_readActivity_45 : decode b_Mo_readActivity 45 = .ok (.aload_n 0, 1) := by decide +kernel
theorem d_Mo_readActivity_46 : decode b_Mo_readActivity 46 = .ok (.getfield 91, 3) := by decide +kernel
theorem d_Mo_readActivity_49 : decode b_Mo_readActivity 49 = .ok (.iadd, 1) := by decide +kernel
theorem d_Mo_readActivity_50 : decode b_Mo_readActivity 50 = .ok (.if_icmp .eq 5, 3) := by decide +kernel
theorem d_Mo_readActivity_53 : decode b_Mo_readActivity 53 = .ok (.iconst 0, 1) := by decide +kernel
theorem d_Mo_readActivity_54 : decode b_Mo_readActivity 54 = .ok (.ireturn, 1) := by decide +kernel
theorem d_Mo_readActivity_55 : decode b_Mo_readActivity 55 = .ok (.aload_n 0, 1) := by decide +kernel
theorem d_Mo_readActivity_56 : decode b_Mo_readActivity 56 = .ok (.dup, 1) := by decide +kernel
theorem d_Mo_readActivity_57 : decode b_Mo_readActivity 57 = .ok (.getfield 77, 3) := by decide +kernel
theorem d_Mo_readActivity_60 : decode b_Mo_readActivity 60 = .ok (.iconst 1, 1) := by decide +kernel
theorem d_Mo_readActivity_61 : decode b_Mo_readActivity 61 = .ok (.iadd, 1) := by decide +kernel
theorem d_Mo_readActivity_62 : decode b_Mo_readActivity 62 = .ok (.putfield 77, 3) := by decide +kernel
theorem d_Mo_readActivity_65 : decode b_Mo_readActivity 65 = .ok (.aload_n 0, 1) := by decide +kernel
theorem d_Mo_readActivity_66 : decode b_Mo_readActivity 66 = .ok (.iconst 0, 1) := by decide +kernel
theorem d_Mo_readActivity_67 : decode b_Mo_readActivity 67 = .ok (.invokevirtual 101, 3) := by decide +kernel
theorem d_Mo_readActivity_70 : decode b_Mo_readActivity 70 = .ok (.ifCond .eq 12, 3) := by decide +kernel
theorem d_Mo_readActivity_73 : decode b_Mo_readActivity 73 = .ok (.aload_n 0, 1) := by decide +kernel
theorem d_Mo_readActivity_74 : decode b_Mo_readActivity 74 = .ok (.invokevirtual 80, 3) := by decide +kernel
theorem d_Mo_readActivity_77 : decode b_Mo_readActivity 77 = .ok (.bipush 45, 2) := by decide +kernel
theorem d_Mo_readActivity_79 : decode b_Mo_readActivity 79 = .ok (.if_icmp .eq 5, 3) := by decide +kernel
theorem d_Mo_readActivity_82 : decode b_Mo_readActivity 82 = .ok (.iconst 0, 1) := by decide +kernel
theorem d_Mo_readActivity_83 : decode b_Mo_readActivity 83 = .ok (.ireturn, 1) := by decide +kernel
theorem d_Mo_readActivity_84 : decode b_Mo_readActivity 84 = .ok (.aload_n 0, 1) := by decide +kernel
theorem d_Mo_readActivity_85 : decode b_Mo_readActivity 85 = .ok (.dup, 1) := by decide +kernel
theorem d_Mo_readActivity_86 : decode b_Mo_readActivity 86 = .ok (.getfield 77, 3) := by decide +kernel
theorem d_Mo_readActivity_89 : decode b_Mo_readActivity 89 = .ok (.iconst 1, 1) := by decide +kernel
theorem d_Mo_readActivity_90 : decode b_Mo_readActivity 90 = .ok (.iadd, 1) := by decide +kernel
theorem d_Mo_readActivity_91 : decode b_Mo_readActivity 91 = .ok (.putfield 77, 3) := by decide +kernel
theorem d_Mo_readActivity_94 : decode b_Mo_readActivity 94 = .ok (.aload_n 0, 1) := by decide +kernel
theorem d_Mo_readActivity_95 : decode b_Mo_readActivity 95 = .ok (.iconst 1, 1) := by decide +kernel
theorem d_Mo_readActivity_96 : decode b_Mo_readActivity 96 = .ok (.invokevirtual 101, 3) := by decide +kernel
theorem d_Mo_readActivity_99 : decode b_Mo_readActivity 99 = .ok (.ifCond .ne 5, 3) := by decide +kernel
theorem d_Mo_readActivity_102 : decode b_Mo_readActivity 102 = .ok (.iconst 0, 1) := by decide +kernel
theorem d_Mo_readActivity_103 : decode b_Mo_readActivity 103 = .ok (.ireturn, 1) := by decide +kernel
theorem d_Mo_readActivity_104 : decode b_Mo_readActivity 104 = .ok (.aload_n 0, 1) := by decide +kernel
theorem d_Mo_readActivity_105 : decode b_Mo_readActivity 105 = .ok (.iconst 0, 1) := by decide +kernel
theorem d_Mo_readActivity_106 : decode b_Mo_readActivity 106 = .ok (.putfield 98, 3) := by decide +kernel
theorem d_Mo_readActivity_109 : decode b_Mo_readActivity 109 = .ok (.iconst 1, 1) := by decide +kernel
theorem d_Mo_readActivity_110 : decode b_Mo_readActivity 110 = .ok (.istore_n 1, 1) := by decide +kernel
theorem d_Mo_readActivity_111 : decode b_Mo_readActivity 111 = .ok (.iload_n 1, 1) := by decide +kernel
theorem d_Mo_readActivity_112 : decode b_Mo_readActivity 112 = .ok (.iconst 1, 1) := by decide +kernel
theorem d_Mo_readActivity_113 : decode b_Mo_readActivity 113 = .ok (.if_icmp .ne 11, 3) := by decide +kernel
theorem d_Mo_readActivity_116 : decode b_Mo_readActivity 116 = .ok (.aload_n 0, 1) := by decide +kernel
theorem d_Mo_readActivity_117 : decode b_Mo_readActivity 117 = .ok (.invokevirtual 105, 3) := by decide +kernel
theorem d_Mo_readActivity_120 : decode b_Mo_readActivity 120 = .ok (.istore_n 1, 1) := by decide +kernel
theorem d_Mo_readActivity_121 : decode b_Mo_readActivity 121 = .ok (.goto (-10), 3) := by decide +kernel
theorem d_Mo_readActivity_124 : decode b_Mo_readActivity 124 = .ok (.aload_n 0, 1) := by decide +kernel
theorem d_Mo_readActivity_125 : decode b_Mo_readActivity 125 = .ok (.dup, 1) := by decide +kernel
theorem d_Mo_readActivity_126 : decode b_Mo_readActivity 126 = .ok (.getfield 91, 3) := by decide +kernel
theorem d_Mo_readActivity_129 : decode b_Mo_readActivity 129 = .ok (.iconst 1, 1) := by decide +kernel
theorem d_Mo_readActivity_130 : decode b_Mo_readActivity 130 = .ok (.iadd, 1) := by decide +kernel
theorem d_Mo_readActivity_131 : decode b_Mo_readActivity 131 = .ok (.putfield 91, 3) := by decide +kernel
theorem d_Mo_readActivity_134 : decode b_Mo_readActivity 134 = .ok (.iload_n 1, 1) := by decide +kernel
theorem d_Mo_readActivity_135 : decode b_Mo_readActivity 135 = .ok (.ifCond .ne 7, 3) := by decide +kernel
theorem d_Mo_readActivity_138 : decode b_Mo_readActivity 138 = .ok (.iconst 1, 1) := by decide +kernel
theorem d_Mo_readActivity_139 : decode b_Mo_readActivity 139 = .ok (.goto 4, 3) := by decide +kernel
theorem d_Mo_readActivity_142 : decode b_Mo_readActivity 142 = .ok (.iconst 0, 1) := by decide +kernel
theorem d_Mo_readActivity_143 : decode b_Mo_readActivity 143 = .ok (.ireturn, 1) := by decide +kernel
theorem d_Mo_readLine_0 : decode b_Mo_readLine 0 = .ok (.aload_n 0, 1) := by decide +kernel
theorem d_Mo_readLine_1 : decode b_Mo_readLine 1 = .ok (.iconst 0, 1) := by decide +kernel
theorem d_Mo_readLine_2 : decode b_Mo_readLine 2 = .ok (.putfield 77, 3) := by decide +kernel
theorem d_Mo_readLine_5 : decode b_Mo_readLine 5 = .ok (.aload_n 0, 1) := by decide +kernel
theorem d_Mo_readLine_6 : decode b_Mo_readLine 6 = .ok (.iconst 0, 1) := by decide +kernel
theorem d_Mo_readLine_7 : decode b_Mo_readLine 7 = .ok (.putfield 91, 3) := by decide +kernel
theorem d_Mo_readLine_10 : decode b_Mo_readLine 10 = .ok (.aload_n 0, 1) := by decide +kernel
theorem d_Mo_readLine_11 : decode b_Mo_readLine 11 = .ok (.invokevirtual 108, 3) := by decide +kernel
theorem d_Mo_readLine_14 : decode b_Mo_readLine 14 = .ok (.istore_n 1, 1) := by decide +kernel
theorem d_Mo_readLine_15 : decode b_Mo_readLine 15 = .ok (.iload_n 1, 1) := by decide +kernel
theorem d_Mo_readLine_16 : decode b_Mo_readLine 16 = .ok (.ifCond .eq 39, 3) := by decide +kernel
theorem d_Mo_readLine_19 : decode b_Mo_readLine 19 = .ok (.aload_n 0, 1) := by decide +kernel
theorem d_Mo_readLine_20 : decode b_Mo_readLine 20 = .ok (.invokevirtual 80, 3) := by decide +kernel
theorem d_Mo_readLine_23 : decode b_Mo_readLine 23 = .ok (.bipush 59, 2) := by decide +kernel
theorem d_Mo_readLine_25 : decode b_Mo_readLine 25 = .ok (.if_icmp .ne 30, 3) := by decide +kernel
theorem d_Mo_readLine_28 : decode b_Mo_readLine 28 = .ok (.aload_n 0, 1) := by decide +kernel
theorem d_Mo_readLine_29 : decode b_Mo_readLine 29 = .ok (.getfield 91, 3) := by decide +kernel
theorem d_Mo_readLine_32 : decode b_Mo_readLine 32 = .ok (.bipush 8, 2) := by decide +kernel
theorem d_Mo_readLine_34 : decode b_Mo_readLine 34 = .ok (.if_icmp .ge 21, 3) := by decide +kernel
theorem d_Mo_readLine_37 : decode b_Mo_readLine 37 = .ok (.aload_n 0, 1) := by decide +kernel
theorem d_Mo_readLine_38 : decode b_Mo_readLine 38 = .ok (.dup, 1) := by decide +kernel
theorem d_Mo_readLine_39 : decode b_Mo_readLine 39 = .ok (.getfield 77, 3) := by decide +kernel
theorem d_Mo_readLine_42 : decode b_Mo_readLine 42 = .ok (.iconst 1, 1) := by decide +kernel
theorem d_Mo_readLine_43 : decode b_Mo_readLine 43 = .ok (.iadd, 1) := by decide +kernel
theorem d_Mo_readLine_44 : decode b_Mo_readLine 44 = .ok (.putfield 77, 3) := by decide +kernel
theorem d_Mo_readLine_47 : decode b_Mo_readLine 47 = .ok (.aload_n 0, 1) := by decide +kernel
theorem d_Mo_readLine_48 : decode b_Mo_readLine 48 = .ok (.invokevirtual 108, 3) := by decide +kernel
theorem d_Mo_readLine_51 : decode b_Mo_readLine 51 = .ok (.istore_n 1, 1) := by decide +kernel
theorem d_Mo_readLine_52 : decode b_Mo_readLine 52 = .ok (.goto (-37), 3) := by decide +kernel
theorem d_Mo_readLine_55 : decode b_Mo_readLine 55 = .ok (.iload_n 1, 1) := by decide +kernel
theorem d_Mo_readLine_56 : decode b_Mo_readLine 56 = .ok (.ifCond .eq 18, 3) := by decide +kernel
theorem d_Mo_readLine_59 : decode b_Mo_readLine 59 = .ok (.aload_n 0, 1) := by decide +kernel
theorem d_Mo_readLine_60 : decode b_Mo_readLine 60 = .ok (.getfield 77, 3) := by decide +kernel
theorem d_Mo_readLine_63 : decode b_Mo_readLine 63 = .ok (.aload_n 0, 1) := by decide +kernel
theorem d_Mo_readLine_64 : decode b_Mo_readLine 64 = .ok (.getfield 71, 3) := by decide +kernel
theorem d_Mo_readLine_67 : decode b_Mo_readLine 67 = .ok (.if_icmp .ne 7, 3) := by decide +kernel
theorem d_Mo_readLine_70 : decode b_Mo_readLine 70 = .ok (.iconst 1, 1) := by decide +kernel
theorem d_Mo_readLine_71 : decode b_Mo_readLine 71 = .ok (.goto 4, 3) := by decide +kernel
theorem d_Mo_readLine_74 : decode b_Mo_readLine 74 = .ok (.iconst 0, 1) := by decide +kernel
theorem d_Mo_readLine_75 : decode b_Mo_readLine 75 = .ok (.ireturn, 1) := by decide +kernel
theorem d_Mo_isWrong_0 : decode b_Mo_isWrong 0 = .ok (.aload_n 0, 1) := by decide +kernel
theorem d_Mo_isWrong_1 : decode b_Mo_isWrong 1 = .ok (.getfield 13, 3) := by decide +kernel
theorem d_Mo_isWrong_4 : decode b_Mo_isWrong 4 = .ok (.iload_n 1, 1) := by decide +kernel
theorem d_Mo_isWrong_5 : decode b_Mo_isWrong 5 = .ok (.iaload, 1) := by decide +kernel
theorem d_Mo_isWrong_6 : decode b_Mo_isWrong 6 = .ok (.istore_n 2, 1) := by decide +kernel
theorem d_Mo_isWrong_7 : decode b_Mo_isWrong 7 = .ok (.aload_n 0, 1) := by decide +kernel
theorem d_Mo_isWrong_8 : decode b_Mo_isWrong 8 = .ok (.getfield 13, 3) := by decide +kernel
theorem d_Mo_isWrong_11 : decode b_Mo_isWrong 11 = .ok (.bipush 8, 2) := by decide +kernel
theorem d_Mo_isWrong_13 : decode b_Mo_isWrong 13 = .ok (.iload_n 1, 1) := by decide +kernel
theorem d_Mo_isWrong_14 : decode b_Mo_isWrong 14 = .ok (.iadd, 1) := by decide +kernel
theorem d_Mo_isWrong_15 : decode b_Mo_isWrong 15 = .ok (.iaload, 1) := by decide +kernel
theorem d_Mo_isWrong_16 : decode b_Mo_isWrong 16 = .ok (.istore_n 3, 1) := by decide +kernel
theorem d_Mo_isWrong_17 : decode b_Mo_isWrong 17 = .ok (.aload_n 0, 1) := by decide +kernel
theorem d_Mo_isWrong_18 : decode b_Mo_isWrong 18 = .ok (.getfield 13, 3) := by decide +kernel
theorem d_Mo_isWrong_21 : decode b_Mo_isWrong 21 = .ok (.bipush 56, 2) := by decide +kernel
theorem d_Mo_isWrong_23 : decode b_Mo_isWrong 23 = .ok (.iload_n 1, 1) := by decide +kernel
theorem d_Mo_isWrong_24 : decode b_Mo_isWrong 24 = .ok (.iadd, 1) := by decide +kernel
theorem d_Mo_isWrong_25 : decode b_Mo_isWrong 25 = .ok (.iaload, 1) := by decide +kernel
theorem d_Mo_isWrong_26 : decode b_Mo_isWrong 26 = .ok (.aload_n 0, 1) := by decide +kernel
theorem d_Mo_isWrong_27 : decode b_Mo_isWrong 27 = .ok (.getfield 13, 3) := by decide +kernel
theorem d_Mo_isWrong_30 : decode b_Mo_isWrong 30 = .ok (.bipush 64, 2) := by decide +kernel
theorem d_Mo_isWrong_32 : decode b_Mo_isWrong 32 = .ok (.iload_n 1, 1) := by decide +kernel
theorem d_Mo_isWrong_33 : decode b_Mo_isWrong 33 = .ok (.iadd, 1) := by decide +kernel
theorem d_Mo_isWrong_34 : decode b_Mo_isWrong 34 = .ok (.iaload, 1) := by decide +kernel
theorem d_Mo_isWrong_35 : decode b_Mo_isWrong 35 = .ok (.ior, 1) := by decide +kernel
theorem d_Mo_isWrong_36 : decode b_Mo_isWrong 36 = .ok (.istore 4, 2) := by decide +kernel
theorem d_Mo_isWrong_38 : decode b_Mo_isWrong 38 = .ok (.iload_n 2, 1) := by decide +kernel
theorem d_Mo_isWrong_39 : decode b_Mo_isWrong 39 = .ok (.iconst 1, 1) := by decide +kernel
theorem d_Mo_isWrong_40 : decode b_Mo_isWrong 40 = .ok (.if_icmp .lt 18, 3) := by decide +kernel
theorem d_Mo_isWrong_43 : decode b_Mo_isWrong 43 = .ok (.iload_n 3, 1) := by decide +kernel
theorem d_Mo_isWrong_44 : decode b_Mo_isWrong 44 = .ok (.bipush 30, 2) := by decide +kernel
theorem d_Mo_isWrong_46 : decode b_Mo_isWrong 46 = .ok (.if_icmp .gt 12, 3) := by decide +kernel
theorem d_Mo_isWrong_49 : decode b_Mo_isWrong 49 = .ok (.iload_n 2, 1) := by decide +kernel
theorem d_Mo_isWrong_50 : decode b_Mo_isWrong 50 = .ok (.iload_n 3, 1) := by decide +kernel
theorem d_Mo_isWrong_51 : decode b_Mo_isWrong 51 = .ok (.if_icmp .gt 7, 3) := by decide +kernel
theorem d_Mo_isWrong_54 : decode b_Mo_isWrong 54 = .ok (.iconst 1, 1) := by decide +kernel
theorem d_Mo_isWrong_55 : decode b_Mo_isWrong 55 = .ok (.goto 4, 3) := by decide +kernel
theorem d_Mo_isWrong_58 : decode b_Mo_isWrong 58 = .ok (.iconst 0, 1) := by decide +kernel
theorem d_Mo_isWrong_59 : decode b_Mo_isWrong 59 = .ok (.istore 5, 2) := by decide +kernel
theorem d_Mo_isWrong_61 : decode b_Mo_isWrong 61 = .ok (.iload 5, 2) := by decide +kernel
theorem d_Mo_isWrong_63 : decode b_Mo_isWrong 63 = .ok (.ifCond .eq 36, 3) := by decide +kernel
theorem d_Mo_isWrong_66 : decode b_Mo_isWrong 66 = .ok (.aload_n 0, 1) := by decide +kernel
theorem d_Mo_isWrong_67 : decode b_Mo_isWrong 67 = .ok (.getfield 13, 3) := by decide +kernel
theorem d_Mo_isWrong_70 : decode b_Mo_isWrong 70 = .ok (.bipush 48, 2) := by decide +kernel
theorem d_Mo_isWrong_72 : decode b_Mo_isWrong 72 = .ok (.iload_n 1, 1) := by decide +kernel
theorem d_Mo_isWrong_73 : decode b_Mo_isWrong 73 = .ok (.iadd, 1) := by decide +kernel
theorem d_Mo_isWrong_74 : decode b_Mo_isWrong 74 = .ok (.iaload, 1) := by decide +kernel
theorem d_Mo_isWrong_75 : decode b_Mo_isWrong 75 = .ok (.iconst 3, 1) := by decide +kernel
theorem d_Mo_isWrong_76 : decode b_Mo_isWrong 76 = .ok (.if_icmp .gt 23, 3) := by decide +kernel
theorem d_Mo_isWrong_79 : decode b_Mo_isWrong 79 = .ok (.iload 4, 2) := by decide +kernel
theorem d_Mo_isWrong_81 : decode b_Mo_isWrong 81 = .ok (.aload_n 0, 1) := by decide +kernel
theorem d_Mo_isWrong_82 : decode b_Mo_isWrong 82 = .ok (.getfield 91, 3) := by decide +kernel
theorem d_Mo_isWrong_85 : decode b_Mo_isWrong 85 = .ok (.ishr, 1) := by decide +kernel
theorem d_Mo_isWrong_86 : decode b_Mo_isWrong 86 = .ok (.ifCond .ne 13, 3) := by decide +kernel
theorem d_Mo_isWrong_89 : decode b_Mo_isWrong 89 = .ok (.iload 4, 2) := by decide +kernel
theorem d_Mo_isWrong_91 : decode b_Mo_isWrong 91 = .ok (.iload_n 1, 1) := by decide +kernel
theorem d_Mo_isWrong_92 : decode b_Mo_isWrong 92 = .ok (.ishr, 1) := by decide +kernel
theorem d_Mo_isWrong_93 : decode b_Mo_isWrong 93 = .ok (.iconst 1, 1) := by decide +kernel
theorem d_Mo_isWrong_94 : decode b_Mo_isWrong 94 = .ok (.iand, 1) := by decide +kernel
theorem d_Mo_isWrong_95 : decode b_Mo_isWrong 95 = .ok (.iconst 1, 1) := by decide +kernel
theorem d_Mo_isWrong_96 : decode b_Mo_isWrong 96 = .ok (.if_icmp .ne 7, 3) := by decide +kernel
theorem d_Mo_isWrong_99 : decode b_Mo_isWrong 99 = .ok (.iconst 1, 1) := by decide +kernel
theorem d_Mo_isWrong_100 : decode b_Mo_isWrong 100 = .ok (.goto 4, 3) := by decide +kernel
theorem d_Mo_isWrong_103 : decode b_Mo_isWrong 103 = .ok (.iconst 0, 1) := by decide +kernel
theorem d_Mo_isWrong_104 : decode b_Mo_isWrong 104 = .ok (.ireturn, 1) := by decide +kernel
theorem d_Mo_findRings_0 : decode b_Mo_findRings 0 = .ok (.iconst 0, 1) := by decide +kernel
theorem d_Mo_findRings_1 : decode b_Mo_findRings 1 = .ok (.istore_n 1, 1) := by decide +kernel
theorem d_Mo_findRings_2 : decode b_Mo_findRings 2 = .ok (.iload_n 1, 1) := by decide +kernel
theorem d_Mo_findRings_3 : decode b_Mo_findRings 3 = .ok (.aload_n 0, 1) := by decide +kernel
theorem d_Mo_findRings_4 : decode b_Mo_findRings 4 = .ok (.getfield 91, 3) := by decide +kernel
theorem d_Mo_findRings_7 : decode b_Mo_findRings 7 = .ok (.if_icmp .ge 24, 3) := by decide +kernel
theorem d_Mo_findRings_10 : decode b_Mo_findRings 10 = .ok (.aload_n 0, 1) := by decide +kernel
theorem d_Mo_findRings_11 : decode b_Mo_findRings 11 = .ok (.getfield 16, 3) := by decide +kernel
theorem d_Mo_findRings_14 : decode b_Mo_findRings 14 = .ok (.iload_n 1, 1) := by decide +kernel
theorem d_Mo_findRings_15 : decode b_Mo_findRings 15 = .ok (.aload_n 0, 1) := by decide +kernel
theorem d_Mo_findRings_16 : decode b_Mo_findRings 16 = .ok (.getfield 13, 3) := by decide +kernel
theorem d_Mo_findRings_19 : decode b_Mo_findRings 19 = .ok (.bipush 56, 2) := by decide +kernel
theorem d_Mo_findRings_21 : decode b_Mo_findRings 21 = .ok (.iload_n 1, 1) := by decide +kernel
theorem d_Mo_findRings_22 : decode b_Mo_findRings 22 = .ok (.iadd, 1) := by decide +kernel
theorem d_Mo_findRings_23 : decode b_Mo_findRings 23 = .ok (.iaload, 1) := by decide +kernel
theorem d_Mo_findRings_24 : decode b_Mo_findRings 24 = .ok (.iastore, 1) := by decide +kernel
theorem d_Mo_findRings_25 : decode b_Mo_findRings 25 = .ok (.iinc 1 1, 3) := by decide +kernel
theorem d_Mo_findRings_28 : decode b_Mo_findRings 28 = .ok (.goto (-26), 3) := by decide +kernel
theorem d_Mo_findRings_31 : decode b_Mo_findRings 31 = .ok (.iconst 0, 1) := by decide +kernel
theorem d_Mo_findRings_32 : decode b_Mo_findRings 32 = .ok (.istore_n 1, 1) := by decide +kernel
theorem d_Mo_findRings_33 : decode b_Mo_findRings 33 = .ok (.iload_n 1, 1) := by decide +kernel
theorem d_Mo_findRings_34 : decode b_Mo_findRings 34 = .ok (.bipush 8, 2) := by decide +kernel
theorem d_Mo_findRings_36 : decode b_Mo_findRings 36 = .ok (.if_icmp .ge 83, 3) := by decide +kernel
theorem d_Mo_findRings_39 : decode b_Mo_findRings 39 = .ok (.iconst 0, 1) := by decide +kernel
theorem d_Mo_findRings_40 : decode b_Mo_findRings 40 = .ok (.istore_n 2, 1) := by decide +kernel
theorem d_Mo_findRings_41 : decode b_Mo_findRings 41 = .ok (.iload_n 2, 1) := by decide +kernel
theorem d_Mo_findRings_42 : decode b_Mo_findRings 42 = .ok (.aload_n 0, 1) := by decide +kernel
theorem d_Mo_findRings_43 : decode b_Mo_findRings 43 = .ok (.getfield 91, 3) := by decide +kernel
theorem d_Mo_findRings_46 : decode b_Mo_findRings 46 = .ok (.if_icmp .ge 67, 3) := by decide +kernel
theorem d_Mo_findRings_49 : decode b_Mo_findRings 49 = .ok (.iconst 0, 1) := by decide +kernel
theorem d_Mo_findRings_50 : decode b_Mo_findRings 50 = .ok (.istore_n 3, 1) := by decide +kernel
theorem d_Mo_findRings_51 : decode b_Mo_findRings 51 = .ok (.iload_n 3, 1) := by decide +kernel
theorem d_Mo_findRings_52 : decode b_Mo_findRings 52 = .ok (.aload_n 0, 1) := by decide +kernel
theorem d_Mo_findRings_53 : decode b_Mo_findRings 53 = .ok (.getfield 91, 3) := by decide +kernel
theorem d_Mo_findRings_56 : decode b_Mo_findRings 56 = .ok (.if_icmp .ge 51, 3) := by decide +kernel
theorem d_Mo_findRings_59 : decode b_Mo_findRings 59 = .ok (.aload_n 0, 1) := by decide +kernel
theorem d_Mo_findRings_60 : decode b_Mo_findRings 60 = .ok (.getfield 16, 3) := by decide +kernel
theorem d_Mo_findRings_63 : decode b_Mo_findRings 63 = .ok (.iload_n 2, 1) := by decide +kernel
theorem d_Mo_findRings_64 : decode b_Mo_findRings 64 = .ok (.aload_n 0, 1) := by decide +kernel
theorem d_Mo_findRings_65 : decode b_Mo_findRings 65 = .ok (.getfield 16, 3) := by decide +kernel
theorem d_Mo_findRings_68 : decode b_Mo_findRings 68 = .ok (.iload_n 2, 1) := by decide +kernel
theorem d_Mo_findRings_69 : decode b_Mo_findRings 69 = .ok (.iaload, 1) := by decide +kernel
theorem d_Mo_findRings_70 : decode b_Mo_findRings 70 = .ok (.iload_n 3, 1) := by decide +kernel
theorem d_Mo_findRings_71 : decode b_Mo_findRings 71 = .ok (.ishr, 1) := by decide +kernel
theorem d_Mo_findRings_72 : decode b_Mo_findRings 72 = .ok (.iconst 1, 1) := by decide +kernel
theorem d_Mo_findRings_73 : decode b_Mo_findRings 73 = .ok (.iand, 1) := by decide +kernel
theorem d_Mo_findRings_74 : decode b_Mo_findRings 74 = .ok (.iconst 1, 1) := by decide +kernel
theorem d_Mo_findRings_75 : decode b_Mo_findRings 75 = .ok (.if_icmp .ne 19, 3) := by decide +kernel
theorem d_Mo_findRings_78 : decode b_Mo_findRings 78 = .ok (.aload_n 0, 1) := by decide +kernel
theorem d_Mo_findRings_79 : decode b_Mo_findRings 79 = .ok (.getfield 16, 3) := by decide +kernel
theorem d_Mo_findRings_82 : decode b_Mo_findRings 82 = .ok (.iload_n 2, 1) := by decide +kernel
theorem d_Mo_findRings_83 : decode b_Mo_findRings 83 = .ok (.iaload, 1) := by decide +kernel
theorem d_Mo_findRings_84 : decode b_Mo_findRings 84 = .ok (.aload_n 0, 1) := by decide +kernel
theorem d_Mo_findRings_85 : decode b_Mo_findRings 85 = .ok (.getfield 16, 3) := by decide +kernel
theorem d_Mo_findRings_88 : decode b_Mo_findRings 88 = .ok (.iload_n 3, 1) := by decide +kernel
theorem d_Mo_findRings_89 : decode b_Mo_findRings 89 = .ok (.iaload, 1) := by decide +kernel
theorem d_Mo_findRings_90 : decode b_Mo_findRings 90 = .ok (.ior, 1) := by decide +kernel
theorem d_Mo_findRings_91 : decode b_Mo_findRings 91 = .ok (.goto 9, 3) := by decide +kernel
theorem d_Mo_findRings_94 : decode b_Mo_findRings 94 = .ok (.aload_n 0, 1) := by decide +kernel
theorem d_Mo_findRings_95 : decode b_Mo_findRings 95 = .ok (.getfield 16, 3) := by decide +kernel
theorem d_Mo_findRings_98 : decode b_Mo_findRings 98 = .ok (.iload_n 2, 1) := by decide +kernel
theorem d_Mo_findRings_99 : decode b_Mo_findRings 99 = .ok (.iaload, 1) := by decide +kernel
theorem d_Mo_findRings_100 : decode b_Mo_findRings 100 = .ok (.iastore, 1) := by decide +kernel
theorem d_Mo_findRings_101 : decode b_Mo_findRings 101 = .ok (.iinc 3 1, 3) := by decide +kernel
theorem d_Mo_findRings_104 : decode b_Mo_findRings 104 = .ok (.goto (-53), 3) := by decide +kernel
theorem d_Mo_findRings_107 : decode b_Mo_findRings 107 = .ok (.iinc 2 1, 3) := by decide +kernel
theorem d_Mo_findRings_110 : decode b_Mo_findRings 110 = .ok (.goto (-69), 3) := by decide +kernel
theorem d_Mo_findRings_113 : decode b_Mo_findRings 113 = .ok (.iinc 1 1, 3) := by decide +kernel
theorem d_Mo_findRings_116 : decode b_Mo_findRings 116 = .ok (.goto (-83), 3) := by decide +kernel
theorem d_Mo_findRings_119 : decode b_Mo_findRings 119 = .ok (.return_, 1) := by decide +kernel
theorem d_Mo_findFirsts_0 : decode b_Mo_findFirsts 0 = .ok (.iconst 0, 1) := by decide +kernel
theorem d_Mo_findFirsts_1 : decode b_Mo_findFirsts 1 = .ok (.istore_n 1, 1) := by decide +kernel
theorem d_Mo_findFirsts_2 : decode b_Mo_findFirsts 2 = .ok (.iload_n 1, 1) := by decide +kernel
theorem d_Mo_findFirsts_3 : decode b_Mo_findFirsts 3 = .ok (.bipush 8, 2) := by decide +kernel
theorem d_Mo_findFirsts_5 : decode b_Mo_findFirsts 5 = .ok (.if_icmp .ge 16, 3) := by decide +kernel
theorem d_Mo_findFirsts_8 : decode b_Mo_findFirsts 8 = .ok (.aload_n 0, 1) := by decide +kernel
theorem d_Mo_findFirsts_9 : decode b_Mo_findFirsts 9 = .ok (.getfield 19, 3) := by decide +kernel
theorem d_Mo_findFirsts_12 : decode b_Mo_findFirsts 12 = .ok (.iload_n 1, 1) := by decide +kernel
theorem d_Mo_findFirsts_13 : decode b_Mo_findFirsts 13 = .ok (.iconst 0, 1) := by decide +kernel
theorem d_Mo_findFirsts_14 : decode b_Mo_findFirsts 14 = .ok (.iastore, 1) := by decide +kernel
theorem d_Mo_findFirsts_15 : decode b_Mo_findFirsts 15 = .ok (.iinc 1 1, 3) := by decide +kernel
theorem d_Mo_findFirsts_18 : decode b_Mo_findFirsts 18 = .ok (.goto (-16), 3) := by decide +kernel
theorem d_Mo_findFirsts_21 : decode b_Mo_findFirsts 21 = .ok (.iconst 0, 1) := by decide +kernel
theorem d_Mo_findFirsts_22 : decode b_Mo_findFirsts 22 = .ok (.istore_n 1, 1) := by decide +kernel
theorem d_Mo_findFirsts_23 : decode b_Mo_findFirsts 23 = .ok (.iload_n 1, 1) := by decide +kernel
theorem d_Mo_findFirsts_24 : decode b_Mo_findFirsts 24 = .ok (.bipush 8, 2) := by decide +kernel
theorem d_Mo_findFirsts_26 : decode b_Mo_findFirsts 26 = .ok (.if_icmp .ge 101, 3) := by decide +kernel
theorem d_Mo_findFirsts_29 : decode b_Mo_findFirsts 29 = .ok (.iconst 0, 1) := by decide +kernel
theorem d_Mo_findFirsts_30 : decode b_Mo_findFirsts 30 = .ok (.istore_n 2, 1) := by decide +kernel
theorem d_Mo_findFirsts_31 : decode b_Mo_findFirsts 31 = .ok (.iload_n 2, 1) := by decide +kernel
theorem d_Mo_findFirsts_32 : decode b_Mo_findFirsts 32 = .ok (.aload_n 0, 1) := by decide +kernel
theorem d_Mo_findFirsts_33 : decode b_Mo_findFirsts 33 = .ok (.getfield 91, 3) := by decide +kernel
theorem d_Mo_findFirsts_36 : decode b_Mo_findFirsts 36 = .ok (.if_icmp .ge 85, 3) := by decide +kernel
theorem d_Mo_findFirsts_39 : decode b_Mo_findFirsts 39 = .ok (.iconst 0, 1) := by decide +kernel
theorem d_Mo_findFirsts_40 : decode b_Mo_findFirsts 40 = .ok (.istore_n 3, 1) := by decide +kernel
theorem d_Mo_findFirsts_41 : decode b_Mo_findFirsts 41 = .ok (.iload_n 3, 1) := by decide +kernel
theorem d_Mo_findFirsts_42 : decode b_Mo_findFirsts 42 = .ok (.aload_n 0, 1) := by decide +kernel
theorem d_Mo_findFirsts_43 : decode b_Mo_findFirsts 43 = .ok (.getfield 91, 3) := by decide +kernel
theorem d_Mo_findFirsts_46 : decode b_Mo_findFirsts 46 = .ok (.if_icmp .ge 69, 3) := by decide +kernel
theorem d_Mo_findFirsts_49 : decode b_Mo_findFirsts 49 = .ok (.aload_n 0, 1) := by decide +kernel
theorem d_Mo_findFirsts_50 : decode b_Mo_findFirsts 50 = .ok (.getfield 19, 3) := by decide +kernel
theorem d_Mo_findFirsts_53 : decode b_Mo_findFirsts 53 = .ok (.iload_n 3, 1) := by decide +kernel
theorem d_Mo_findFirsts_54 : decode b_Mo_findFirsts 54 = .ok (.iaload, 1) := by decide +kernel
theorem d_Mo_findFirsts_55 : decode b_Mo_findFirsts 55 = .ok (.aload_n 0, 1) := by decide +kernel
theorem d_Mo_findFirsts_56 : decode b_Mo_findFirsts 56 = .ok (.getfield 13, 3) := by decide +kernel
theorem d_Mo_findFirsts_59 : decode b_Mo_findFirsts 59 = .ok (.iload_n 3, 1) := by decide +kernel
theorem d_Mo_findFirsts_60 : decode b_Mo_findFirsts 60 = .ok (.iaload, 1) := by decide +kernel
theorem d_Mo_findFirsts_61 : decode b_Mo_findFirsts 61 = .ok (.iadd, 1) := by decide +kernel
theorem d_Mo_findFirsts_62 : decode b_Mo_findFirsts 62 = .ok (.istore 4, 2) := by decide +kernel
theorem d_Mo_findFirsts_64 : decode b_Mo_findFirsts 64 = .ok (.aload_n 0, 1) := by decide +kernel
theorem d_Mo_findFirsts_65 : decode b_Mo_findFirsts 65 = .ok (.getfield 19, 3) := by decide +kernel
theorem d_Mo_findFirsts_68 : decode b_Mo_findFirsts 68 = .ok (.iload_n 2, 1) := by decide +kernel
theorem d_Mo_findFirsts_69 : decode b_Mo_findFirsts 69 = .ok (.aload_n 0, 1) := by decide +kernel
theorem d_Mo_findFirsts_70 : decode b_Mo_findFirsts 70 = .ok (.getfield 13, 3) := by decide +kernel
theorem d_Mo_findFirsts_73 : decode b_Mo_findFirsts 73 = .ok (.bipush 56, 2) := by decide +kernel
theorem d_Mo_findFirsts_75 : decode b_Mo_findFirsts 75 = .ok (.iload_n 2, 1) := by decide +kernel
theorem d_Mo_findFirsts_76 : decode b_Mo_findFirsts 76 = .ok (.iadd, 1) := by decide +kernel
theorem d_Mo_findFirsts_77 : decode b_Mo_findFirsts 77 = .ok (.iaload, 1) := by decide +kernel
theorem d_Mo_findFirsts_78 : decode b_Mo_findFirsts 78 = .ok (.iload_n 3, 1) := by decide +kernel
theorem d_Mo_findFirsts_79 : decode b_Mo_findFirsts 79 = .ok (.ishr, 1) := by decide +kernel
theorem d_Mo_findFirsts_80 : decode b_Mo_findFirsts 80 = .ok (.iconst 1, 1) := by decide +kernel
theorem d_Mo_findFirsts_81 : decode b_Mo_findFirsts 81 = .ok (.iand, 1) := by decide +kernel
theorem d_Mo_findFirsts_82 : decode b_Mo_findFirsts 82 = .ok (.iconst 1, 1) := by decide +kernel
theorem d_Mo_findFirsts_83 : decode b_Mo_findFirsts 83 = .ok (.if_icmp .ne 19, 3) := by decide +kernel
theorem d_Mo_findFirsts_86 : decode b_Mo_findFirsts 86 = .ok (.iload 4, 2) := by decide +kernel
theorem d_Mo_findFirsts_88 : decode b_Mo_findFirsts 88 = .ok (.aload_n 0, 1) := by decide +kernel
theorem d_Mo_findFirsts_89 : decode b_Mo_findFirsts 89 = .ok (.getfield 19, 3) := by decide +kernel
theorem d_Mo_findFirsts_92 : decode b_Mo_findFirsts 92 = .ok (.iload_n 2, 1) := by decide +kernel
theorem d_Mo_findFirsts_93 : decode b_Mo_findFirsts 93 = .ok (.iaload, 1) := by decide +kernel
theorem d_Mo_findFirsts_94 : decode b_Mo_findFirsts 94 = .ok (.if_icmp .le 8, 3) := by decide +kernel
theorem d_Mo_findFirsts_97 : decode b_Mo_findFirsts 97 = .ok (.iload 4, 2) := by decide +kernel
theorem d_Mo_findFirsts_99 : decode b_Mo_findFirsts 99 = .ok (.goto 9, 3) := by decide +kernel
theorem d_Mo_findFirsts_102 : decode b_Mo_findFirsts 102 = .ok (.aload_n 0, 1) := by decide +kernel
theorem d_Mo_findFirsts_103 : decode b_Mo_findFirsts 103 = .ok (.getfield 19, 3) := by decide +kernel
theorem d_Mo_findFirsts_106 : decode b_Mo_findFirsts 106 = .ok (.iload_n 2, 1) := by decide +kernel
theorem d_Mo_findFirsts_107 : decode b_Mo_findFirsts 107 = .ok (.iaload, 1) := by decide +kernel
theorem d_Mo_findFirsts_108 : decode b_Mo_findFirsts 108 = .ok (.iastore, 1) := by decide +kernel
theorem d_Mo_findFirsts_109 : decode b_Mo_findFirsts 109 = .ok (.iinc 3 1, 3) := by decide +kernel
theorem d_Mo_findFirsts_112 : decode b_Mo_findFirsts 112 = .ok (.goto (-71), 3) := by decide +kernel
theorem d_Mo_findFirsts_115 : decode b_Mo_findFirsts 115 = .ok (.iinc 2 1, 3) := by decide +kernel
theorem d_Mo_findFirsts_118 : decode b_Mo_findFirsts 118 = .ok (.goto (-87), 3) := by decide +kernel
theorem d_Mo_findFirsts_121 : decode b_Mo_findFirsts 121 = .ok (.iinc 1 1, 3) := by decide +kernel
theorem d_Mo_findFirsts_124 : decode b_Mo_findFirsts 124 = .ok (.goto (-101), 3) := by decide +kernel
theorem d_Mo_findFirsts_127 : decode b_Mo_findFirsts 127 = .ok (.return_, 1) := by decide +kernel
theorem d_Mo_unfit_0 : decode b_Mo_unfit 0 = .ok (.iconst 0, 1) := by decide +kernel
theorem d_Mo_unfit_1 : decode b_Mo_unfit 1 = .ok (.istore_n 1, 1) := by decide +kernel
theorem d_Mo_unfit_2 : decode b_Mo_unfit 2 = .ok (.iload_n 1, 1) := by decide +kernel
theorem d_Mo_unfit_3 : decode b_Mo_unfit 3 = .ok (.aload_n 0, 1) := by decide +kernel
theorem d_Mo_unfit_4 : decode b_Mo_unfit 4 = .ok (.getfield 91, 3) := by decide +kernel
theorem d_Mo_unfit_7 : decode b_Mo_unfit 7 = .ok (.if_icmp .ge 22, 3) := by decide +kernel
theorem d_Mo_unfit_10 : decode b_Mo_unfit 10 = .ok (.aload_n 0, 1) := by decide +kernel
theorem d_Mo_unfit_11 : decode b_Mo_unfit 11 = .ok (.iload_n 1, 1) := by decide +kernel
theorem d_Mo_unfit_12 : decode b_Mo_unfit 12 = .ok (.invokevirtual 111, 3) := by decide +kernel
theorem d_Mo_unfit_15 : decode b_Mo_unfit 15 = .ok (.ifCond .eq 8, 3) := by decide +kernel
theorem d_Mo_unfit_18 : decode b_Mo_unfit 18 = .ok (.bipush 100, 2) := by decide +kernel
theorem d_Mo_unfit_20 : decode b_Mo_unfit 20 = .ok (.iload_n 1, 1) := by decide +kernel
theorem d_Mo_unfit_21 : decode b_Mo_unfit 21 = .ok (.iadd, 1) := by decide +kernel
theorem d_Mo_unfit_22 : decode b_Mo_unfit 22 = .ok (.ireturn, 1) := by decide +kernel
theorem d_Mo_unfit_23 : decode b_Mo_unfit 23 = .ok (.iinc 1 1, 3) := by decide +kernel
theorem d_Mo_unfit_26 : decode b_Mo_unfit 26 = .ok (.goto (-24), 3) := by decide +kernel
theorem d_Mo_unfit_29 : decode b_Mo_unfit 29 = .ok (.aload_n 0, 1) := by decide +kernel
theorem d_Mo_unfit_30 : decode b_Mo_unfit 30 = .ok (.invokevirtual 114, 3) := by decide +kernel
theorem d_Mo_unfit_33 : decode b_Mo_unfit 33 = .ok (.iconst 0, 1) := by decide +kernel
theorem d_Mo_unfit_34 : decode b_Mo_unfit 34 = .ok (.istore_n 1, 1) := by decide +kernel
theorem d_Mo_unfit_35 : decode b_Mo_unfit 35 = .ok (.iload_n 1, 1) := by decide +kernel
theorem d_Mo_unfit_36 : decode b_Mo_unfit 36 = .ok (.aload_n 0, 1) := by decide +kernel
theorem d_Mo_unfit_37 : decode b_Mo_unfit 37 = .ok (.getfield 91, 3) := by decide +kernel
theorem d_Mo_unfit_40 : decode b_Mo_unfit 40 = .ok (.if_icmp .ge 29, 3) := by decide +kernel
theorem d_Mo_unfit_43 : decode b_Mo_unfit 43 = .ok (.aload_n 0, 1) := by decide +kernel
theorem d_Mo_unfit_44 : decode b_Mo_unfit 44 = .ok (.getfield 16, 3) := by decide +kernel
theorem d_Mo_unfit_47 : decode b_Mo_unfit 47 = .ok (.iload_n 1, 1) := by decide +kernel
theorem d_Mo_unfit_48 : decode b_Mo_unfit 48 = .ok (.iaload, 1) := by decide +kernel
theorem d_Mo_unfit_49 : decode b_Mo_unfit 49 = .ok (.iload_n 1, 1) := by decide +kernel
theorem d_Mo_unfit_50 : decode b_Mo_unfit 50 = .ok (.ishr, 1) := by decide +kernel
theorem d_Mo_unfit_51 : decode b_Mo_unfit 51 = .ok (.iconst 1, 1) := by decide +kernel
theorem d_Mo_unfit_52 : decode b_Mo_unfit 52 = .ok (.iand, 1) := by decide +kernel
theorem d_Mo_unfit_53 : decode b_Mo_unfit 53 = .ok (.iconst 1, 1) := by decide +kernel
theorem d_Mo_unfit_54 : decode b_Mo_unfit 54 = .ok (.if_icmp .ne 9, 3) := by decide +kernel
theorem d_Mo_unfit_57 : decode b_Mo_unfit 57 = .ok (.sipush 200, 3) := by decide +kernel
theorem d_Mo_unfit_60 : decode b_Mo_unfit 60 = .ok (.iload_n 1, 1) := by decide +kernel
theorem d_Mo_unfit_61 : decode b_Mo_unfit 61 = .ok (.iadd, 1) := by decide +kernel
theorem d_Mo_unfit_62 : decode b_Mo_unfit 62 = .ok (.ireturn, 1) := by decide +kernel
theorem d_Mo_unfit_63 : decode b_Mo_unfit 63 = .ok (.iinc 1 1, 3) := by decide +kernel
theorem d_Mo_unfit_66 : decode b_Mo_unfit 66 = .ok (.goto (-31), 3) := by decide +kernel
theorem d_Mo_unfit_69 : decode b_Mo_unfit 69 = .ok (.aload_n 0, 1) := by decide +kernel
theorem d_Mo_unfit_70 : decode b_Mo_unfit 70 = .ok (.invokevirtual 117, 3) := by decide +kernel
theorem d_Mo_unfit_73 : decode b_Mo_unfit 73 = .ok (.iconst 0, 1) := by decide +kernel
theorem d_Mo_unfit_74 : decode b_Mo_unfit 74 = .ok (.istore_n 1, 1) := by decide +kernel
theorem d_Mo_unfit_75 : decode b_Mo_unfit 75 = .ok (.iload_n 1, 1) := by decide +kernel
theorem d_Mo_unfit_76 : decode b_Mo_unfit 76 = .ok (.aload_n 0, 1) := by decide +kernel
theorem d_Mo_unfit_77 : decode b_Mo_unfit 77 = .ok (.getfield 91, 3) := by decide +kernel
theorem d_Mo_unfit_80 : decode b_Mo_unfit 80 = .ok (.if_icmp .ge 33, 3) := by decide +kernel
theorem d_Mo_unfit_83 : decode b_Mo_unfit 83 = .ok (.aload_n 0, 1) := by decide +kernel
theorem d_Mo_unfit_84 : decode b_Mo_unfit 84 = .ok (.getfield 19, 3) := by decide +kernel
theorem d_Mo_unfit_87 : decode b_Mo_unfit 87 = .ok (.iload_n 1, 1) := by decide +kernel
theorem d_Mo_unfit_88 : decode b_Mo_unfit 88 = .ok (.iaload, 1) := by decide +kernel
theorem d_Mo_unfit_89 : decode b_Mo_unfit 89 = .ok (.aload_n 0, 1) := by decide +kernel
theorem d_Mo_unfit_90 : decode b_Mo_unfit 90 = .ok (.getfield 13, 3) := by decide +kernel
theorem d_Mo_unfit_93 : decode b_Mo_unfit 93 = .ok (.bipush 40, 2) := by decide +kernel
theorem d_Mo_unfit_95 : decode b_Mo_unfit 95 = .ok (.iload_n 1, 1) := by decide +kernel
theorem d_Mo_unfit_96 : decode b_Mo_unfit 96 = .ok (.iadd, 1) := by decide +kernel
theorem d_Mo_unfit_97 : decode b_Mo_unfit 97 = .ok (.iaload, 1) := by decide +kernel
theorem d_Mo_unfit_98 : decode b_Mo_unfit 98 = .ok (.if_icmp .le 9, 3) := by decide +kernel
theorem d_Mo_unfit_101 : decode b_Mo_unfit 101 = .ok (.sipush 300, 3) := by decide +kernel
theorem d_Mo_unfit_104 : decode b_Mo_unfit 104 = .ok (.iload_n 1, 1) := by decide +kernel
theorem d_Mo_unfit_105 : decode b_Mo_unfit 105 = .ok (.iadd, 1) := by decide +kernel
theorem d_Mo_unfit_106 : decode b_Mo_unfit 106 = .ok (.ireturn, 1) := by decide +kernel
theorem d_Mo_unfit_107 : decode b_Mo_unfit 107 = .ok (.iinc 1 1, 3) := by decide +kernel
end
section
theorem d_Mo_unfit_110 : decode b_Mo_unfit 110 = .ok (.goto (-35), 3) := by decide +kernel
theorem d_Mo_unfit_113 : decode b_Mo_unfit 113 = .ok (.iconst 0, 1) := by decide +kernel
theorem d_Mo_unfit_114 : decode b_Mo_unfit 114 = .ok (.ireturn, 1) := by decide +kernel
theorem d_Mo_rest_0 : decode b_Mo_rest 0 = .ok (.iconst 0, 1) := by decide +kernel
theorem d_Mo_rest_1 : decode b_Mo_rest 1 = .ok (.istore_n 1, 1) := by decide +kernel
theorem d_Mo_rest_2 : decode b_Mo_rest 2 = .ok (.iload_n 1, 1) := by decide +kernel
theorem d_Mo_rest_3 : decode b_Mo_rest 3 = .ok (.aload_n 0, 1) := by decide +kernel
theorem d_Mo_rest_4 : decode b_Mo_rest 4 = .ok (.getfield 120, 3) := by decide +kernel
theorem d_Mo_rest_7 : decode b_Mo_rest 7 = .ok (.if_icmp .ge 52, 3) := by decide +kernel
theorem d_Mo_rest_10 : decode b_Mo_rest 10 = .ok (.aload_n 0, 1) := by decide +kernel
theorem d_Mo_rest_11 : decode b_Mo_rest 11 = .ok (.getfield 28, 3) := by decide +kernel
theorem d_Mo_rest_14 : decode b_Mo_rest 14 = .ok (.iload_n 1, 1) := by decide +kernel
theorem d_Mo_rest_15 : decode b_Mo_rest 15 = .ok (.iconst 0, 1) := by decide +kernel
theorem d_Mo_rest_16 : decode b_Mo_rest 16 = .ok (.iastore, 1) := by decide +kernel
theorem d_Mo_rest_17 : decode b_Mo_rest 17 = .ok (.aload_n 0, 1) := by decide +kernel
theorem d_Mo_rest_18 : decode b_Mo_rest 18 = .ok (.getfield 31, 3) := by decide +kernel
theorem d_Mo_rest_21 : decode b_Mo_rest 21 = .ok (.iload_n 1, 1) := by decide +kernel
theorem d_Mo_rest_22 : decode b_Mo_rest 22 = .ok (.iconst (-1), 1) := by decide +kernel
theorem d_Mo_rest_23 : decode b_Mo_rest 23 = .ok (.iastore, 1) := by decide +kernel
theorem d_Mo_rest_24 : decode b_Mo_rest 24 = .ok (.aload_n 0, 1) := by decide +kernel
theorem d_Mo_rest_25 : decode b_Mo_rest 25 = .ok (.getfield 34, 3) := by decide +kernel
theorem d_Mo_rest_28 : decode b_Mo_rest 28 = .ok (.iload_n 1, 1) := by decide +kernel
theorem d_Mo_rest_29 : decode b_Mo_rest 29 = .ok (.iconst 0, 1) := by decide +kernel
theorem d_Mo_rest_30 : decode b_Mo_rest 30 = .ok (.iastore, 1) := by decide +kernel
theorem d_Mo_rest_31 : decode b_Mo_rest 31 = .ok (.aload_n 0, 1) := by decide +kernel
theorem d_Mo_rest_32 : decode b_Mo_rest 32 = .ok (.getfield 37, 3) := by decide +kernel
theorem d_Mo_rest_35 : decode b_Mo_rest 35 = .ok (.iload_n 1, 1) := by decide +kernel
theorem d_Mo_rest_36 : decode b_Mo_rest 36 = .ok (.aload_n 0, 1) := by decide +kernel
theorem d_Mo_rest_37 : decode b_Mo_rest 37 = .ok (.getfield 22, 3) := by decide +kernel
theorem d_Mo_rest_40 : decode b_Mo_rest 40 = .ok (.bipush 48, 2) := by decide +kernel
theorem d_Mo_rest_42 : decode b_Mo_rest 42 = .ok (.iload_n 1, 1) := by decide +kernel
theorem d_Mo_rest_43 : decode b_Mo_rest 43 = .ok (.iadd, 1) := by decide +kernel
theorem d_Mo_rest_44 : decode b_Mo_rest 44 = .ok (.iaload, 1) := by decide +kernel
theorem d_Mo_rest_45 : decode b_Mo_rest 45 = .ok (.iastore, 1) := by decide +kernel
theorem d_Mo_rest_46 : decode b_Mo_rest 46 = .ok (.aload_n 0, 1) := by decide +kernel
theorem d_Mo_rest_47 : decode b_Mo_rest 47 = .ok (.getfield 40, 3) := by decide +kernel
theorem d_Mo_rest_50 : decode b_Mo_rest 50 = .ok (.iload_n 1, 1) := by decide +kernel
theorem d_Mo_rest_51 : decode b_Mo_rest 51 = .ok (.iconst 0, 1) := by decide +kernel
theorem d_Mo_rest_52 : decode b_Mo_rest 52 = .ok (.iastore, 1) := by decide +kernel
theorem d_Mo_rest_53 : decode b_Mo_rest 53 = .ok (.iinc 1 1, 3) := by decide +kernel
theorem d_Mo_rest_56 : decode b_Mo_rest 56 = .ok (.goto (-54), 3) := by decide +kernel
theorem d_Mo_rest_59 : decode b_Mo_rest 59 = .ok (.return_, 1) := by decide +kernel
theorem d_Mo_submit_0 : decode b_Mo_submit 0 = .ok (.aload_n 0, 1) := by decide +kernel
theorem d_Mo_submit_1 : decode b_Mo_submit 1 = .ok (.aload_n 0, 1) := by decide +kernel
theorem d_Mo_submit_2 : decode b_Mo_submit 2 = .ok (.getfield 123, 3) := by decide +kernel
theorem d_Mo_submit_5 : decode b_Mo_submit 5 = .ok (.ifCond .eq 7, 3) := by decide +kernel
theorem d_Mo_submit_8 : decode b_Mo_submit 8 = .ok (.iconst 1, 1) := by decide +kernel
theorem d_Mo_submit_9 : decode b_Mo_submit 9 = .ok (.goto 4, 3) := by decide +kernel
theorem d_Mo_submit_12 : decode b_Mo_submit 12 = .ok (.iconst 0, 1) := by decide +kernel
theorem d_Mo_submit_13 : decode b_Mo_submit 13 = .ok (.iconst 0, 1) := by decide +kernel
theorem d_Mo_submit_14 : decode b_Mo_submit 14 = .ok (.invokevirtual 126, 3) := by decide +kernel
theorem d_Mo_submit_17 : decode b_Mo_submit 17 = .ok (.ifCond .eq 5, 3) := by decide +kernel
theorem d_Mo_submit_20 : decode b_Mo_submit 20 = .ok (.iconst 0, 1) := by decide +kernel
theorem d_Mo_submit_21 : decode b_Mo_submit 21 = .ok (.ireturn, 1) := by decide +kernel
theorem d_Mo_submit_22 : decode b_Mo_submit 22 = .ok (.aload_n 0, 1) := by decide +kernel
theorem d_Mo_submit_23 : decode b_Mo_submit 23 = .ok (.invokevirtual 130, 3) := by decide +kernel
theorem d_Mo_submit_26 : decode b_Mo_submit 26 = .ok (.istore_n 1, 1) := by decide +kernel
theorem d_Mo_submit_27 : decode b_Mo_submit 27 = .ok (.aload_n 0, 1) := by decide +kernel
theorem d_Mo_submit_28 : decode b_Mo_submit 28 = .ok (.iconst 0, 1) := by decide +kernel
theorem d_Mo_submit_29 : decode b_Mo_submit 29 = .ok (.putfield 71, 3) := by decide +kernel
theorem d_Mo_submit_32 : decode b_Mo_submit 32 = .ok (.iload_n 1, 1) := by decide +kernel
theorem d_Mo_submit_33 : decode b_Mo_submit 33 = .ok (.ifCond .eq 10, 3) := by decide +kernel
theorem d_Mo_submit_36 : decode b_Mo_submit 36 = .ok (.aload_n 0, 1) := by decide +kernel
theorem d_Mo_submit_37 : decode b_Mo_submit 37 = .ok (.invokevirtual 133, 3) := by decide +kernel
theorem d_Mo_submit_40 : decode b_Mo_submit 40 = .ok (.goto 9, 3) := by decide +kernel
theorem d_Mo_submit_43 : decode b_Mo_submit 43 = .ok (.aload_n 0, 1) := by decide +kernel
theorem d_Mo_submit_44 : decode b_Mo_submit 44 = .ok (.getfield 77, 3) := by decide +kernel
theorem d_Mo_submit_47 : decode b_Mo_submit 47 = .ok (.iconst 1, 1) := by decide +kernel
theorem d_Mo_submit_48 : decode b_Mo_submit 48 = .ok (.iadd, 1) := by decide +kernel
theorem d_Mo_submit_49 : decode b_Mo_submit 49 = .ok (.istore_n 2, 1) := by decide +kernel
theorem d_Mo_submit_50 : decode b_Mo_submit 50 = .ok (.iload_n 2, 1) := by decide +kernel
theorem d_Mo_submit_51 : decode b_Mo_submit 51 = .ok (.ifCond .eq 5, 3) := by decide +kernel
theorem d_Mo_submit_54 : decode b_Mo_submit 54 = .ok (.iload_n 2, 1) := by decide +kernel
theorem d_Mo_submit_55 : decode b_Mo_submit 55 = .ok (.ireturn, 1) := by decide +kernel
theorem d_Mo_submit_56 : decode b_Mo_submit 56 = .ok (.aload_n 0, 1) := by decide +kernel
theorem d_Mo_submit_57 : decode b_Mo_submit 57 = .ok (.aload_n 0, 1) := by decide +kernel
theorem d_Mo_submit_58 : decode b_Mo_submit 58 = .ok (.getfield 91, 3) := by decide +kernel
theorem d_Mo_submit_61 : decode b_Mo_submit 61 = .ok (.putfield 120, 3) := by decide +kernel
theorem d_Mo_submit_64 : decode b_Mo_submit 64 = .ok (.iconst 0, 1) := by decide +kernel
theorem d_Mo_submit_65 : decode b_Mo_submit 65 = .ok (.istore_n 3, 1) := by decide +kernel
theorem d_Mo_submit_66 : decode b_Mo_submit 66 = .ok (.iload_n 3, 1) := by decide +kernel
theorem d_Mo_submit_67 : decode b_Mo_submit 67 = .ok (.bipush 72, 2) := by decide +kernel
theorem d_Mo_submit_69 : decode b_Mo_submit 69 = .ok (.if_icmp .ge 21, 3) := by decide +kernel
theorem d_Mo_submit_72 : decode b_Mo_submit 72 = .ok (.aload_n 0, 1) := by decide +kernel
theorem d_Mo_submit_73 : decode b_Mo_submit 73 = .ok (.getfield 22, 3) := by decide +kernel
theorem d_Mo_submit_76 : decode b_Mo_submit 76 = .ok (.iload_n 3, 1) := by decide +kernel
theorem d_Mo_submit_77 : decode b_Mo_submit 77 = .ok (.aload_n 0, 1) := by decide +kernel
theorem d_Mo_submit_78 : decode b_Mo_submit 78 = .ok (.getfield 13, 3) := by decide +kernel
theorem d_Mo_submit_81 : decode b_Mo_submit 81 = .ok (.iload_n 3, 1) := by decide +kernel
theorem d_Mo_submit_82 : decode b_Mo_submit 82 = .ok (.iaload, 1) := by decide +kernel
theorem d_Mo_submit_83 : decode b_Mo_submit 83 = .ok (.iastore, 1) := by decide +kernel
theorem d_Mo_submit_84 : decode b_Mo_submit 84 = .ok (.iinc 3 1, 3) := by decide +kernel
theorem d_Mo_submit_87 : decode b_Mo_submit 87 = .ok (.goto (-21), 3) := by decide +kernel
theorem d_Mo_submit_90 : decode b_Mo_submit 90 = .ok (.iconst 0, 1) := by decide +kernel
theorem d_Mo_submit_91 : decode b_Mo_submit 91 = .ok (.istore_n 3, 1) := by decide +kernel
theorem d_Mo_submit_92 : decode b_Mo_submit 92 = .ok (.iload_n 3, 1) := by decide +kernel
theorem d_Mo_submit_93 : decode b_Mo_submit 93 = .ok (.bipush 8, 2) := by decide +kernel
theorem d_Mo_submit_95 : decode b_Mo_submit 95 = .ok (.if_icmp .ge 35, 3) := by decide +kernel
theorem d_Mo_submit_98 : decode b_Mo_submit 98 = .ok (.aload_n 0, 1) := by decide +kernel
theorem d_Mo_submit_99 : decode b_Mo_submit 99 = .ok (.getfield 25, 3) := by decide +kernel
theorem d_Mo_submit_102 : decode b_Mo_submit 102 = .ok (.iload_n 3, 1) := by decide +kernel
theorem d_Mo_submit_103 : decode b_Mo_submit 103 = .ok (.aload_n 0, 1) := by decide +kernel
theorem d_Mo_submit_104 : decode b_Mo_submit 104 = .ok (.getfield 19, 3) := by decide +kernel
theorem d_Mo_submit_107 : decode b_Mo_submit 107 = .ok (.iload_n 3, 1) := by decide +kernel
theorem d_Mo_submit_108 : decode b_Mo_submit 108 = .ok (.iaload, 1) := by decide +kernel
theorem d_Mo_submit_109 : decode b_Mo_submit 109 = .ok (.iastore, 1) := by decide +kernel
theorem d_Mo_submit_110 : decode b_Mo_submit 110 = .ok (.aload_n 0, 1) := by decide +kernel
theorem d_Mo_submit_111 : decode b_Mo_submit 111 = .ok (.getfield 49, 3) := by decide +kernel
theorem d_Mo_submit_114 : decode b_Mo_submit 114 = .ok (.iload_n 3, 1) := by decide +kernel
theorem d_Mo_submit_115 : decode b_Mo_submit 115 = .ok (.iconst (-1), 1) := by decide +kernel
theorem d_Mo_submit_116 : decode b_Mo_submit 116 = .ok (.iastore, 1) := by decide +kernel
theorem d_Mo_submit_117 : decode b_Mo_submit 117 = .ok (.aload_n 0, 1) := by decide +kernel
theorem d_Mo_submit_118 : decode b_Mo_submit 118 = .ok (.getfield 52, 3) := by decide +kernel
theorem d_Mo_submit_121 : decode b_Mo_submit 121 = .ok (.iload_n 3, 1) := by decide +kernel
theorem d_Mo_submit_122 : decode b_Mo_submit 122 = .ok (.iconst (-1), 1) := by decide +kernel
theorem d_Mo_submit_123 : decode b_Mo_submit 123 = .ok (.iastore, 1) := by decide +kernel
theorem d_Mo_submit_124 : decode b_Mo_submit 124 = .ok (.iinc 3 1, 3) := by decide +kernel
theorem d_Mo_submit_127 : decode b_Mo_submit 127 = .ok (.goto (-35), 3) := by decide +kernel
theorem d_Mo_submit_130 : decode b_Mo_submit 130 = .ok (.aload_n 0, 1) := by decide +kernel
theorem d_Mo_submit_131 : decode b_Mo_submit 131 = .ok (.invokevirtual 136, 3) := by decide +kernel
theorem d_Mo_submit_134 : decode b_Mo_submit 134 = .ok (.iconst 0, 1) := by decide +kernel
theorem d_Mo_submit_135 : decode b_Mo_submit 135 = .ok (.ireturn, 1) := by decide +kernel
theorem d_Mo_afterMinute_0 : decode b_Mo_afterMinute 0 = .ok (.iload_n 1, 1) := by decide +kernel
theorem d_Mo_afterMinute_1 : decode b_Mo_afterMinute 1 = .ok (.aload_n 0, 1) := by decide +kernel
theorem d_Mo_afterMinute_2 : decode b_Mo_afterMinute 2 = .ok (.getfield 59, 3) := by decide +kernel
theorem d_Mo_afterMinute_5 : decode b_Mo_afterMinute 5 = .ok (.iload_n 2, 1) := by decide +kernel
theorem d_Mo_afterMinute_6 : decode b_Mo_afterMinute 6 = .ok (.bipush 24, 2) := by decide +kernel
theorem d_Mo_afterMinute_8 : decode b_Mo_afterMinute 8 = .ok (.irem, 1) := by decide +kernel
theorem d_Mo_afterMinute_9 : decode b_Mo_afterMinute 9 = .ok (.iaload, 1) := by decide +kernel
theorem d_Mo_afterMinute_10 : decode b_Mo_afterMinute 10 = .ok (.iadd, 1) := by decide +kernel
theorem d_Mo_afterMinute_11 : decode b_Mo_afterMinute 11 = .ok (.iload_n 3, 1) := by decide +kernel
theorem d_Mo_afterMinute_12 : decode b_Mo_afterMinute 12 = .ok (.isub, 1) := by decide +kernel
theorem d_Mo_afterMinute_13 : decode b_Mo_afterMinute 13 = .ok (.istore 4, 2) := by decide +kernel
theorem d_Mo_afterMinute_15 : decode b_Mo_afterMinute 15 = .ok (.iload 4, 2) := by decide +kernel
theorem d_Mo_afterMinute_17 : decode b_Mo_afterMinute 17 = .ok (.sipush 1000, 3) := by decide +kernel
theorem d_Mo_afterMinute_20 : decode b_Mo_afterMinute 20 = .ok (.if_icmp .le 9, 3) := by decide +kernel
theorem d_Mo_afterMinute_23 : decode b_Mo_afterMinute 23 = .ok (.sipush 1000, 3) := by decide +kernel
theorem d_Mo_afterMinute_26 : decode b_Mo_afterMinute 26 = .ok (.goto 5, 3) := by decide +kernel
theorem d_Mo_afterMinute_29 : decode b_Mo_afterMinute 29 = .ok (.iload 4, 2) := by decide +kernel
theorem d_Mo_afterMinute_31 : decode b_Mo_afterMinute 31 = .ok (.ireturn, 1) := by decide +kernel
theorem d_Mo_isOpen_0 : decode b_Mo_isOpen 0 = .ok (.iload_n 1, 1) := by decide +kernel
theorem d_Mo_isOpen_1 : decode b_Mo_isOpen 1 = .ok (.istore_n 3, 1) := by decide +kernel
theorem d_Mo_isOpen_2 : decode b_Mo_isOpen 2 = .ok (.iconst 1, 1) := by decide +kernel
theorem d_Mo_isOpen_3 : decode b_Mo_isOpen 3 = .ok (.istore 4, 2) := by decide +kernel
theorem d_Mo_isOpen_5 : decode b_Mo_isOpen 5 = .ok (.iconst 1, 1) := by decide +kernel
theorem d_Mo_isOpen_6 : decode b_Mo_isOpen 6 = .ok (.istore 5, 2) := by decide +kernel
theorem d_Mo_isOpen_8 : decode b_Mo_isOpen 8 = .ok (.iload 5, 2) := by decide +kernel
theorem d_Mo_isOpen_10 : decode b_Mo_isOpen 10 = .ok (.aload_n 0, 1) := by decide +kernel
theorem d_Mo_isOpen_11 : decode b_Mo_isOpen 11 = .ok (.getfield 65, 3) := by decide +kernel
theorem d_Mo_isOpen_14 : decode b_Mo_isOpen 14 = .ok (.if_icmp .gt 39, 3) := by decide +kernel
theorem d_Mo_isOpen_17 : decode b_Mo_isOpen 17 = .ok (.iload 4, 2) := by decide +kernel
theorem d_Mo_isOpen_19 : decode b_Mo_isOpen 19 = .ok (.ifCond .eq 34, 3) := by decide +kernel
theorem d_Mo_isOpen_22 : decode b_Mo_isOpen 22 = .ok (.aload_n 0, 1) := by decide +kernel
theorem d_Mo_isOpen_23 : decode b_Mo_isOpen 23 = .ok (.iload_n 3, 1) := by decide +kernel
theorem d_Mo_isOpen_24 : decode b_Mo_isOpen 24 = .ok (.iload_n 2, 1) := by decide +kernel
theorem d_Mo_isOpen_25 : decode b_Mo_isOpen 25 = .ok (.iload 5, 2) := by decide +kernel
theorem d_Mo_isOpen_27 : decode b_Mo_isOpen 27 = .ok (.iadd, 1) := by decide +kernel
theorem d_Mo_isOpen_28 : decode b_Mo_isOpen 28 = .ok (.aload_n 0, 1) := by decide +kernel
theorem d_Mo_isOpen_29 : decode b_Mo_isOpen 29 = .ok (.getfield 68, 3) := by decide +kernel
theorem d_Mo_isOpen_32 : decode b_Mo_isOpen 32 = .ok (.invokevirtual 139, 3) := by decide +kernel
theorem d_Mo_isOpen_35 : decode b_Mo_isOpen 35 = .ok (.istore_n 3, 1) := by decide +kernel
theorem d_Mo_isOpen_36 : decode b_Mo_isOpen 36 = .ok (.iload_n 3, 1) := by decide +kernel
theorem d_Mo_isOpen_37 : decode b_Mo_isOpen 37 = .ok (.ifCond .lt 7, 3) := by decide +kernel
theorem d_Mo_isOpen_40 : decode b_Mo_isOpen 40 = .ok (.iconst 1, 1) := by decide +kernel
theorem d_Mo_isOpen_41 : decode b_Mo_isOpen 41 = .ok (.goto 4, 3) := by decide +kernel
theorem d_Mo_isOpen_44 : decode b_Mo_isOpen 44 = .ok (.iconst 0, 1) := by decide +kernel
theorem d_Mo_isOpen_45 : decode b_Mo_isOpen 45 = .ok (.istore 4, 2) := by decide +kernel
theorem d_Mo_isOpen_47 : decode b_Mo_isOpen 47 = .ok (.iinc 5 1, 3) := by decide +kernel
theorem d_Mo_isOpen_50 : decode b_Mo_isOpen 50 = .ok (.goto (-42), 3) := by decide +kernel
theorem d_Mo_isOpen_53 : decode b_Mo_isOpen 53 = .ok (.iload 4, 2) := by decide +kernel
theorem d_Mo_isOpen_55 : decode b_Mo_isOpen 55 = .ok (.ireturn, 1) := by decide +kernel
theorem d_Mo_isRunningOr_0 : decode b_Mo_isRunningOr 0 = .ok (.aload_n 0, 1) := by decide +kernel
theorem d_Mo_isRunningOr_1 : decode b_Mo_isRunningOr 1 = .ok (.getfield 28, 3) := by decide +kernel
theorem d_Mo_isRunningOr_4 : decode b_Mo_isRunningOr 4 = .ok (.iload_n 1, 1) := by decide +kernel
theorem d_Mo_isRunningOr_5 : decode b_Mo_isRunningOr 5 = .ok (.iaload, 1) := by decide +kernel
theorem d_Mo_isRunningOr_6 : decode b_Mo_isRunningOr 6 = .ok (.iconst 1, 1) := by decide +kernel
theorem d_Mo_isRunningOr_7 : decode b_Mo_isRunningOr 7 = .ok (.if_icmp .eq 8, 3) := by decide +kernel
theorem d_Mo_isRunningOr_10 : decode b_Mo_isRunningOr 10 = .ok (.iload_n 1, 1) := by decide +kernel
theorem d_Mo_isRunningOr_11 : decode b_Mo_isRunningOr 11 = .ok (.iload_n 2, 1) := by decide +kernel
theorem d_Mo_isRunningOr_12 : decode b_Mo_isRunningOr 12 = .ok (.if_icmp .ne 7, 3) := by decide +kernel
theorem d_Mo_isRunningOr_15 : decode b_Mo_isRunningOr 15 = .ok (.iconst 1, 1) := by decide +kernel
theorem d_Mo_isRunningOr_16 : decode b_Mo_isRunningOr 16 = .ok (.goto 4, 3) := by decide +kernel
theorem d_Mo_isRunningOr_19 : decode b_Mo_isRunningOr 19 = .ok (.iconst 0, 1) := by decide +kernel
theorem d_Mo_isRunningOr_20 : decode b_Mo_isRunningOr 20 = .ok (.ireturn, 1) := by decide +kernel
theorem d_Mo_leftOf_0 : decode b_Mo_leftOf 0 = .ok (.aload_n 0, 1) := by decide +kernel
theorem d_Mo_leftOf_1 : decode b_Mo_leftOf 1 = .ok (.getfield 22, 3) := by decide +kernel
theorem d_Mo_leftOf_4 : decode b_Mo_leftOf 4 = .ok (.bipush 8, 2) := by decide +kernel
theorem d_Mo_leftOf_6 : decode b_Mo_leftOf 6 = .ok (.iload_n 1, 1) := by decide +kernel
theorem d_Mo_leftOf_7 : decode b_Mo_leftOf 7 = .ok (.iadd, 1) := by decide +kernel
theorem d_Mo_leftOf_8 : decode b_Mo_leftOf 8 = .ok (.iaload, 1) := by decide +kernel
theorem d_Mo_leftOf_9 : decode b_Mo_leftOf 9 = .ok (.iload_n 1, 1) := by decide +kernel
theorem d_Mo_leftOf_10 : decode b_Mo_leftOf 10 = .ok (.iload_n 2, 1) := by decide +kernel
theorem d_Mo_leftOf_11 : decode b_Mo_leftOf 11 = .ok (.if_icmp .ne 7, 3) := by decide +kernel
theorem d_Mo_leftOf_14 : decode b_Mo_leftOf 14 = .ok (.iconst 0, 1) := by decide +kernel
theorem d_Mo_leftOf_15 : decode b_Mo_leftOf 15 = .ok (.goto 9, 3) := by decide +kernel
theorem d_Mo_leftOf_18 : decode b_Mo_leftOf 18 = .ok (.aload_n 0, 1) := by decide +kernel
theorem d_Mo_leftOf_19 : decode b_Mo_leftOf 19 = .ok (.getfield 34, 3) := by decide +kernel
theorem d_Mo_leftOf_22 : decode b_Mo_leftOf 22 = .ok (.iload_n 1, 1) := by decide +kernel
theorem d_Mo_leftOf_23 : decode b_Mo_leftOf 23 = .ok (.iaload, 1) := by decide +kernel
theorem d_Mo_leftOf_24 : decode b_Mo_leftOf 24 = .ok (.isub, 1) := by decide +kernel
theorem d_Mo_leftOf_25 : decode b_Mo_leftOf 25 = .ok (.ireturn, 1) := by decide +kernel
theorem d_Mo_drawIn_0 : decode b_Mo_drawIn 0 = .ok (.iconst 0, 1) := by decide +kernel
theorem d_Mo_drawIn_1 : decode b_Mo_drawIn 1 = .ok (.istore_n 3, 1) := by decide +kernel
theorem d_Mo_drawIn_2 : decode b_Mo_drawIn 2 = .ok (.iconst 0, 1) := by decide +kernel
theorem d_Mo_drawIn_3 : decode b_Mo_drawIn 3 = .ok (.istore 4, 2) := by decide +kernel
theorem d_Mo_drawIn_5 : decode b_Mo_drawIn 5 = .ok (.iconst 0, 1) := by decide +kernel
theorem d_Mo_drawIn_6 : decode b_Mo_drawIn 6 = .ok (.istore 5, 2) := by decide +kernel
theorem d_Mo_drawIn_8 : decode b_Mo_drawIn 8 = .ok (.iload 5, 2) := by decide +kernel
theorem d_Mo_drawIn_10 : decode b_Mo_drawIn 10 = .ok (.aload_n 0, 1) := by decide +kernel
theorem d_Mo_drawIn_11 : decode b_Mo_drawIn 11 = .ok (.getfield 120, 3) := by decide +kernel
theorem d_Mo_drawIn_14 : decode b_Mo_drawIn 14 = .ok (.if_icmp .ge 76, 3) := by decide +kernel
theorem d_Mo_drawIn_17 : decode b_Mo_drawIn 17 = .ok (.aload_n 0, 1) := by decide +kernel
theorem d_Mo_drawIn_18 : decode b_Mo_drawIn 18 = .ok (.iload 5, 2) := by decide +kernel
theorem d_Mo_drawIn_20 : decode b_Mo_drawIn 20 = .ok (.iload_n 2, 1) := by decide +kernel
theorem d_Mo_drawIn_21 : decode b_Mo_drawIn 21 = .ok (.invokevirtual 143, 3) := by decide +kernel
theorem d_Mo_drawIn_24 : decode b_Mo_drawIn 24 = .ok (.ifCond .eq 18, 3) := by decide +kernel
theorem d_Mo_drawIn_27 : decode b_Mo_drawIn 27 = .ok (.aload_n 0, 1) := by decide +kernel
theorem d_Mo_drawIn_28 : decode b_Mo_drawIn 28 = .ok (.iload 5, 2) := by decide +kernel
theorem d_Mo_drawIn_30 : decode b_Mo_drawIn 30 = .ok (.iload_n 2, 1) := by decide +kernel
theorem d_Mo_drawIn_31 : decode b_Mo_drawIn 31 = .ok (.invokevirtual 147, 3) := by decide +kernel
theorem d_Mo_drawIn_34 : decode b_Mo_drawIn 34 = .ok (.iload_n 1, 1) := by decide +kernel
theorem d_Mo_drawIn_35 : decode b_Mo_drawIn 35 = .ok (.if_icmp .lt 7, 3) := by decide +kernel
theorem d_Mo_drawIn_38 : decode b_Mo_drawIn 38 = .ok (.iconst 1, 1) := by decide +kernel
theorem d_Mo_drawIn_39 : decode b_Mo_drawIn 39 = .ok (.goto 4, 3) := by decide +kernel
theorem d_Mo_drawIn_42 : decode b_Mo_drawIn 42 = .ok (.iconst 0, 1) := by decide +kernel
theorem d_Mo_drawIn_43 : decode b_Mo_drawIn 43 = .ok (.istore 6, 2) := by decide +kernel
theorem d_Mo_drawIn_45 : decode b_Mo_drawIn 45 = .ok (.iload 6, 2) := by decide +kernel
theorem d_Mo_drawIn_47 : decode b_Mo_drawIn 47 = .ok (.ifCond .eq 18, 3) := by decide +kernel
theorem d_Mo_drawIn_50 : decode b_Mo_drawIn 50 = .ok (.iload_n 3, 1) := by decide +kernel
theorem d_Mo_drawIn_51 : decode b_Mo_drawIn 51 = .ok (.aload_n 0, 1) := by decide +kernel
theorem d_Mo_drawIn_52 : decode b_Mo_drawIn 52 = .ok (.getfield 22, 3) := by decide +kernel
theorem d_Mo_drawIn_55 : decode b_Mo_drawIn 55 = .ok (.bipush 16, 2) := by decide +kernel
theorem d_Mo_drawIn_57 : decode b_Mo_drawIn 57 = .ok (.iload 5, 2) := by decide +kernel
theorem d_Mo_drawIn_59 : decode b_Mo_drawIn 59 = .ok (.iadd, 1) := by decide +kernel
theorem d_Mo_drawIn_60 : decode b_Mo_drawIn 60 = .ok (.iaload, 1) := by decide +kernel
theorem d_Mo_drawIn_61 : decode b_Mo_drawIn 61 = .ok (.iadd, 1) := by decide +kernel
theorem d_Mo_drawIn_62 : decode b_Mo_drawIn 62 = .ok (.goto 4, 3) := by decide +kernel
theorem d_Mo_drawIn_65 : decode b_Mo_drawIn 65 = .ok (.iload_n 3, 1) := by decide +kernel
theorem d_Mo_drawIn_66 : decode b_Mo_drawIn 66 = .ok (.istore_n 3, 1) := by decide +kernel
theorem d_Mo_drawIn_67 : decode b_Mo_drawIn 67 = .ok (.iload 4, 2) := by decide +kernel
theorem d_Mo_drawIn_69 : decode b_Mo_drawIn 69 = .ok (.ifCond .ne 8, 3) := by decide +kernel
theorem d_Mo_drawIn_72 : decode b_Mo_drawIn 72 = .ok (.iload 6, 2) := by decide +kernel
theorem d_Mo_drawIn_74 : decode b_Mo_drawIn 74 = .ok (.ifCond .eq 7, 3) := by decide +kernel
theorem d_Mo_drawIn_77 : decode b_Mo_drawIn 77 = .ok (.iconst 1, 1) := by decide +kernel
theorem d_Mo_drawIn_78 : decode b_Mo_drawIn 78 = .ok (.goto 4, 3) := by decide +kernel
theorem d_Mo_drawIn_81 : decode b_Mo_drawIn 81 = .ok (.iconst 0, 1) := by decide +kernel
theorem d_Mo_drawIn_82 : decode b_Mo_drawIn 82 = .ok (.istore 4, 2) := by decide +kernel
theorem d_Mo_drawIn_84 : decode b_Mo_drawIn 84 = .ok (.iinc 5 1, 3) := by decide +kernel
theorem d_Mo_drawIn_87 : decode b_Mo_drawIn 87 = .ok (.goto (-79), 3) := by decide +kernel
theorem d_Mo_drawIn_90 : decode b_Mo_drawIn 90 = .ok (.iload 4, 2) := by decide +kernel
theorem d_Mo_drawIn_92 : decode b_Mo_drawIn 92 = .ok (.ifCond .eq 7, 3) := by decide +kernel
theorem d_Mo_drawIn_95 : decode b_Mo_drawIn 95 = .ok (.iload_n 3, 1) := by decide +kernel
theorem d_Mo_drawIn_96 : decode b_Mo_drawIn 96 = .ok (.goto 4, 3) := by decide +kernel
theorem d_Mo_drawIn_99 : decode b_Mo_drawIn 99 = .ok (.iconst (-1), 1) := by decide +kernel
theorem d_Mo_drawIn_100 : decode b_Mo_drawIn 100 = .ok (.ireturn, 1) := by decide +kernel
theorem d_Mo_holds_0 : decode b_Mo_holds 0 = .ok (.iconst 0, 1) := by decide +kernel
theorem d_Mo_holds_1 : decode b_Mo_holds 1 = .ok (.istore_n 2, 1) := by decide +kernel
theorem d_Mo_holds_2 : decode b_Mo_holds 2 = .ok (.aload_n 0, 1) := by decide +kernel
theorem d_Mo_holds_3 : decode b_Mo_holds 3 = .ok (.getfield 151, 3) := by decide +kernel
theorem d_Mo_holds_6 : decode b_Mo_holds 6 = .ok (.istore_n 3, 1) := by decide +kernel
theorem d_Mo_holds_7 : decode b_Mo_holds 7 = .ok (.iconst 0, 1) := by decide +kernel
theorem d_Mo_holds_8 : decode b_Mo_holds 8 = .ok (.istore 4, 2) := by decide +kernel
theorem d_Mo_holds_10 : decode b_Mo_holds 10 = .ok (.iload 4, 2) := by decide +kernel
theorem d_Mo_holds_12 : decode b_Mo_holds 12 = .ok (.aload_n 0, 1) := by decide +kernel
theorem d_Mo_holds_13 : decode b_Mo_holds 13 = .ok (.getfield 120, 3) := by decide +kernel
theorem d_Mo_holds_16 : decode b_Mo_holds 16 = .ok (.if_icmp .ge 53, 3) := by decide +kernel
theorem d_Mo_holds_19 : decode b_Mo_holds 19 = .ok (.aload_n 0, 1) := by decide +kernel
theorem d_Mo_holds_20 : decode b_Mo_holds 20 = .ok (.iload 4, 2) := by decide +kernel
theorem d_Mo_holds_22 : decode b_Mo_holds 22 = .ok (.iload_n 1, 1) := by decide +kernel
theorem d_Mo_holds_23 : decode b_Mo_holds 23 = .ok (.invokevirtual 143, 3) := by decide +kernel
theorem d_Mo_holds_26 : decode b_Mo_holds 26 = .ok (.ifCond .eq 37, 3) := by decide +kernel
theorem d_Mo_holds_29 : decode b_Mo_holds 29 = .ok (.iload_n 2, 1) := by decide +kernel
theorem d_Mo_holds_30 : decode b_Mo_holds 30 = .ok (.aload_n 0, 1) := by decide +kernel
theorem d_Mo_holds_31 : decode b_Mo_holds 31 = .ok (.getfield 22, 3) := by decide +kernel
theorem d_Mo_holds_34 : decode b_Mo_holds 34 = .ok (.bipush 32, 2) := by decide +kernel
theorem d_Mo_holds_36 : decode b_Mo_holds 36 = .ok (.iload 4, 2) := by decide +kernel
theorem d_Mo_holds_38 : decode b_Mo_holds 38 = .ok (.iadd, 1) := by decide +kernel
theorem d_Mo_holds_39 : decode b_Mo_holds 39 = .ok (.iaload, 1) := by decide +kernel
theorem d_Mo_holds_40 : decode b_Mo_holds 40 = .ok (.iadd, 1) := by decide +kernel
theorem d_Mo_holds_41 : decode b_Mo_holds 41 = .ok (.istore_n 2, 1) := by decide +kernel
theorem d_Mo_holds_42 : decode b_Mo_holds 42 = .ok (.iload_n 3, 1) := by decide +kernel
theorem d_Mo_holds_43 : decode b_Mo_holds 43 = .ok (.aload_n 0, 1) := by decide +kernel
theorem d_Mo_holds_44 : decode b_Mo_holds 44 = .ok (.getfield 22, 3) := by decide +kernel
theorem d_Mo_holds_47 : decode b_Mo_holds 47 = .ok (.bipush 24, 2) := by decide +kernel
theorem d_Mo_holds_49 : decode b_Mo_holds 49 = .ok (.iload 4, 2) := by decide +kernel
theorem d_Mo_holds_51 : decode b_Mo_holds 51 = .ok (.iadd, 1) := by decide +kernel
theorem d_Mo_holds_52 : decode b_Mo_holds 52 = .ok (.iaload, 1) := by decide +kernel
theorem d_Mo_holds_53 : decode b_Mo_holds 53 = .ok (.aload_n 0, 1) := by decide +kernel
theorem d_Mo_holds_54 : decode b_Mo_holds 54 = .ok (.iload 4, 2) := by decide +kernel
theorem d_Mo_holds_56 : decode b_Mo_holds 56 = .ok (.iload_n 1, 1) := by decide +kernel
theorem d_Mo_holds_57 : decode b_Mo_holds 57 = .ok (.invokevirtual 147, 3) := by decide +kernel
theorem d_Mo_holds_60 : decode b_Mo_holds 60 = .ok (.imul, 1) := by decide +kernel
theorem d_Mo_holds_61 : decode b_Mo_holds 61 = .ok (.iadd, 1) := by decide +kernel
theorem d_Mo_holds_62 : decode b_Mo_holds 62 = .ok (.istore_n 3, 1) := by decide +kernel
theorem d_Mo_holds_63 : decode b_Mo_holds 63 = .ok (.iinc 4 1, 3) := by decide +kernel
theorem d_Mo_holds_66 : decode b_Mo_holds 66 = .ok (.goto (-56), 3) := by decide +kernel
theorem d_Mo_holds_69 : decode b_Mo_holds 69 = .ok (.aload_n 0, 1) := by decide +kernel
theorem d_Mo_holds_70 : decode b_Mo_holds 70 = .ok (.getfield 55, 3) := by decide +kernel
theorem d_Mo_holds_73 : decode b_Mo_holds 73 = .ok (.istore 4, 2) := by decide +kernel
theorem d_Mo_holds_75 : decode b_Mo_holds 75 = .ok (.iload_n 2, 1) := by decide +kernel
theorem d_Mo_holds_76 : decode b_Mo_holds 76 = .ok (.bipush 100, 2) := by decide +kernel
theorem d_Mo_holds_78 : decode b_Mo_holds 78 = .ok (.if_icmp .gt 27, 3) := by decide +kernel
theorem d_Mo_holds_81 : decode b_Mo_holds 81 = .ok (.iload_n 3, 1) := by decide +kernel
theorem d_Mo_holds_82 : decode b_Mo_holds 82 = .ok (.sipush 500, 3) := by decide +kernel
theorem d_Mo_holds_85 : decode b_Mo_holds 85 = .ok (.if_icmp .gt 20, 3) := by decide +kernel
theorem d_Mo_holds_88 : decode b_Mo_holds 88 = .ok (.aload_n 0, 1) := by decide +kernel
theorem d_Mo_holds_89 : decode b_Mo_holds 89 = .ok (.iload 4, 2) := by decide +kernel
theorem d_Mo_holds_91 : decode b_Mo_holds 91 = .ok (.aload_n 0, 1) := by decide +kernel
theorem d_Mo_holds_92 : decode b_Mo_holds 92 = .ok (.getfield 154, 3) := by decide +kernel
theorem d_Mo_holds_95 : decode b_Mo_holds 95 = .ok (.invokevirtual 157, 3) := by decide +kernel
theorem d_Mo_holds_98 : decode b_Mo_holds 98 = .ok (.ifCond .eq 7, 3) := by decide +kernel
theorem d_Mo_holds_101 : decode b_Mo_holds 101 = .ok (.iconst 1, 1) := by decide +kernel
theorem d_Mo_holds_102 : decode b_Mo_holds 102 = .ok (.goto 4, 3) := by decide +kernel
theorem d_Mo_holds_105 : decode b_Mo_holds 105 = .ok (.iconst 0, 1) := by decide +kernel
theorem d_Mo_holds_106 : decode b_Mo_holds 106 = .ok (.istore 5, 2) := by decide +kernel
theorem d_Mo_holds_108 : decode b_Mo_holds 108 = .ok (.iconst 1, 1) := by decide +kernel
theorem d_Mo_holds_109 : decode b_Mo_holds 109 = .ok (.istore 6, 2) := by decide +kernel
theorem d_Mo_holds_111 : decode b_Mo_holds 111 = .ok (.iload 6, 2) := by decide +kernel
theorem d_Mo_holds_113 : decode b_Mo_holds 113 = .ok (.bipush 30, 2) := by decide +kernel
theorem d_Mo_holds_115 : decode b_Mo_holds 115 = .ok (.if_icmp .gt 74, 3) := by decide +kernel
theorem d_Mo_holds_118 : decode b_Mo_holds 118 = .ok (.iload 5, 2) := by decide +kernel
theorem d_Mo_holds_120 : decode b_Mo_holds 120 = .ok (.ifCond .eq 69, 3) := by decide +kernel
theorem d_Mo_holds_123 : decode b_Mo_holds 123 = .ok (.aload_n 0, 1) := by decide +kernel
theorem d_Mo_holds_124 : decode b_Mo_holds 124 = .ok (.iload 6, 2) := by decide +kernel
theorem d_Mo_holds_126 : decode b_Mo_holds 126 = .ok (.iload_n 1, 1) := by decide +kernel
theorem d_Mo_holds_127 : decode b_Mo_holds 127 = .ok (.invokevirtual 160, 3) := by decide +kernel
theorem d_Mo_holds_130 : decode b_Mo_holds 130 = .ok (.ifCond .lt 59, 3) := by decide +kernel
theorem d_Mo_holds_133 : decode b_Mo_holds 133 = .ok (.aload_n 0, 1) := by decide +kernel
theorem d_Mo_holds_134 : decode b_Mo_holds 134 = .ok (.iload 4, 2) := by decide +kernel
theorem d_Mo_holds_136 : decode b_Mo_holds 136 = .ok (.aload_n 0, 1) := by decide +kernel
theorem d_Mo_holds_137 : decode b_Mo_holds 137 = .ok (.getfield 154, 3) := by decide +kernel
theorem d_Mo_holds_140 : decode b_Mo_holds 140 = .ok (.iload 6, 2) := by decide +kernel
theorem d_Mo_holds_142 : decode b_Mo_holds 142 = .ok (.iadd, 1) := by decide +kernel
theorem d_Mo_holds_143 : decode b_Mo_holds 143 = .ok (.aload_n 0, 1) := by decide +kernel
theorem d_Mo_holds_144 : decode b_Mo_holds 144 = .ok (.iload 6, 2) := by decide +kernel
theorem d_Mo_holds_146 : decode b_Mo_holds 146 = .ok (.iload_n 1, 1) := by decide +kernel
theorem d_Mo_holds_147 : decode b_Mo_holds 147 = .ok (.invokevirtual 160, 3) := by decide +kernel
theorem d_Mo_holds_150 : decode b_Mo_holds 150 = .ok (.invokevirtual 139, 3) := by decide +kernel
theorem d_Mo_holds_153 : decode b_Mo_holds 153 = .ok (.istore 4, 2) := by decide +kernel
theorem d_Mo_holds_155 : decode b_Mo_holds 155 = .ok (.iload 4, 2) := by decide +kernel
theorem d_Mo_holds_157 : decode b_Mo_holds 157 = .ok (.ifCond .lt 23, 3) := by decide +kernel
theorem d_Mo_holds_160 : decode b_Mo_holds 160 = .ok (.aload_n 0, 1) := by decide +kernel
theorem d_Mo_holds_161 : decode b_Mo_holds 161 = .ok (.iload 4, 2) := by decide +kernel
theorem d_Mo_holds_163 : decode b_Mo_holds 163 = .ok (.aload_n 0, 1) := by decide +kernel
theorem d_Mo_holds_164 : decode b_Mo_holds 164 = .ok (.getfield 154, 3) := by decide +kernel
theorem d_Mo_holds_167 : decode b_Mo_holds 167 = .ok (.iload 6, 2) := by decide +kernel
theorem d_Mo_holds_169 : decode b_Mo_holds 169 = .ok (.iadd, 1) := by decide +kernel
theorem d_Mo_holds_170 : decode b_Mo_holds 170 = .ok (.invokevirtual 157, 3) := by decide +kernel
theorem d_Mo_holds_173 : decode b_Mo_holds 173 = .ok (.ifCond .eq 7, 3) := by decide +kernel
theorem d_Mo_holds_176 : decode b_Mo_holds 176 = .ok (.iconst 1, 1) := by decide +kernel
theorem d_Mo_holds_177 : decode b_Mo_holds 177 = .ok (.goto 4, 3) := by decide +kernel
theorem d_Mo_holds_180 : decode b_Mo_holds 180 = .ok (.iconst 0, 1) := by decide +kernel
theorem d_Mo_holds_181 : decode b_Mo_holds 181 = .ok (.istore 5, 2) := by decide +kernel
theorem d_Mo_holds_183 : decode b_Mo_holds 183 = .ok (.iinc 6 1, 3) := by decide +kernel
theorem d_Mo_holds_186 : decode b_Mo_holds 186 = .ok (.goto (-75), 3) := by decide +kernel
theorem d_Mo_holds_189 : decode b_Mo_holds 189 = .ok (.iload 5, 2) := by decide +kernel
theorem d_Mo_holds_191 : decode b_Mo_holds 191 = .ok (.ireturn, 1) := by decide +kernel
theorem d_Mo_howMany_0 : decode b_Mo_howMany 0 = .ok (.iconst 0, 1) := by decide +kernel
theorem d_Mo_howMany_1 : decode b_Mo_howMany 1 = .ok (.istore_n 2, 1) := by decide +kernel
theorem d_Mo_howMany_2 : decode b_Mo_howMany 2 = .ok (.iconst 0, 1) := by decide +kernel
theorem d_Mo_howMany_3 : decode b_Mo_howMany 3 = .ok (.istore_n 3, 1) := by decide +kernel
theorem d_Mo_howMany_4 : decode b_Mo_howMany 4 = .ok (.iload_n 3, 1) := by decide +kernel
theorem d_Mo_howMany_5 : decode b_Mo_howMany 5 = .ok (.aload_n 0, 1) := by decide +kernel
theorem d_Mo_howMany_6 : decode b_Mo_howMany 6 = .ok (.getfield 120, 3) := by decide +kernel
theorem d_Mo_howMany_9 : decode b_Mo_howMany 9 = .ok (.if_icmp .ge 27, 3) := by decide +kernel
theorem d_Mo_howMany_12 : decode b_Mo_howMany 12 = .ok (.aload_n 0, 1) := by decide +kernel
theorem d_Mo_howMany_13 : decode b_Mo_howMany 13 = .ok (.getfield 28, 3) := by decide +kernel
theorem d_Mo_howMany_16 : decode b_Mo_howMany 16 = .ok (.iload_n 3, 1) := by decide +kernel
theorem d_Mo_howMany_17 : decode b_Mo_howMany 17 = .ok (.iaload, 1) := by decide +kernel
theorem d_Mo_howMany_18 : decode b_Mo_howMany 18 = .ok (.iload_n 1, 1) := by decide +kernel
theorem d_Mo_howMany_19 : decode b_Mo_howMany 19 = .ok (.if_icmp .ne 9, 3) := by decide +kernel
theorem d_Mo_howMany_22 : decode b_Mo_howMany 22 = .ok (.iload_n 2, 1) := by decide +kernel
theorem d_Mo_howMany_23 : decode b_Mo_howMany 23 = .ok (.iconst 1, 1) := by decide +kernel
theorem d_Mo_howMany_24 : decode b_Mo_howMany 24 = .ok (.iadd, 1) := by decide +kernel
theorem d_Mo_howMany_25 : decode b_Mo_howMany 25 = .ok (.goto 4, 3) := by decide +kernel
theorem d_Mo_howMany_28 : decode b_Mo_howMany 28 = .ok (.iload_n 2, 1) := by decide +kernel
theorem d_Mo_howMany_29 : decode b_Mo_howMany 29 = .ok (.istore_n 2, 1) := by decide +kernel
theorem d_Mo_howMany_30 : decode b_Mo_howMany 30 = .ok (.iinc 3 1, 3) := by decide +kernel
theorem d_Mo_howMany_33 : decode b_Mo_howMany 33 = .ok (.goto (-29), 3) := by decide +kernel
theorem d_Mo_howMany_36 : decode b_Mo_howMany 36 = .ok (.iload_n 2, 1) := by decide +kernel
theorem d_Mo_howMany_37 : decode b_Mo_howMany 37 = .ok (.ireturn, 1) := by decide +kernel
theorem d_Mo_hasIn_0 : decode b_Mo_hasIn 0 = .ok (.iconst 0, 1) := by decide +kernel
theorem d_Mo_hasIn_1 : decode b_Mo_hasIn 1 = .ok (.istore 4, 2) := by decide +kernel
theorem d_Mo_hasIn_3 : decode b_Mo_hasIn 3 = .ok (.iconst 0, 1) := by decide +kernel
theorem d_Mo_hasIn_4 : decode b_Mo_hasIn 4 = .ok (.istore 5, 2) := by decide +kernel
theorem d_Mo_hasIn_6 : decode b_Mo_hasIn 6 = .ok (.iload 5, 2) := by decide +kernel
theorem d_Mo_hasIn_8 : decode b_Mo_hasIn 8 = .ok (.aload_n 0, 1) := by decide +kernel
theorem d_Mo_hasIn_9 : decode b_Mo_hasIn 9 = .ok (.getfield 120, 3) := by decide +kernel
theorem d_Mo_hasIn_12 : decode b_Mo_hasIn 12 = .ok (.if_icmp .ge 53, 3) := by decide +kernel
theorem d_Mo_hasIn_15 : decode b_Mo_hasIn 15 = .ok (.iload 4, 2) := by decide +kernel
theorem d_Mo_hasIn_17 : decode b_Mo_hasIn 17 = .ok (.ifCond .ne 35, 3) := by decide +kernel
theorem d_Mo_hasIn_20 : decode b_Mo_hasIn 20 = .ok (.iload_n 1, 1) := by decide +kernel
theorem d_Mo_hasIn_21 : decode b_Mo_hasIn 21 = .ok (.iload 5, 2) := by decide +kernel
theorem d_Mo_hasIn_23 : decode b_Mo_hasIn 23 = .ok (.ishr, 1) := by decide +kernel
theorem d_Mo_hasIn_24 : decode b_Mo_hasIn 24 = .ok (.iconst 1, 1) := by decide +kernel
theorem d_Mo_hasIn_25 : decode b_Mo_hasIn 25 = .ok (.iand, 1) := by decide +kernel
theorem d_Mo_hasIn_26 : decode b_Mo_hasIn 26 = .ok (.iconst 1, 1) := by decide +kernel
theorem d_Mo_hasIn_27 : decode b_Mo_hasIn 27 = .ok (.if_icmp .ne 29, 3) := by decide +kernel
theorem d_Mo_hasIn_30 : decode b_Mo_hasIn 30 = .ok (.aload_n 0, 1) := by decide +kernel
theorem d_Mo_hasIn_31 : decode b_Mo_hasIn 31 = .ok (.getfield 28, 3) := by decide +kernel
end
section
theorem d_Mo_hasIn_34 : decode b_Mo_hasIn 34 = .ok (.iload 5, 2) := by decide +kernel
theorem d_Mo_hasIn_36 : decode b_Mo_hasIn 36 = .ok (.iaload, 1) := by decide +kernel
theorem d_Mo_hasIn_37 : decode b_Mo_hasIn 37 = .ok (.iload_n 2, 1) := by decide +kernel
theorem d_Mo_hasIn_38 : decode b_Mo_hasIn 38 = .ok (.if_icmp .eq 14, 3) := by decide +kernel
theorem d_Mo_hasIn_41 : decode b_Mo_hasIn 41 = .ok (.aload_n 0, 1) := by decide +kernel
theorem d_Mo_hasIn_42 : decode b_Mo_hasIn 42 = .ok (.getfield 28, 3) := by decide +kernel
theorem d_Mo_hasIn_45 : decode b_Mo_hasIn 45 = .ok (.iload 5, 2) := by decide +kernel
theorem d_Mo_hasIn_47 : decode b_Mo_hasIn 47 = .ok (.iaload, 1) := by decide +kernel
theorem d_Mo_hasIn_48 : decode b_Mo_hasIn 48 = .ok (.iload_n 3, 1) := by decide +kernel
theorem d_Mo_hasIn_49 : decode b_Mo_hasIn 49 = .ok (.if_icmp .ne 7, 3) := by decide +kernel
theorem d_Mo_hasIn_52 : decode b_Mo_hasIn 52 = .ok (.iconst 1, 1) := by decide +kernel
theorem d_Mo_hasIn_53 : decode b_Mo_hasIn 53 = .ok (.goto 4, 3) := by decide +kernel
theorem d_Mo_hasIn_56 : decode b_Mo_hasIn 56 = .ok (.iconst 0, 1) := by decide +kernel
theorem d_Mo_hasIn_57 : decode b_Mo_hasIn 57 = .ok (.istore 4, 2) := by decide +kernel
theorem d_Mo_hasIn_59 : decode b_Mo_hasIn 59 = .ok (.iinc 5 1, 3) := by decide +kernel
theorem d_Mo_hasIn_62 : decode b_Mo_hasIn 62 = .ok (.goto (-56), 3) := by decide +kernel
theorem d_Mo_hasIn_65 : decode b_Mo_hasIn 65 = .ok (.iload 4, 2) := by decide +kernel
theorem d_Mo_hasIn_67 : decode b_Mo_hasIn 67 = .ok (.ireturn, 1) := by decide +kernel
theorem d_Mo_skip_0 : decode b_Mo_skip 0 = .ok (.iconst 1, 1) := by decide +kernel
theorem d_Mo_skip_1 : decode b_Mo_skip 1 = .ok (.istore_n 1, 1) := by decide +kernel
theorem d_Mo_skip_2 : decode b_Mo_skip 2 = .ok (.iload_n 1, 1) := by decide +kernel
theorem d_Mo_skip_3 : decode b_Mo_skip 3 = .ok (.ifCond .eq 109, 3) := by decide +kernel
theorem d_Mo_skip_6 : decode b_Mo_skip 6 = .ok (.iconst 0, 1) := by decide +kernel
theorem d_Mo_skip_7 : decode b_Mo_skip 7 = .ok (.istore_n 1, 1) := by decide +kernel
theorem d_Mo_skip_8 : decode b_Mo_skip 8 = .ok (.iconst 0, 1) := by decide +kernel
theorem d_Mo_skip_9 : decode b_Mo_skip 9 = .ok (.istore_n 2, 1) := by decide +kernel
theorem d_Mo_skip_10 : decode b_Mo_skip 10 = .ok (.iload_n 2, 1) := by decide +kernel
theorem d_Mo_skip_11 : decode b_Mo_skip 11 = .ok (.aload_n 0, 1) := by decide +kernel
theorem d_Mo_skip_12 : decode b_Mo_skip 12 = .ok (.getfield 120, 3) := by decide +kernel
theorem d_Mo_skip_15 : decode b_Mo_skip 15 = .ok (.if_icmp .ge 94, 3) := by decide +kernel
theorem d_Mo_skip_18 : decode b_Mo_skip 18 = .ok (.aload_n 0, 1) := by decide +kernel
theorem d_Mo_skip_19 : decode b_Mo_skip 19 = .ok (.getfield 154, 3) := by decide +kernel
theorem d_Mo_skip_22 : decode b_Mo_skip 22 = .ok (.aload_n 0, 1) := by decide +kernel
theorem d_Mo_skip_23 : decode b_Mo_skip 23 = .ok (.getfield 163, 3) := by decide +kernel
theorem d_Mo_skip_26 : decode b_Mo_skip 26 = .ok (.isub, 1) := by decide +kernel
theorem d_Mo_skip_27 : decode b_Mo_skip 27 = .ok (.aload_n 0, 1) := by decide +kernel
theorem d_Mo_skip_28 : decode b_Mo_skip 28 = .ok (.getfield 22, 3) := by decide +kernel
theorem d_Mo_skip_31 : decode b_Mo_skip 31 = .ok (.bipush 40, 2) := by decide +kernel
theorem d_Mo_skip_33 : decode b_Mo_skip 33 = .ok (.iload_n 2, 1) := by decide +kernel
theorem d_Mo_skip_34 : decode b_Mo_skip 34 = .ok (.iadd, 1) := by decide +kernel
theorem d_Mo_skip_35 : decode b_Mo_skip 35 = .ok (.iaload, 1) := by decide +kernel
theorem d_Mo_skip_36 : decode b_Mo_skip 36 = .ok (.if_icmp .gt 39, 3) := by decide +kernel
theorem d_Mo_skip_39 : decode b_Mo_skip 39 = .ok (.aload_n 0, 1) := by decide +kernel
theorem d_Mo_skip_40 : decode b_Mo_skip 40 = .ok (.aload_n 0, 1) := by decide +kernel
theorem d_Mo_skip_41 : decode b_Mo_skip 41 = .ok (.getfield 22, 3) := by decide +kernel
theorem d_Mo_skip_44 : decode b_Mo_skip 44 = .ok (.bipush 56, 2) := by decide +kernel
theorem d_Mo_skip_46 : decode b_Mo_skip 46 = .ok (.iload_n 2, 1) := by decide +kernel
theorem d_Mo_skip_47 : decode b_Mo_skip 47 = .ok (.iadd, 1) := by decide +kernel
theorem d_Mo_skip_48 : decode b_Mo_skip 48 = .ok (.iaload, 1) := by decide +kernel
theorem d_Mo_skip_49 : decode b_Mo_skip 49 = .ok (.iconst 3, 1) := by decide +kernel
theorem d_Mo_skip_50 : decode b_Mo_skip 50 = .ok (.iconst 4, 1) := by decide +kernel
theorem d_Mo_skip_51 : decode b_Mo_skip 51 = .ok (.invokevirtual 166, 3) := by decide +kernel
theorem d_Mo_skip_54 : decode b_Mo_skip 54 = .ok (.ifCond .ne 21, 3) := by decide +kernel
theorem d_Mo_skip_57 : decode b_Mo_skip 57 = .ok (.aload_n 0, 1) := by decide +kernel
theorem d_Mo_skip_58 : decode b_Mo_skip 58 = .ok (.aload_n 0, 1) := by decide +kernel
theorem d_Mo_skip_59 : decode b_Mo_skip 59 = .ok (.getfield 22, 3) := by decide +kernel
theorem d_Mo_skip_62 : decode b_Mo_skip 62 = .ok (.bipush 64, 2) := by decide +kernel
theorem d_Mo_skip_64 : decode b_Mo_skip 64 = .ok (.iload_n 2, 1) := by decide +kernel
theorem d_Mo_skip_65 : decode b_Mo_skip 65 = .ok (.iadd, 1) := by decide +kernel
theorem d_Mo_skip_66 : decode b_Mo_skip 66 = .ok (.iaload, 1) := by decide +kernel
theorem d_Mo_skip_67 : decode b_Mo_skip 67 = .ok (.iconst 2, 1) := by decide +kernel
theorem d_Mo_skip_68 : decode b_Mo_skip 68 = .ok (.iconst 2, 1) := by decide +kernel
theorem d_Mo_skip_69 : decode b_Mo_skip 69 = .ok (.invokevirtual 166, 3) := by decide +kernel
theorem d_Mo_skip_72 : decode b_Mo_skip 72 = .ok (.ifCond .eq 7, 3) := by decide +kernel
theorem d_Mo_skip_75 : decode b_Mo_skip 75 = .ok (.iconst 1, 1) := by decide +kernel
theorem d_Mo_skip_76 : decode b_Mo_skip 76 = .ok (.goto 4, 3) := by decide +kernel
theorem d_Mo_skip_79 : decode b_Mo_skip 79 = .ok (.iconst 0, 1) := by decide +kernel
theorem d_Mo_skip_80 : decode b_Mo_skip 80 = .ok (.istore_n 3, 1) := by decide +kernel
theorem d_Mo_skip_81 : decode b_Mo_skip 81 = .ok (.aload_n 0, 1) := by decide +kernel
theorem d_Mo_skip_82 : decode b_Mo_skip 82 = .ok (.getfield 28, 3) := by decide +kernel
theorem d_Mo_skip_85 : decode b_Mo_skip 85 = .ok (.iload_n 2, 1) := by decide +kernel
theorem d_Mo_skip_86 : decode b_Mo_skip 86 = .ok (.iaload, 1) := by decide +kernel
theorem d_Mo_skip_87 : decode b_Mo_skip 87 = .ok (.ifCond .ne 16, 3) := by decide +kernel
theorem d_Mo_skip_90 : decode b_Mo_skip 90 = .ok (.iload_n 3, 1) := by decide +kernel
theorem d_Mo_skip_91 : decode b_Mo_skip 91 = .ok (.ifCond .eq 12, 3) := by decide +kernel
theorem d_Mo_skip_94 : decode b_Mo_skip 94 = .ok (.aload_n 0, 1) := by decide +kernel
theorem d_Mo_skip_95 : decode b_Mo_skip 95 = .ok (.getfield 28, 3) := by decide +kernel
theorem d_Mo_skip_98 : decode b_Mo_skip 98 = .ok (.iload_n 2, 1) := by decide +kernel
theorem d_Mo_skip_99 : decode b_Mo_skip 99 = .ok (.iconst 4, 1) := by decide +kernel
theorem d_Mo_skip_100 : decode b_Mo_skip 100 = .ok (.iastore, 1) := by decide +kernel
theorem d_Mo_skip_101 : decode b_Mo_skip 101 = .ok (.iconst 1, 1) := by decide +kernel
theorem d_Mo_skip_102 : decode b_Mo_skip 102 = .ok (.istore_n 1, 1) := by decide +kernel
theorem d_Mo_skip_103 : decode b_Mo_skip 103 = .ok (.iinc 2 1, 3) := by decide +kernel
theorem d_Mo_skip_106 : decode b_Mo_skip 106 = .ok (.goto (-96), 3) := by decide +kernel
theorem d_Mo_skip_109 : decode b_Mo_skip 109 = .ok (.goto (-107), 3) := by decide +kernel
theorem d_Mo_skip_112 : decode b_Mo_skip 112 = .ok (.return_, 1) := by decide +kernel
theorem d_Mo_mayStart_0 : decode b_Mo_mayStart 0 = .ok (.aload_n 0, 1) := by decide +kernel
theorem d_Mo_mayStart_1 : decode b_Mo_mayStart 1 = .ok (.aload_n 0, 1) := by decide +kernel
theorem d_Mo_mayStart_2 : decode b_Mo_mayStart 2 = .ok (.getfield 22, 3) := by decide +kernel
theorem d_Mo_mayStart_5 : decode b_Mo_mayStart 5 = .ok (.bipush 56, 2) := by decide +kernel
theorem d_Mo_mayStart_7 : decode b_Mo_mayStart 7 = .ok (.iload_n 1, 1) := by decide +kernel
theorem d_Mo_mayStart_8 : decode b_Mo_mayStart 8 = .ok (.iadd, 1) := by decide +kernel
theorem d_Mo_mayStart_9 : decode b_Mo_mayStart 9 = .ok (.iaload, 1) := by decide +kernel
theorem d_Mo_mayStart_10 : decode b_Mo_mayStart 10 = .ok (.iconst 0, 1) := by decide +kernel
theorem d_Mo_mayStart_11 : decode b_Mo_mayStart 11 = .ok (.iconst 1, 1) := by decide +kernel
theorem d_Mo_mayStart_12 : decode b_Mo_mayStart 12 = .ok (.invokevirtual 166, 3) := by decide +kernel
theorem d_Mo_mayStart_15 : decode b_Mo_mayStart 15 = .ok (.ifCond .ne 25, 3) := by decide +kernel
theorem d_Mo_mayStart_18 : decode b_Mo_mayStart 18 = .ok (.aload_n 0, 1) := by decide +kernel
theorem d_Mo_mayStart_19 : decode b_Mo_mayStart 19 = .ok (.aload_n 0, 1) := by decide +kernel
theorem d_Mo_mayStart_20 : decode b_Mo_mayStart 20 = .ok (.getfield 22, 3) := by decide +kernel
theorem d_Mo_mayStart_23 : decode b_Mo_mayStart 23 = .ok (.bipush 56, 2) := by decide +kernel
theorem d_Mo_mayStart_25 : decode b_Mo_mayStart 25 = .ok (.iload_n 1, 1) := by decide +kernel
theorem d_Mo_mayStart_26 : decode b_Mo_mayStart 26 = .ok (.iadd, 1) := by decide +kernel
theorem d_Mo_mayStart_27 : decode b_Mo_mayStart 27 = .ok (.iaload, 1) := by decide +kernel
theorem d_Mo_mayStart_28 : decode b_Mo_mayStart 28 = .ok (.iconst 3, 1) := by decide +kernel
theorem d_Mo_mayStart_29 : decode b_Mo_mayStart 29 = .ok (.iconst 4, 1) := by decide +kernel
theorem d_Mo_mayStart_30 : decode b_Mo_mayStart 30 = .ok (.invokevirtual 166, 3) := by decide +kernel
theorem d_Mo_mayStart_33 : decode b_Mo_mayStart 33 = .ok (.ifCond .ne 7, 3) := by decide +kernel
theorem d_Mo_mayStart_36 : decode b_Mo_mayStart 36 = .ok (.iconst 1, 1) := by decide +kernel
theorem d_Mo_mayStart_37 : decode b_Mo_mayStart 37 = .ok (.goto 4, 3) := by decide +kernel
theorem d_Mo_mayStart_40 : decode b_Mo_mayStart 40 = .ok (.iconst 0, 1) := by decide +kernel
theorem d_Mo_mayStart_41 : decode b_Mo_mayStart 41 = .ok (.istore_n 2, 1) := by decide +kernel
theorem d_Mo_mayStart_42 : decode b_Mo_mayStart 42 = .ok (.aload_n 0, 1) := by decide +kernel
theorem d_Mo_mayStart_43 : decode b_Mo_mayStart 43 = .ok (.aload_n 0, 1) := by decide +kernel
theorem d_Mo_mayStart_44 : decode b_Mo_mayStart 44 = .ok (.getfield 22, 3) := by decide +kernel
theorem d_Mo_mayStart_47 : decode b_Mo_mayStart 47 = .ok (.bipush 64, 2) := by decide +kernel
theorem d_Mo_mayStart_49 : decode b_Mo_mayStart 49 = .ok (.iload_n 1, 1) := by decide +kernel
theorem d_Mo_mayStart_50 : decode b_Mo_mayStart 50 = .ok (.iadd, 1) := by decide +kernel
theorem d_Mo_mayStart_51 : decode b_Mo_mayStart 51 = .ok (.iaload, 1) := by decide +kernel
theorem d_Mo_mayStart_52 : decode b_Mo_mayStart 52 = .ok (.iconst 0, 1) := by decide +kernel
theorem d_Mo_mayStart_53 : decode b_Mo_mayStart 53 = .ok (.iconst 1, 1) := by decide +kernel
theorem d_Mo_mayStart_54 : decode b_Mo_mayStart 54 = .ok (.invokevirtual 166, 3) := by decide +kernel
theorem d_Mo_mayStart_57 : decode b_Mo_mayStart 57 = .ok (.ifCond .ne 25, 3) := by decide +kernel
theorem d_Mo_mayStart_60 : decode b_Mo_mayStart 60 = .ok (.aload_n 0, 1) := by decide +kernel
theorem d_Mo_mayStart_61 : decode b_Mo_mayStart 61 = .ok (.aload_n 0, 1) := by decide +kernel
theorem d_Mo_mayStart_62 : decode b_Mo_mayStart 62 = .ok (.getfield 22, 3) := by decide +kernel
theorem d_Mo_mayStart_65 : decode b_Mo_mayStart 65 = .ok (.bipush 64, 2) := by decide +kernel
theorem d_Mo_mayStart_67 : decode b_Mo_mayStart 67 = .ok (.iload_n 1, 1) := by decide +kernel
theorem d_Mo_mayStart_68 : decode b_Mo_mayStart 68 = .ok (.iadd, 1) := by decide +kernel
theorem d_Mo_mayStart_69 : decode b_Mo_mayStart 69 = .ok (.iaload, 1) := by decide +kernel
theorem d_Mo_mayStart_70 : decode b_Mo_mayStart 70 = .ok (.iconst 2, 1) := by decide +kernel
theorem d_Mo_mayStart_71 : decode b_Mo_mayStart 71 = .ok (.iconst 2, 1) := by decide +kernel
theorem d_Mo_mayStart_72 : decode b_Mo_mayStart 72 = .ok (.invokevirtual 166, 3) := by decide +kernel
theorem d_Mo_mayStart_75 : decode b_Mo_mayStart 75 = .ok (.ifCond .ne 7, 3) := by decide +kernel
theorem d_Mo_mayStart_78 : decode b_Mo_mayStart 78 = .ok (.iconst 1, 1) := by decide +kernel
theorem d_Mo_mayStart_79 : decode b_Mo_mayStart 79 = .ok (.goto 4, 3) := by decide +kernel
theorem d_Mo_mayStart_82 : decode b_Mo_mayStart 82 = .ok (.iconst 0, 1) := by decide +kernel
theorem d_Mo_mayStart_83 : decode b_Mo_mayStart 83 = .ok (.istore_n 3, 1) := by decide +kernel
theorem d_Mo_mayStart_84 : decode b_Mo_mayStart 84 = .ok (.aload_n 0, 1) := by decide +kernel
theorem d_Mo_mayStart_85 : decode b_Mo_mayStart 85 = .ok (.getfield 28, 3) := by decide +kernel
theorem d_Mo_mayStart_88 : decode b_Mo_mayStart 88 = .ok (.iload_n 1, 1) := by decide +kernel
theorem d_Mo_mayStart_89 : decode b_Mo_mayStart 89 = .ok (.iaload, 1) := by decide +kernel
theorem d_Mo_mayStart_90 : decode b_Mo_mayStart 90 = .ok (.ifCond .ne 23, 3) := by decide +kernel
theorem d_Mo_mayStart_93 : decode b_Mo_mayStart 93 = .ok (.iload_n 2, 1) := by decide +kernel
theorem d_Mo_mayStart_94 : decode b_Mo_mayStart 94 = .ok (.ifCond .eq 19, 3) := by decide +kernel
theorem d_Mo_mayStart_97 : decode b_Mo_mayStart 97 = .ok (.iload_n 3, 1) := by decide +kernel
theorem d_Mo_mayStart_98 : decode b_Mo_mayStart 98 = .ok (.ifCond .eq 15, 3) := by decide +kernel
theorem d_Mo_mayStart_101 : decode b_Mo_mayStart 101 = .ok (.aload_n 0, 1) := by decide +kernel
theorem d_Mo_mayStart_102 : decode b_Mo_mayStart 102 = .ok (.iload_n 1, 1) := by decide +kernel
theorem d_Mo_mayStart_103 : decode b_Mo_mayStart 103 = .ok (.invokevirtual 170, 3) := by decide +kernel
theorem d_Mo_mayStart_106 : decode b_Mo_mayStart 106 = .ok (.ifCond .eq 7, 3) := by decide +kernel
theorem d_Mo_mayStart_109 : decode b_Mo_mayStart 109 = .ok (.iconst 1, 1) := by decide +kernel
theorem d_Mo_mayStart_110 : decode b_Mo_mayStart 110 = .ok (.goto 4, 3) := by decide +kernel
theorem d_Mo_mayStart_113 : decode b_Mo_mayStart 113 = .ok (.iconst 0, 1) := by decide +kernel
theorem d_Mo_mayStart_114 : decode b_Mo_mayStart 114 = .ok (.ireturn, 1) := by decide +kernel
theorem d_Mo_startAll_0 : decode b_Mo_startAll 0 = .ok (.iconst 0, 1) := by decide +kernel
theorem d_Mo_startAll_1 : decode b_Mo_startAll 1 = .ok (.istore_n 1, 1) := by decide +kernel
theorem d_Mo_startAll_2 : decode b_Mo_startAll 2 = .ok (.iconst 0, 1) := by decide +kernel
theorem d_Mo_startAll_3 : decode b_Mo_startAll 3 = .ok (.istore_n 2, 1) := by decide +kernel
theorem d_Mo_startAll_4 : decode b_Mo_startAll 4 = .ok (.iload_n 2, 1) := by decide +kernel
theorem d_Mo_startAll_5 : decode b_Mo_startAll 5 = .ok (.aload_n 0, 1) := by decide +kernel
theorem d_Mo_startAll_6 : decode b_Mo_startAll 6 = .ok (.getfield 120, 3) := by decide +kernel
theorem d_Mo_startAll_9 : decode b_Mo_startAll 9 = .ok (.if_icmp .ge 134, 3) := by decide +kernel
theorem d_Mo_startAll_12 : decode b_Mo_startAll 12 = .ok (.aload_n 0, 1) := by decide +kernel
theorem d_Mo_startAll_13 : decode b_Mo_startAll 13 = .ok (.iload_n 2, 1) := by decide +kernel
theorem d_Mo_startAll_14 : decode b_Mo_startAll 14 = .ok (.invokevirtual 173, 3) := by decide +kernel
theorem d_Mo_startAll_17 : decode b_Mo_startAll 17 = .ok (.ifCond .eq 120, 3) := by decide +kernel
theorem d_Mo_startAll_20 : decode b_Mo_startAll 20 = .ok (.aload_n 0, 1) := by decide +kernel
theorem d_Mo_startAll_21 : decode b_Mo_startAll 21 = .ok (.getfield 28, 3) := by decide +kernel
theorem d_Mo_startAll_24 : decode b_Mo_startAll 24 = .ok (.iload_n 2, 1) := by decide +kernel
theorem d_Mo_startAll_25 : decode b_Mo_startAll 25 = .ok (.iconst 1, 1) := by decide +kernel
theorem d_Mo_startAll_26 : decode b_Mo_startAll 26 = .ok (.iastore, 1) := by decide +kernel
theorem d_Mo_startAll_27 : decode b_Mo_startAll 27 = .ok (.aload_n 0, 1) := by decide +kernel
theorem d_Mo_startAll_28 : decode b_Mo_startAll 28 = .ok (.getfield 31, 3) := by decide +kernel
theorem d_Mo_startAll_31 : decode b_Mo_startAll 31 = .ok (.iload_n 2, 1) := by decide +kernel
theorem d_Mo_startAll_32 : decode b_Mo_startAll 32 = .ok (.aload_n 0, 1) := by decide +kernel
theorem d_Mo_startAll_33 : decode b_Mo_startAll 33 = .ok (.getfield 154, 3) := by decide +kernel
theorem d_Mo_startAll_36 : decode b_Mo_startAll 36 = .ok (.iastore, 1) := by decide +kernel
theorem d_Mo_startAll_37 : decode b_Mo_startAll 37 = .ok (.aload_n 0, 1) := by decide +kernel
theorem d_Mo_startAll_38 : decode b_Mo_startAll 38 = .ok (.getfield 34, 3) := by decide +kernel
theorem d_Mo_startAll_41 : decode b_Mo_startAll 41 = .ok (.iload_n 2, 1) := by decide +kernel
theorem d_Mo_startAll_42 : decode b_Mo_startAll 42 = .ok (.iconst 0, 1) := by decide +kernel
theorem d_Mo_startAll_43 : decode b_Mo_startAll 43 = .ok (.iastore, 1) := by decide +kernel
theorem d_Mo_startAll_44 : decode b_Mo_startAll 44 = .ok (.aload_n 0, 1) := by decide +kernel
theorem d_Mo_startAll_45 : decode b_Mo_startAll 45 = .ok (.getfield 40, 3) := by decide +kernel
theorem d_Mo_startAll_48 : decode b_Mo_startAll 48 = .ok (.iload_n 2, 1) := by decide +kernel
theorem d_Mo_startAll_49 : decode b_Mo_startAll 49 = .ok (.dup2, 1) := by decide +kernel
theorem d_Mo_startAll_50 : decode b_Mo_startAll 50 = .ok (.iaload, 1) := by decide +kernel
theorem d_Mo_startAll_51 : decode b_Mo_startAll 51 = .ok (.iconst 1, 1) := by decide +kernel
theorem d_Mo_startAll_52 : decode b_Mo_startAll 52 = .ok (.iadd, 1) := by decide +kernel
theorem d_Mo_startAll_53 : decode b_Mo_startAll 53 = .ok (.iastore, 1) := by decide +kernel
theorem d_Mo_startAll_54 : decode b_Mo_startAll 54 = .ok (.aload_n 0, 1) := by decide +kernel
theorem d_Mo_startAll_55 : decode b_Mo_startAll 55 = .ok (.getfield 43, 3) := by decide +kernel
theorem d_Mo_startAll_58 : decode b_Mo_startAll 58 = .ok (.iload_n 2, 1) := by decide +kernel
theorem d_Mo_startAll_59 : decode b_Mo_startAll 59 = .ok (.aload_n 0, 1) := by decide +kernel
theorem d_Mo_startAll_60 : decode b_Mo_startAll 60 = .ok (.getfield 49, 3) := by decide +kernel
theorem d_Mo_startAll_63 : decode b_Mo_startAll 63 = .ok (.iload_n 2, 1) := by decide +kernel
theorem d_Mo_startAll_64 : decode b_Mo_startAll 64 = .ok (.iaload, 1) := by decide +kernel
theorem d_Mo_startAll_65 : decode b_Mo_startAll 65 = .ok (.ifCond .ge 15, 3) := by decide +kernel
theorem d_Mo_startAll_68 : decode b_Mo_startAll 68 = .ok (.aload_n 0, 1) := by decide +kernel
theorem d_Mo_startAll_69 : decode b_Mo_startAll 69 = .ok (.getfield 22, 3) := by decide +kernel
theorem d_Mo_startAll_72 : decode b_Mo_startAll 72 = .ok (.bipush 8, 2) := by decide +kernel
theorem d_Mo_startAll_74 : decode b_Mo_startAll 74 = .ok (.iload_n 2, 1) := by decide +kernel
theorem d_Mo_startAll_75 : decode b_Mo_startAll 75 = .ok (.iadd, 1) := by decide +kernel
theorem d_Mo_startAll_76 : decode b_Mo_startAll 76 = .ok (.iaload, 1) := by decide +kernel
theorem d_Mo_startAll_77 : decode b_Mo_startAll 77 = .ok (.goto 9, 3) := by decide +kernel
theorem d_Mo_startAll_80 : decode b_Mo_startAll 80 = .ok (.aload_n 0, 1) := by decide +kernel
theorem d_Mo_startAll_81 : decode b_Mo_startAll 81 = .ok (.getfield 49, 3) := by decide +kernel
theorem d_Mo_startAll_84 : decode b_Mo_startAll 84 = .ok (.iload_n 2, 1) := by decide +kernel
theorem d_Mo_startAll_85 : decode b_Mo_startAll 85 = .ok (.iaload, 1) := by decide +kernel
theorem d_Mo_startAll_86 : decode b_Mo_startAll 86 = .ok (.iastore, 1) := by decide +kernel
theorem d_Mo_startAll_87 : decode b_Mo_startAll 87 = .ok (.aload_n 0, 1) := by decide +kernel
theorem d_Mo_startAll_88 : decode b_Mo_startAll 88 = .ok (.getfield 46, 3) := by decide +kernel
theorem d_Mo_startAll_91 : decode b_Mo_startAll 91 = .ok (.iload_n 2, 1) := by decide +kernel
theorem d_Mo_startAll_92 : decode b_Mo_startAll 92 = .ok (.aload_n 0, 1) := by decide +kernel
theorem d_Mo_startAll_93 : decode b_Mo_startAll 93 = .ok (.getfield 52, 3) := by decide +kernel
theorem d_Mo_startAll_96 : decode b_Mo_startAll 96 = .ok (.iload_n 2, 1) := by decide +kernel
theorem d_Mo_startAll_97 : decode b_Mo_startAll 97 = .ok (.iaload, 1) := by decide +kernel
theorem d_Mo_startAll_98 : decode b_Mo_startAll 98 = .ok (.ifCond .ge 15, 3) := by decide +kernel
theorem d_Mo_startAll_101 : decode b_Mo_startAll 101 = .ok (.aload_n 0, 1) := by decide +kernel
theorem d_Mo_startAll_102 : decode b_Mo_startAll 102 = .ok (.getfield 22, 3) := by decide +kernel
theorem d_Mo_startAll_105 : decode b_Mo_startAll 105 = .ok (.bipush 16, 2) := by decide +kernel
theorem d_Mo_startAll_107 : decode b_Mo_startAll 107 = .ok (.iload_n 2, 1) := by decide +kernel
theorem d_Mo_startAll_108 : decode b_Mo_startAll 108 = .ok (.iadd, 1) := by decide +kernel
theorem d_Mo_startAll_109 : decode b_Mo_startAll 109 = .ok (.iaload, 1) := by decide +kernel
theorem d_Mo_startAll_110 : decode b_Mo_startAll 110 = .ok (.goto 9, 3) := by decide +kernel
theorem d_Mo_startAll_113 : decode b_Mo_startAll 113 = .ok (.aload_n 0, 1) := by decide +kernel
theorem d_Mo_startAll_114 : decode b_Mo_startAll 114 = .ok (.getfield 52, 3) := by decide +kernel
theorem d_Mo_startAll_117 : decode b_Mo_startAll 117 = .ok (.iload_n 2, 1) := by decide +kernel
theorem d_Mo_startAll_118 : decode b_Mo_startAll 118 = .ok (.iaload, 1) := by decide +kernel
theorem d_Mo_startAll_119 : decode b_Mo_startAll 119 = .ok (.iastore, 1) := by decide +kernel
theorem d_Mo_startAll_120 : decode b_Mo_startAll 120 = .ok (.aload_n 0, 1) := by decide +kernel
theorem d_Mo_startAll_121 : decode b_Mo_startAll 121 = .ok (.getfield 49, 3) := by decide +kernel
theorem d_Mo_startAll_124 : decode b_Mo_startAll 124 = .ok (.iload_n 2, 1) := by decide +kernel
theorem d_Mo_startAll_125 : decode b_Mo_startAll 125 = .ok (.iconst (-1), 1) := by decide +kernel
theorem d_Mo_startAll_126 : decode b_Mo_startAll 126 = .ok (.iastore, 1) := by decide +kernel
theorem d_Mo_startAll_127 : decode b_Mo_startAll 127 = .ok (.aload_n 0, 1) := by decide +kernel
theorem d_Mo_startAll_128 : decode b_Mo_startAll 128 = .ok (.getfield 52, 3) := by decide +kernel
theorem d_Mo_startAll_131 : decode b_Mo_startAll 131 = .ok (.iload_n 2, 1) := by decide +kernel
theorem d_Mo_startAll_132 : decode b_Mo_startAll 132 = .ok (.iconst (-1), 1) := by decide +kernel
theorem d_Mo_startAll_133 : decode b_Mo_startAll 133 = .ok (.iastore, 1) := by decide +kernel
theorem d_Mo_startAll_134 : decode b_Mo_startAll 134 = .ok (.iinc 1 1, 3) := by decide +kernel
theorem d_Mo_startAll_137 : decode b_Mo_startAll 137 = .ok (.iinc 2 1, 3) := by decide +kernel
theorem d_Mo_startAll_140 : decode b_Mo_startAll 140 = .ok (.goto (-136), 3) := by decide +kernel
theorem d_Mo_startAll_143 : decode b_Mo_startAll 143 = .ok (.aload_n 0, 1) := by decide +kernel
theorem d_Mo_startAll_144 : decode b_Mo_startAll 144 = .ok (.aload_n 0, 1) := by decide +kernel
theorem d_Mo_startAll_145 : decode b_Mo_startAll 145 = .ok (.iconst 0, 1) := by decide +kernel
theorem d_Mo_startAll_146 : decode b_Mo_startAll 146 = .ok (.invokevirtual 176, 3) := by decide +kernel
theorem d_Mo_startAll_149 : decode b_Mo_startAll 149 = .ok (.aload_n 0, 1) := by decide +kernel
theorem d_Mo_startAll_150 : decode b_Mo_startAll 150 = .ok (.iconst 1, 1) := by decide +kernel
theorem d_Mo_startAll_151 : decode b_Mo_startAll 151 = .ok (.invokevirtual 176, 3) := by decide +kernel
theorem d_Mo_startAll_154 : decode b_Mo_startAll 154 = .ok (.iadd, 1) := by decide +kernel
theorem d_Mo_startAll_155 : decode b_Mo_startAll 155 = .ok (.ifCond .ne 7, 3) := by decide +kernel
theorem d_Mo_startAll_158 : decode b_Mo_startAll 158 = .ok (.iconst 0, 1) := by decide +kernel
theorem d_Mo_startAll_159 : decode b_Mo_startAll 159 = .ok (.goto 4, 3) := by decide +kernel
theorem d_Mo_startAll_162 : decode b_Mo_startAll 162 = .ok (.iconst 1, 1) := by decide +kernel
theorem d_Mo_startAll_163 : decode b_Mo_startAll 163 = .ok (.putfield 123, 3) := by decide +kernel
theorem d_Mo_startAll_166 : decode b_Mo_startAll 166 = .ok (.iload_n 1, 1) := by decide +kernel
theorem d_Mo_startAll_167 : decode b_Mo_startAll 167 = .ok (.ireturn, 1) := by decide +kernel
theorem d_Mo_goHome_0 : decode b_Mo_goHome 0 = .ok (.iconst 0, 1) := by decide +kernel
theorem d_Mo_goHome_1 : decode b_Mo_goHome 1 = .ok (.istore_n 1, 1) := by decide +kernel
theorem d_Mo_goHome_2 : decode b_Mo_goHome 2 = .ok (.iload_n 1, 1) := by decide +kernel
theorem d_Mo_goHome_3 : decode b_Mo_goHome 3 = .ok (.aload_n 0, 1) := by decide +kernel
theorem d_Mo_goHome_4 : decode b_Mo_goHome 4 = .ok (.getfield 120, 3) := by decide +kernel
theorem d_Mo_goHome_7 : decode b_Mo_goHome 7 = .ok (.if_icmp .ge 48, 3) := by decide +kernel
theorem d_Mo_goHome_10 : decode b_Mo_goHome 10 = .ok (.aload_n 0, 1) := by decide +kernel
theorem d_Mo_goHome_11 : decode b_Mo_goHome 11 = .ok (.getfield 28, 3) := by decide +kernel
theorem d_Mo_goHome_14 : decode b_Mo_goHome 14 = .ok (.iload_n 1, 1) := by decide +kernel
theorem d_Mo_goHome_15 : decode b_Mo_goHome 15 = .ok (.aload_n 0, 1) := by decide +kernel
theorem d_Mo_goHome_16 : decode b_Mo_goHome 16 = .ok (.getfield 28, 3) := by decide +kernel
theorem d_Mo_goHome_19 : decode b_Mo_goHome 19 = .ok (.iload_n 1, 1) := by decide +kernel
theorem d_Mo_goHome_20 : decode b_Mo_goHome 20 = .ok (.iaload, 1) := by decide +kernel
theorem d_Mo_goHome_21 : decode b_Mo_goHome 21 = .ok (.iconst 1, 1) := by decide +kernel
theorem d_Mo_goHome_22 : decode b_Mo_goHome 22 = .ok (.if_icmp .ne 7, 3) := by decide +kernel
theorem d_Mo_goHome_25 : decode b_Mo_goHome 25 = .ok (.iconst 3, 1) := by decide +kernel
theorem d_Mo_goHome_26 : decode b_Mo_goHome 26 = .ok (.goto 22, 3) := by decide +kernel
theorem d_Mo_goHome_29 : decode b_Mo_goHome 29 = .ok (.aload_n 0, 1) := by decide +kernel
theorem d_Mo_goHome_30 : decode b_Mo_goHome 30 = .ok (.getfield 28, 3) := by decide +kernel
theorem d_Mo_goHome_33 : decode b_Mo_goHome 33 = .ok (.iload_n 1, 1) := by decide +kernel
theorem d_Mo_goHome_34 : decode b_Mo_goHome 34 = .ok (.iaload, 1) := by decide +kernel
theorem d_Mo_goHome_35 : decode b_Mo_goHome 35 = .ok (.ifCond .ne 7, 3) := by decide +kernel
theorem d_Mo_goHome_38 : decode b_Mo_goHome 38 = .ok (.iconst 4, 1) := by decide +kernel
theorem d_Mo_goHome_39 : decode b_Mo_goHome 39 = .ok (.goto 9, 3) := by decide +kernel
theorem d_Mo_goHome_42 : decode b_Mo_goHome 42 = .ok (.aload_n 0, 1) := by decide +kernel
theorem d_Mo_goHome_43 : decode b_Mo_goHome 43 = .ok (.getfield 28, 3) := by decide +kernel
theorem d_Mo_goHome_46 : decode b_Mo_goHome 46 = .ok (.iload_n 1, 1) := by decide +kernel
theorem d_Mo_goHome_47 : decode b_Mo_goHome 47 = .ok (.iaload, 1) := by decide +kernel
theorem d_Mo_goHome_48 : decode b_Mo_goHome 48 = .ok (.iastore, 1) := by decide +kernel
theorem d_Mo_goHome_49 : decode b_Mo_goHome 49 = .ok (.iinc 1 1, 3) := by decide +kernel
theorem d_Mo_goHome_52 : decode b_Mo_goHome 52 = .ok (.goto (-50), 3) := by decide +kernel
theorem d_Mo_goHome_55 : decode b_Mo_goHome 55 = .ok (.aload_n 0, 1) := by decide +kernel
theorem d_Mo_goHome_56 : decode b_Mo_goHome 56 = .ok (.iconst 2, 1) := by decide +kernel
theorem d_Mo_goHome_57 : decode b_Mo_goHome 57 = .ok (.putfield 123, 3) := by decide +kernel
theorem d_Mo_goHome_60 : decode b_Mo_goHome 60 = .ok (.aload_n 0, 1) := by decide +kernel
theorem d_Mo_goHome_61 : decode b_Mo_goHome 61 = .ok (.aload_n 0, 1) := by decide +kernel
theorem d_Mo_goHome_62 : decode b_Mo_goHome 62 = .ok (.getfield 65, 3) := by decide +kernel
theorem d_Mo_goHome_65 : decode b_Mo_goHome 65 = .ok (.putfield 179, 3) := by decide +kernel
theorem d_Mo_goHome_68 : decode b_Mo_goHome 68 = .ok (.return_, 1) := by decide +kernel
theorem d_Mo_enable_0 : decode b_Mo_enable 0 = .ok (.aload_n 0, 1) := by decide +kernel
theorem d_Mo_enable_1 : decode b_Mo_enable 1 = .ok (.aload_n 0, 1) := by decide +kernel
theorem d_Mo_enable_2 : decode b_Mo_enable 2 = .ok (.getfield 123, 3) := by decide +kernel
theorem d_Mo_enable_5 : decode b_Mo_enable 5 = .ok (.ifCond .ne 25, 3) := by decide +kernel
theorem d_Mo_enable_8 : decode b_Mo_enable 8 = .ok (.aload_n 0, 1) := by decide +kernel
theorem d_Mo_enable_9 : decode b_Mo_enable 9 = .ok (.getfield 120, 3) := by decide +kernel
theorem d_Mo_enable_12 : decode b_Mo_enable 12 = .ok (.ifCond .eq 18, 3) := by decide +kernel
theorem d_Mo_enable_15 : decode b_Mo_enable 15 = .ok (.aload_n 0, 1) := by decide +kernel
theorem d_Mo_enable_16 : decode b_Mo_enable 16 = .ok (.aload_n 0, 1) := by decide +kernel
theorem d_Mo_enable_17 : decode b_Mo_enable 17 = .ok (.getfield 55, 3) := by decide +kernel
theorem d_Mo_enable_20 : decode b_Mo_enable 20 = .ok (.aload_n 0, 1) := by decide +kernel
theorem d_Mo_enable_21 : decode b_Mo_enable 21 = .ok (.getfield 154, 3) := by decide +kernel
theorem d_Mo_enable_24 : decode b_Mo_enable 24 = .ok (.invokevirtual 157, 3) := by decide +kernel
theorem d_Mo_enable_27 : decode b_Mo_enable 27 = .ok (.ifCond .ne 7, 3) := by decide +kernel
theorem d_Mo_enable_30 : decode b_Mo_enable 30 = .ok (.iconst 1, 1) := by decide +kernel
theorem d_Mo_enable_31 : decode b_Mo_enable 31 = .ok (.goto 4, 3) := by decide +kernel
theorem d_Mo_enable_34 : decode b_Mo_enable 34 = .ok (.iconst 0, 1) := by decide +kernel
theorem d_Mo_enable_35 : decode b_Mo_enable 35 = .ok (.iconst 0, 1) := by decide +kernel
theorem d_Mo_enable_36 : decode b_Mo_enable 36 = .ok (.invokevirtual 126, 3) := by decide +kernel
theorem d_Mo_enable_39 : decode b_Mo_enable 39 = .ok (.ifCond .eq 5, 3) := by decide +kernel
theorem d_Mo_enable_42 : decode b_Mo_enable 42 = .ok (.iconst 0, 1) := by decide +kernel
theorem d_Mo_enable_43 : decode b_Mo_enable 43 = .ok (.ireturn, 1) := by decide +kernel
theorem d_Mo_enable_44 : decode b_Mo_enable 44 = .ok (.aload_n 0, 1) := by decide +kernel
theorem d_Mo_enable_45 : decode b_Mo_enable 45 = .ok (.invokevirtual 136, 3) := by decide +kernel
theorem d_Mo_enable_48 : decode b_Mo_enable 48 = .ok (.aload_n 0, 1) := by decide +kernel
theorem d_Mo_enable_49 : decode b_Mo_enable 49 = .ok (.aload_n 0, 1) := by decide +kernel
theorem d_Mo_enable_50 : decode b_Mo_enable 50 = .ok (.getfield 154, 3) := by decide +kernel
theorem d_Mo_enable_53 : decode b_Mo_enable 53 = .ok (.putfield 163, 3) := by decide +kernel
theorem d_Mo_enable_56 : decode b_Mo_enable 56 = .ok (.aload_n 0, 1) := by decide +kernel
theorem d_Mo_enable_57 : decode b_Mo_enable 57 = .ok (.invokevirtual 182, 3) := by decide +kernel
theorem d_Mo_enable_60 : decode b_Mo_enable 60 = .ok (.aload_n 0, 1) := by decide +kernel
theorem d_Mo_enable_61 : decode b_Mo_enable 61 = .ok (.invokevirtual 185, 3) := by decide +kernel
theorem d_Mo_enable_64 : decode b_Mo_enable 64 = .ok (.ireturn, 1) := by decide +kernel
theorem d_Mo_cancel_0 : decode b_Mo_cancel 0 = .ok (.aload_n 0, 1) := by decide +kernel
theorem d_Mo_cancel_1 : decode b_Mo_cancel 1 = .ok (.aload_n 0, 1) := by decide +kernel
theorem d_Mo_cancel_2 : decode b_Mo_cancel 2 = .ok (.getfield 123, 3) := by decide +kernel
theorem d_Mo_cancel_5 : decode b_Mo_cancel 5 = .ok (.iconst 1, 1) := by decide +kernel
theorem d_Mo_cancel_6 : decode b_Mo_cancel 6 = .ok (.if_icmp .eq 7, 3) := by decide +kernel
theorem d_Mo_cancel_9 : decode b_Mo_cancel 9 = .ok (.iconst 1, 1) := by decide +kernel
theorem d_Mo_cancel_10 : decode b_Mo_cancel 10 = .ok (.goto 4, 3) := by decide +kernel
theorem d_Mo_cancel_13 : decode b_Mo_cancel 13 = .ok (.iconst 0, 1) := by decide +kernel
theorem d_Mo_cancel_14 : decode b_Mo_cancel 14 = .ok (.iconst 0, 1) := by decide +kernel
theorem d_Mo_cancel_15 : decode b_Mo_cancel 15 = .ok (.invokevirtual 126, 3) := by decide +kernel
theorem d_Mo_cancel_18 : decode b_Mo_cancel 18 = .ok (.ifCond .ne 7, 3) := by decide +kernel
theorem d_Mo_cancel_21 : decode b_Mo_cancel 21 = .ok (.aload_n 0, 1) := by decide +kernel
theorem d_Mo_cancel_22 : decode b_Mo_cancel 22 = .ok (.invokevirtual 188, 3) := by decide +kernel
theorem d_Mo_cancel_25 : decode b_Mo_cancel 25 = .ok (.return_, 1) := by decide +kernel
theorem d_Mo_draw_0 : decode b_Mo_draw 0 = .ok (.aload_n 0, 1) := by decide +kernel
theorem d_Mo_draw_1 : decode b_Mo_draw 1 = .ok (.getfield 62, 3) := by decide +kernel
theorem d_Mo_draw_4 : decode b_Mo_draw 4 = .ok (.ifCond .ge 18, 3) := by decide +kernel
theorem d_Mo_draw_7 : decode b_Mo_draw 7 = .ok (.aload_n 0, 1) := by decide +kernel
theorem d_Mo_draw_8 : decode b_Mo_draw 8 = .ok (.getfield 59, 3) := by decide +kernel
theorem d_Mo_draw_11 : decode b_Mo_draw 11 = .ok (.aload_n 0, 1) := by decide +kernel
theorem d_Mo_draw_12 : decode b_Mo_draw 12 = .ok (.getfield 154, 3) := by decide +kernel
theorem d_Mo_draw_15 : decode b_Mo_draw 15 = .ok (.bipush 24, 2) := by decide +kernel
theorem d_Mo_draw_17 : decode b_Mo_draw 17 = .ok (.irem, 1) := by decide +kernel
theorem d_Mo_draw_18 : decode b_Mo_draw 18 = .ok (.iaload, 1) := by decide +kernel
theorem d_Mo_draw_19 : decode b_Mo_draw 19 = .ok (.goto 7, 3) := by decide +kernel
theorem d_Mo_draw_22 : decode b_Mo_draw 22 = .ok (.aload_n 0, 1) := by decide +kernel
theorem d_Mo_draw_23 : decode b_Mo_draw 23 = .ok (.getfield 62, 3) := by decide +kernel
theorem d_Mo_draw_26 : decode b_Mo_draw 26 = .ok (.istore_n 2, 1) := by decide +kernel
theorem d_Mo_draw_27 : decode b_Mo_draw 27 = .ok (.aload_n 0, 1) := by decide +kernel
theorem d_Mo_draw_28 : decode b_Mo_draw 28 = .ok (.getfield 55, 3) := by decide +kernel
theorem d_Mo_draw_31 : decode b_Mo_draw 31 = .ok (.iload_n 2, 1) := by decide +kernel
theorem d_Mo_draw_32 : decode b_Mo_draw 32 = .ok (.iadd, 1) := by decide +kernel
theorem d_Mo_draw_33 : decode b_Mo_draw 33 = .ok (.iload_n 1, 1) := by decide +kernel
theorem d_Mo_draw_34 : decode b_Mo_draw 34 = .ok (.isub, 1) := by decide +kernel
theorem d_Mo_draw_35 : decode b_Mo_draw 35 = .ok (.istore_n 3, 1) := by decide +kernel
theorem d_Mo_draw_36 : decode b_Mo_draw 36 = .ok (.aload_n 0, 1) := by decide +kernel
theorem d_Mo_draw_37 : decode b_Mo_draw 37 = .ok (.iload_n 3, 1) := by decide +kernel
theorem d_Mo_draw_38 : decode b_Mo_draw 38 = .ok (.sipush 1000, 3) := by decide +kernel
theorem d_Mo_draw_41 : decode b_Mo_draw 41 = .ok (.if_icmp .le 9, 3) := by decide +kernel
theorem d_Mo_draw_44 : decode b_Mo_draw 44 = .ok (.sipush 1000, 3) := by decide +kernel
theorem d_Mo_draw_47 : decode b_Mo_draw 47 = .ok (.goto 12, 3) := by decide +kernel
theorem d_Mo_draw_50 : decode b_Mo_draw 50 = .ok (.iload_n 3, 1) := by decide +kernel
theorem d_Mo_draw_51 : decode b_Mo_draw 51 = .ok (.ifCond .ge 7, 3) := by decide +kernel
theorem d_Mo_draw_54 : decode b_Mo_draw 54 = .ok (.iconst 0, 1) := by decide +kernel
theorem d_Mo_draw_55 : decode b_Mo_draw 55 = .ok (.goto 4, 3) := by decide +kernel
theorem d_Mo_draw_58 : decode b_Mo_draw 58 = .ok (.iload_n 3, 1) := by decide +kernel
theorem d_Mo_draw_59 : decode b_Mo_draw 59 = .ok (.putfield 55, 3) := by decide +kernel
theorem d_Mo_draw_62 : decode b_Mo_draw 62 = .ok (.return_, 1) := by decide +kernel
theorem d_Mo_age_0 : decode b_Mo_age 0 = .ok (.iconst 0, 1) := by decide +kernel
theorem d_Mo_age_1 : decode b_Mo_age 1 = .ok (.istore_n 1, 1) := by decide +kernel
theorem d_Mo_age_2 : decode b_Mo_age 2 = .ok (.iconst 0, 1) := by decide +kernel
theorem d_Mo_age_3 : decode b_Mo_age 3 = .ok (.istore_n 2, 1) := by decide +kernel
theorem d_Mo_age_4 : decode b_Mo_age 4 = .ok (.iload_n 2, 1) := by decide +kernel
theorem d_Mo_age_5 : decode b_Mo_age 5 = .ok (.aload_n 0, 1) := by decide +kernel
theorem d_Mo_age_6 : decode b_Mo_age 6 = .ok (.getfield 120, 3) := by decide +kernel
theorem d_Mo_age_9 : decode b_Mo_age 9 = .ok (.if_icmp .ge 46, 3) := by decide +kernel
theorem d_Mo_age_12 : decode b_Mo_age 12 = .ok (.aload_n 0, 1) := by decide +kernel
theorem d_Mo_age_13 : decode b_Mo_age 13 = .ok (.getfield 28, 3) := by decide +kernel
theorem d_Mo_age_16 : decode b_Mo_age 16 = .ok (.iload_n 2, 1) := by decide +kernel
theorem d_Mo_age_17 : decode b_Mo_age 17 = .ok (.iaload, 1) := by decide +kernel
theorem d_Mo_age_18 : decode b_Mo_age 18 = .ok (.iconst 1, 1) := by decide +kernel
theorem d_Mo_age_19 : decode b_Mo_age 19 = .ok (.if_icmp .ne 30, 3) := by decide +kernel
theorem d_Mo_age_22 : decode b_Mo_age 22 = .ok (.iload_n 1, 1) := by decide +kernel
theorem d_Mo_age_23 : decode b_Mo_age 23 = .ok (.aload_n 0, 1) := by decide +kernel
theorem d_Mo_age_24 : decode b_Mo_age 24 = .ok (.getfield 46, 3) := by decide +kernel
theorem d_Mo_age_27 : decode b_Mo_age 27 = .ok (.iload_n 2, 1) := by decide +kernel
theorem d_Mo_age_28 : decode b_Mo_age 28 = .ok (.iaload, 1) := by decide +kernel
theorem d_Mo_age_29 : decode b_Mo_age 29 = .ok (.iadd, 1) := by decide +kernel
theorem d_Mo_age_30 : decode b_Mo_age 30 = .ok (.istore_n 1, 1) := by decide +kernel
end
section
theorem d_Mo_age_31 : decode b_Mo_age 31 = .ok (.aload_n 0, 1) := by decide +kernel
theorem d_Mo_age_32 : decode b_Mo_age 32 = .ok (.aload_n 0, 1) := by decide +kernel
theorem d_Mo_age_33 : decode b_Mo_age 33 = .ok (.getfield 151, 3) := by decide +kernel
theorem d_Mo_age_36 : decode b_Mo_age 36 = .ok (.aload_n 0, 1) := by decide +kernel
theorem d_Mo_age_37 : decode b_Mo_age 37 = .ok (.getfield 22, 3) := by decide +kernel
theorem d_Mo_age_40 : decode b_Mo_age 40 = .ok (.bipush 24, 2) := by decide +kernel
theorem d_Mo_age_42 : decode b_Mo_age 42 = .ok (.iload_n 2, 1) := by decide +kernel
theorem d_Mo_age_43 : decode b_Mo_age 43 = .ok (.iadd, 1) := by decide +kernel
theorem d_Mo_age_44 : decode b_Mo_age 44 = .ok (.iaload, 1) := by decide +kernel
theorem d_Mo_age_45 : decode b_Mo_age 45 = .ok (.iadd, 1) := by decide +kernel
theorem d_Mo_age_46 : decode b_Mo_age 46 = .ok (.putfield 151, 3) := by decide +kernel
theorem d_Mo_age_49 : decode b_Mo_age 49 = .ok (.iinc 2 1, 3) := by decide +kernel
theorem d_Mo_age_52 : decode b_Mo_age 52 = .ok (.goto (-48), 3) := by decide +kernel
theorem d_Mo_age_55 : decode b_Mo_age 55 = .ok (.aload_n 0, 1) := by decide +kernel
theorem d_Mo_age_56 : decode b_Mo_age 56 = .ok (.iload_n 1, 1) := by decide +kernel
theorem d_Mo_age_57 : decode b_Mo_age 57 = .ok (.invokevirtual 191, 3) := by decide +kernel
theorem d_Mo_age_60 : decode b_Mo_age 60 = .ok (.aload_n 0, 1) := by decide +kernel
theorem d_Mo_age_61 : decode b_Mo_age 61 = .ok (.aload_n 0, 1) := by decide +kernel
theorem d_Mo_age_62 : decode b_Mo_age 62 = .ok (.getfield 151, 3) := by decide +kernel
theorem d_Mo_age_65 : decode b_Mo_age 65 = .ok (.sipush 500, 3) := by decide +kernel
theorem d_Mo_age_68 : decode b_Mo_age 68 = .ok (.if_icmp .le 9, 3) := by decide +kernel
theorem d_Mo_age_71 : decode b_Mo_age 71 = .ok (.sipush 500, 3) := by decide +kernel
theorem d_Mo_age_74 : decode b_Mo_age 74 = .ok (.goto 7, 3) := by decide +kernel
theorem d_Mo_age_77 : decode b_Mo_age 77 = .ok (.aload_n 0, 1) := by decide +kernel
theorem d_Mo_age_78 : decode b_Mo_age 78 = .ok (.getfield 151, 3) := by decide +kernel
theorem d_Mo_age_81 : decode b_Mo_age 81 = .ok (.putfield 151, 3) := by decide +kernel
theorem d_Mo_age_84 : decode b_Mo_age 84 = .ok (.iconst 0, 1) := by decide +kernel
theorem d_Mo_age_85 : decode b_Mo_age 85 = .ok (.istore_n 2, 1) := by decide +kernel
theorem d_Mo_age_86 : decode b_Mo_age 86 = .ok (.iload_n 2, 1) := by decide +kernel
theorem d_Mo_age_87 : decode b_Mo_age 87 = .ok (.aload_n 0, 1) := by decide +kernel
theorem d_Mo_age_88 : decode b_Mo_age 88 = .ok (.getfield 120, 3) := by decide +kernel
theorem d_Mo_age_91 : decode b_Mo_age 91 = .ok (.if_icmp .ge 162, 3) := by decide +kernel
theorem d_Mo_age_94 : decode b_Mo_age 94 = .ok (.aload_n 0, 1) := by decide +kernel
theorem d_Mo_age_95 : decode b_Mo_age 95 = .ok (.getfield 28, 3) := by decide +kernel
theorem d_Mo_age_98 : decode b_Mo_age 98 = .ok (.iload_n 2, 1) := by decide +kernel
theorem d_Mo_age_99 : decode b_Mo_age 99 = .ok (.iaload, 1) := by decide +kernel
theorem d_Mo_age_100 : decode b_Mo_age 100 = .ok (.iconst 1, 1) := by decide +kernel
theorem d_Mo_age_101 : decode b_Mo_age 101 = .ok (.if_icmp .ne 146, 3) := by decide +kernel
theorem d_Mo_age_104 : decode b_Mo_age 104 = .ok (.aload_n 0, 1) := by decide +kernel
theorem d_Mo_age_105 : decode b_Mo_age 105 = .ok (.getfield 34, 3) := by decide +kernel
theorem d_Mo_age_108 : decode b_Mo_age 108 = .ok (.iload_n 2, 1) := by decide +kernel
theorem d_Mo_age_109 : decode b_Mo_age 109 = .ok (.dup2, 1) := by decide +kernel
theorem d_Mo_age_110 : decode b_Mo_age 110 = .ok (.iaload, 1) := by decide +kernel
theorem d_Mo_age_111 : decode b_Mo_age 111 = .ok (.iconst 1, 1) := by decide +kernel
theorem d_Mo_age_112 : decode b_Mo_age 112 = .ok (.iadd, 1) := by decide +kernel
theorem d_Mo_age_113 : decode b_Mo_age 113 = .ok (.iastore, 1) := by decide +kernel
theorem d_Mo_age_114 : decode b_Mo_age 114 = .ok (.aload_n 0, 1) := by decide +kernel
theorem d_Mo_age_115 : decode b_Mo_age 115 = .ok (.getfield 46, 3) := by decide +kernel
theorem d_Mo_age_118 : decode b_Mo_age 118 = .ok (.iload_n 2, 1) := by decide +kernel
theorem d_Mo_age_119 : decode b_Mo_age 119 = .ok (.iaload, 1) := by decide +kernel
theorem d_Mo_age_120 : decode b_Mo_age 120 = .ok (.aload_n 0, 1) := by decide +kernel
theorem d_Mo_age_121 : decode b_Mo_age 121 = .ok (.getfield 22, 3) := by decide +kernel
theorem d_Mo_age_124 : decode b_Mo_age 124 = .ok (.bipush 16, 2) := by decide +kernel
theorem d_Mo_age_126 : decode b_Mo_age 126 = .ok (.iload_n 2, 1) := by decide +kernel
theorem d_Mo_age_127 : decode b_Mo_age 127 = .ok (.iadd, 1) := by decide +kernel
theorem d_Mo_age_128 : decode b_Mo_age 128 = .ok (.iaload, 1) := by decide +kernel
theorem d_Mo_age_129 : decode b_Mo_age 129 = .ok (.if_icmp .gt 36, 3) := by decide +kernel
theorem d_Mo_age_132 : decode b_Mo_age 132 = .ok (.aload_n 0, 1) := by decide +kernel
theorem d_Mo_age_133 : decode b_Mo_age 133 = .ok (.getfield 34, 3) := by decide +kernel
theorem d_Mo_age_136 : decode b_Mo_age 136 = .ok (.iload_n 2, 1) := by decide +kernel
theorem d_Mo_age_137 : decode b_Mo_age 137 = .ok (.iaload, 1) := by decide +kernel
theorem d_Mo_age_138 : decode b_Mo_age 138 = .ok (.aload_n 0, 1) := by decide +kernel
theorem d_Mo_age_139 : decode b_Mo_age 139 = .ok (.getfield 22, 3) := by decide +kernel
theorem d_Mo_age_142 : decode b_Mo_age 142 = .ok (.bipush 8, 2) := by decide +kernel
theorem d_Mo_age_144 : decode b_Mo_age 144 = .ok (.iload_n 2, 1) := by decide +kernel
theorem d_Mo_age_145 : decode b_Mo_age 145 = .ok (.iadd, 1) := by decide +kernel
theorem d_Mo_age_146 : decode b_Mo_age 146 = .ok (.iaload, 1) := by decide +kernel
theorem d_Mo_age_147 : decode b_Mo_age 147 = .ok (.if_icmp .ne 22, 3) := by decide +kernel
theorem d_Mo_age_150 : decode b_Mo_age 150 = .ok (.aload_n 0, 1) := by decide +kernel
theorem d_Mo_age_151 : decode b_Mo_age 151 = .ok (.getfield 43, 3) := by decide +kernel
theorem d_Mo_age_154 : decode b_Mo_age 154 = .ok (.iload_n 2, 1) := by decide +kernel
theorem d_Mo_age_155 : decode b_Mo_age 155 = .ok (.iaload, 1) := by decide +kernel
theorem d_Mo_age_156 : decode b_Mo_age 156 = .ok (.aload_n 0, 1) := by decide +kernel
theorem d_Mo_age_157 : decode b_Mo_age 157 = .ok (.getfield 34, 3) := by decide +kernel
theorem d_Mo_age_160 : decode b_Mo_age 160 = .ok (.iload_n 2, 1) := by decide +kernel
theorem d_Mo_age_161 : decode b_Mo_age 161 = .ok (.iaload, 1) := by decide +kernel
theorem d_Mo_age_162 : decode b_Mo_age 162 = .ok (.if_icmp .le 7, 3) := by decide +kernel
theorem d_Mo_age_165 : decode b_Mo_age 165 = .ok (.iconst 1, 1) := by decide +kernel
theorem d_Mo_age_166 : decode b_Mo_age 166 = .ok (.goto 4, 3) := by decide +kernel
theorem d_Mo_age_169 : decode b_Mo_age 169 = .ok (.iconst 0, 1) := by decide +kernel
theorem d_Mo_age_170 : decode b_Mo_age 170 = .ok (.istore_n 3, 1) := by decide +kernel
theorem d_Mo_age_171 : decode b_Mo_age 171 = .ok (.iload_n 3, 1) := by decide +kernel
theorem d_Mo_age_172 : decode b_Mo_age 172 = .ok (.ifCond .eq 53, 3) := by decide +kernel
theorem d_Mo_age_175 : decode b_Mo_age 175 = .ok (.aload_n 0, 1) := by decide +kernel
theorem d_Mo_age_176 : decode b_Mo_age 176 = .ok (.getfield 28, 3) := by decide +kernel
theorem d_Mo_age_179 : decode b_Mo_age 179 = .ok (.iload_n 2, 1) := by decide +kernel
theorem d_Mo_age_180 : decode b_Mo_age 180 = .ok (.aload_n 0, 1) := by decide +kernel
theorem d_Mo_age_181 : decode b_Mo_age 181 = .ok (.getfield 37, 3) := by decide +kernel
theorem d_Mo_age_184 : decode b_Mo_age 184 = .ok (.iload_n 2, 1) := by decide +kernel
theorem d_Mo_age_185 : decode b_Mo_age 185 = .ok (.iaload, 1) := by decide +kernel
theorem d_Mo_age_186 : decode b_Mo_age 186 = .ok (.ifCond .le 7, 3) := by decide +kernel
theorem d_Mo_age_189 : decode b_Mo_age 189 = .ok (.iconst 0, 1) := by decide +kernel
theorem d_Mo_age_190 : decode b_Mo_age 190 = .ok (.goto 4, 3) := by decide +kernel
theorem d_Mo_age_193 : decode b_Mo_age 193 = .ok (.iconst 3, 1) := by decide +kernel
theorem d_Mo_age_194 : decode b_Mo_age 194 = .ok (.iastore, 1) := by decide +kernel
theorem d_Mo_age_195 : decode b_Mo_age 195 = .ok (.aload_n 0, 1) := by decide +kernel
theorem d_Mo_age_196 : decode b_Mo_age 196 = .ok (.getfield 37, 3) := by decide +kernel
theorem d_Mo_age_199 : decode b_Mo_age 199 = .ok (.iload_n 2, 1) := by decide +kernel
theorem d_Mo_age_200 : decode b_Mo_age 200 = .ok (.aload_n 0, 1) := by decide +kernel
theorem d_Mo_age_201 : decode b_Mo_age 201 = .ok (.getfield 37, 3) := by decide +kernel
theorem d_Mo_age_204 : decode b_Mo_age 204 = .ok (.iload_n 2, 1) := by decide +kernel
theorem d_Mo_age_205 : decode b_Mo_age 205 = .ok (.iaload, 1) := by decide +kernel
theorem d_Mo_age_206 : decode b_Mo_age 206 = .ok (.ifCond .le 14, 3) := by decide +kernel
theorem d_Mo_age_209 : decode b_Mo_age 209 = .ok (.aload_n 0, 1) := by decide +kernel
theorem d_Mo_age_210 : decode b_Mo_age 210 = .ok (.getfield 37, 3) := by decide +kernel
theorem d_Mo_age_213 : decode b_Mo_age 213 = .ok (.iload_n 2, 1) := by decide +kernel
theorem d_Mo_age_214 : decode b_Mo_age 214 = .ok (.iaload, 1) := by decide +kernel
theorem d_Mo_age_215 : decode b_Mo_age 215 = .ok (.iconst 1, 1) := by decide +kernel
theorem d_Mo_age_216 : decode b_Mo_age 216 = .ok (.isub, 1) := by decide +kernel
theorem d_Mo_age_217 : decode b_Mo_age 217 = .ok (.goto 4, 3) := by decide +kernel
theorem d_Mo_age_220 : decode b_Mo_age 220 = .ok (.iconst 0, 1) := by decide +kernel
theorem d_Mo_age_221 : decode b_Mo_age 221 = .ok (.iastore, 1) := by decide +kernel
theorem d_Mo_age_222 : decode b_Mo_age 222 = .ok (.goto 25, 3) := by decide +kernel
theorem d_Mo_age_225 : decode b_Mo_age 225 = .ok (.aload_n 0, 1) := by decide +kernel
theorem d_Mo_age_226 : decode b_Mo_age 226 = .ok (.getfield 34, 3) := by decide +kernel
theorem d_Mo_age_229 : decode b_Mo_age 229 = .ok (.iload_n 2, 1) := by decide +kernel
theorem d_Mo_age_230 : decode b_Mo_age 230 = .ok (.iaload, 1) := by decide +kernel
theorem d_Mo_age_231 : decode b_Mo_age 231 = .ok (.aload_n 0, 1) := by decide +kernel
theorem d_Mo_age_232 : decode b_Mo_age 232 = .ok (.getfield 43, 3) := by decide +kernel
theorem d_Mo_age_235 : decode b_Mo_age 235 = .ok (.iload_n 2, 1) := by decide +kernel
theorem d_Mo_age_236 : decode b_Mo_age 236 = .ok (.iaload, 1) := by decide +kernel
theorem d_Mo_age_237 : decode b_Mo_age 237 = .ok (.if_icmp .lt 10, 3) := by decide +kernel
theorem d_Mo_age_240 : decode b_Mo_age 240 = .ok (.aload_n 0, 1) := by decide +kernel
theorem d_Mo_age_241 : decode b_Mo_age 241 = .ok (.getfield 28, 3) := by decide +kernel
theorem d_Mo_age_244 : decode b_Mo_age 244 = .ok (.iload_n 2, 1) := by decide +kernel
theorem d_Mo_age_245 : decode b_Mo_age 245 = .ok (.iconst 2, 1) := by decide +kernel
theorem d_Mo_age_246 : decode b_Mo_age 246 = .ok (.iastore, 1) := by decide +kernel
theorem d_Mo_age_247 : decode b_Mo_age 247 = .ok (.iinc 2 1, 3) := by decide +kernel
theorem d_Mo_age_250 : decode b_Mo_age 250 = .ok (.goto (-164), 3) := by decide +kernel
theorem d_Mo_age_253 : decode b_Mo_age 253 = .ok (.return_, 1) := by decide +kernel
theorem d_Mo_minute_0 : decode b_Mo_minute 0 = .ok (.aload_n 0, 1) := by decide +kernel
theorem d_Mo_minute_1 : decode b_Mo_minute 1 = .ok (.dup, 1) := by decide +kernel
theorem d_Mo_minute_2 : decode b_Mo_minute 2 = .ok (.getfield 154, 3) := by decide +kernel
theorem d_Mo_minute_5 : decode b_Mo_minute 5 = .ok (.iconst 1, 1) := by decide +kernel
theorem d_Mo_minute_6 : decode b_Mo_minute 6 = .ok (.iadd, 1) := by decide +kernel
theorem d_Mo_minute_7 : decode b_Mo_minute 7 = .ok (.putfield 154, 3) := by decide +kernel
theorem d_Mo_minute_10 : decode b_Mo_minute 10 = .ok (.aload_n 0, 1) := by decide +kernel
theorem d_Mo_minute_11 : decode b_Mo_minute 11 = .ok (.getfield 123, 3) := by decide +kernel
theorem d_Mo_minute_14 : decode b_Mo_minute 14 = .ok (.ifCond .ne 10, 3) := by decide +kernel
theorem d_Mo_minute_17 : decode b_Mo_minute 17 = .ok (.aload_n 0, 1) := by decide +kernel
theorem d_Mo_minute_18 : decode b_Mo_minute 18 = .ok (.iconst 0, 1) := by decide +kernel
theorem d_Mo_minute_19 : decode b_Mo_minute 19 = .ok (.invokevirtual 191, 3) := by decide +kernel
theorem d_Mo_minute_22 : decode b_Mo_minute 22 = .ok (.iconst 0, 1) := by decide +kernel
theorem d_Mo_minute_23 : decode b_Mo_minute 23 = .ok (.ireturn, 1) := by decide +kernel
theorem d_Mo_minute_24 : decode b_Mo_minute 24 = .ok (.aload_n 0, 1) := by decide +kernel
theorem d_Mo_minute_25 : decode b_Mo_minute 25 = .ok (.getfield 123, 3) := by decide +kernel
theorem d_Mo_minute_28 : decode b_Mo_minute 28 = .ok (.iconst 2, 1) := by decide +kernel
theorem d_Mo_minute_29 : decode b_Mo_minute 29 = .ok (.if_icmp .ne 39, 3) := by decide +kernel
theorem d_Mo_minute_32 : decode b_Mo_minute 32 = .ok (.aload_n 0, 1) := by decide +kernel
theorem d_Mo_minute_33 : decode b_Mo_minute 33 = .ok (.aload_n 0, 1) := by decide +kernel
theorem d_Mo_minute_34 : decode b_Mo_minute 34 = .ok (.getfield 68, 3) := by decide +kernel
theorem d_Mo_minute_37 : decode b_Mo_minute 37 = .ok (.invokevirtual 191, 3) := by decide +kernel
theorem d_Mo_minute_40 : decode b_Mo_minute 40 = .ok (.aload_n 0, 1) := by decide +kernel
theorem d_Mo_minute_41 : decode b_Mo_minute 41 = .ok (.dup, 1) := by decide +kernel
theorem d_Mo_minute_42 : decode b_Mo_minute 42 = .ok (.getfield 179, 3) := by decide +kernel
theorem d_Mo_minute_45 : decode b_Mo_minute 45 = .ok (.iconst 1, 1) := by decide +kernel
theorem d_Mo_minute_46 : decode b_Mo_minute 46 = .ok (.isub, 1) := by decide +kernel
theorem d_Mo_minute_47 : decode b_Mo_minute 47 = .ok (.putfield 179, 3) := by decide +kernel
theorem d_Mo_minute_50 : decode b_Mo_minute 50 = .ok (.aload_n 0, 1) := by decide +kernel
theorem d_Mo_minute_51 : decode b_Mo_minute 51 = .ok (.aload_n 0, 1) := by decide +kernel
theorem d_Mo_minute_52 : decode b_Mo_minute 52 = .ok (.getfield 179, 3) := by decide +kernel
theorem d_Mo_minute_55 : decode b_Mo_minute 55 = .ok (.ifCond .ne 7, 3) := by decide +kernel
theorem d_Mo_minute_58 : decode b_Mo_minute 58 = .ok (.iconst 0, 1) := by decide +kernel
theorem d_Mo_minute_59 : decode b_Mo_minute 59 = .ok (.goto 4, 3) := by decide +kernel
theorem d_Mo_minute_62 : decode b_Mo_minute 62 = .ok (.iconst 2, 1) := by decide +kernel
theorem d_Mo_minute_63 : decode b_Mo_minute 63 = .ok (.putfield 123, 3) := by decide +kernel
theorem d_Mo_minute_66 : decode b_Mo_minute 66 = .ok (.iconst 0, 1) := by decide +kernel
theorem d_Mo_minute_67 : decode b_Mo_minute 67 = .ok (.ireturn, 1) := by decide +kernel
theorem d_Mo_minute_68 : decode b_Mo_minute 68 = .ok (.aload_n 0, 1) := by decide +kernel
theorem d_Mo_minute_69 : decode b_Mo_minute 69 = .ok (.invokevirtual 195, 3) := by decide +kernel
theorem d_Mo_minute_72 : decode b_Mo_minute 72 = .ok (.aload_n 0, 1) := by decide +kernel
theorem d_Mo_minute_73 : decode b_Mo_minute 73 = .ok (.invokevirtual 182, 3) := by decide +kernel
theorem d_Mo_minute_76 : decode b_Mo_minute 76 = .ok (.aload_n 0, 1) := by decide +kernel
theorem d_Mo_minute_77 : decode b_Mo_minute 77 = .ok (.aload_n 0, 1) := by decide +kernel
theorem d_Mo_minute_78 : decode b_Mo_minute 78 = .ok (.getfield 55, 3) := by decide +kernel
theorem d_Mo_minute_81 : decode b_Mo_minute 81 = .ok (.aload_n 0, 1) := by decide +kernel
theorem d_Mo_minute_82 : decode b_Mo_minute 82 = .ok (.getfield 154, 3) := by decide +kernel
theorem d_Mo_minute_85 : decode b_Mo_minute 85 = .ok (.invokevirtual 157, 3) := by decide +kernel
theorem d_Mo_minute_88 : decode b_Mo_minute 88 = .ok (.ifCond .ne 9, 3) := by decide +kernel
theorem d_Mo_minute_91 : decode b_Mo_minute 91 = .ok (.aload_n 0, 1) := by decide +kernel
theorem d_Mo_minute_92 : decode b_Mo_minute 92 = .ok (.invokevirtual 188, 3) := by decide +kernel
theorem d_Mo_minute_95 : decode b_Mo_minute 95 = .ok (.iconst 0, 1) := by decide +kernel
theorem d_Mo_minute_96 : decode b_Mo_minute 96 = .ok (.ireturn, 1) := by decide +kernel
theorem d_Mo_minute_97 : decode b_Mo_minute 97 = .ok (.aload_n 0, 1) := by decide +kernel
theorem d_Mo_minute_98 : decode b_Mo_minute 98 = .ok (.invokevirtual 185, 3) := by decide +kernel
theorem d_Mo_minute_101 : decode b_Mo_minute 101 = .ok (.ireturn, 1) := by decide +kernel
theorem d_Mo_minutes_0 : decode b_Mo_minutes 0 = .ok (.aload_n 0, 1) := by decide +kernel
theorem d_Mo_minutes_1 : decode b_Mo_minutes 1 = .ok (.iload_n 1, 1) := by decide +kernel
theorem d_Mo_minutes_2 : decode b_Mo_minutes 2 = .ok (.ifCond .lt 9, 3) := by decide +kernel
theorem d_Mo_minutes_5 : decode b_Mo_minutes 5 = .ok (.iload_n 1, 1) := by decide +kernel
theorem d_Mo_minutes_6 : decode b_Mo_minutes 6 = .ok (.bipush 60, 2) := by decide +kernel
theorem d_Mo_minutes_8 : decode b_Mo_minutes 8 = .ok (.if_icmp .le 7, 3) := by decide +kernel
theorem d_Mo_minutes_11 : decode b_Mo_minutes 11 = .ok (.iconst 1, 1) := by decide +kernel
theorem d_Mo_minutes_12 : decode b_Mo_minutes 12 = .ok (.goto 4, 3) := by decide +kernel
theorem d_Mo_minutes_15 : decode b_Mo_minutes 15 = .ok (.iconst 0, 1) := by decide +kernel
theorem d_Mo_minutes_16 : decode b_Mo_minutes 16 = .ok (.iconst 0, 1) := by decide +kernel
theorem d_Mo_minutes_17 : decode b_Mo_minutes 17 = .ok (.invokevirtual 126, 3) := by decide +kernel
theorem d_Mo_minutes_20 : decode b_Mo_minutes 20 = .ok (.ifCond .eq 5, 3) := by decide +kernel
theorem d_Mo_minutes_23 : decode b_Mo_minutes 23 = .ok (.iconst 0, 1) := by decide +kernel
theorem d_Mo_minutes_24 : decode b_Mo_minutes 24 = .ok (.ireturn, 1) := by decide +kernel
theorem d_Mo_minutes_25 : decode b_Mo_minutes 25 = .ok (.iconst 0, 1) := by decide +kernel
theorem d_Mo_minutes_26 : decode b_Mo_minutes 26 = .ok (.istore_n 2, 1) := by decide +kernel
theorem d_Mo_minutes_27 : decode b_Mo_minutes 27 = .ok (.iconst 0, 1) := by decide +kernel
theorem d_Mo_minutes_28 : decode b_Mo_minutes 28 = .ok (.istore_n 3, 1) := by decide +kernel
theorem d_Mo_minutes_29 : decode b_Mo_minutes 29 = .ok (.iload_n 3, 1) := by decide +kernel
theorem d_Mo_minutes_30 : decode b_Mo_minutes 30 = .ok (.iload_n 1, 1) := by decide +kernel
theorem d_Mo_minutes_31 : decode b_Mo_minutes 31 = .ok (.if_icmp .ge 16, 3) := by decide +kernel
theorem d_Mo_minutes_34 : decode b_Mo_minutes 34 = .ok (.iload_n 2, 1) := by decide +kernel
theorem d_Mo_minutes_35 : decode b_Mo_minutes 35 = .ok (.aload_n 0, 1) := by decide +kernel
theorem d_Mo_minutes_36 : decode b_Mo_minutes 36 = .ok (.invokevirtual 198, 3) := by decide +kernel
theorem d_Mo_minutes_39 : decode b_Mo_minutes 39 = .ok (.iadd, 1) := by decide +kernel
theorem d_Mo_minutes_40 : decode b_Mo_minutes 40 = .ok (.istore_n 2, 1) := by decide +kernel
theorem d_Mo_minutes_41 : decode b_Mo_minutes 41 = .ok (.iinc 3 1, 3) := by decide +kernel
theorem d_Mo_minutes_44 : decode b_Mo_minutes 44 = .ok (.goto (-15), 3) := by decide +kernel
theorem d_Mo_minutes_47 : decode b_Mo_minutes 47 = .ok (.iload_n 2, 1) := by decide +kernel
theorem d_Mo_minutes_48 : decode b_Mo_minutes 48 = .ok (.ireturn, 1) := by decide +kernel
theorem d_Mo_isActivity_0 : decode b_Mo_isActivity 0 = .ok (.iload_n 1, 1) := by decide +kernel
theorem d_Mo_isActivity_1 : decode b_Mo_isActivity 1 = .ok (.ifCond .lt 15, 3) := by decide +kernel
theorem d_Mo_isActivity_4 : decode b_Mo_isActivity 4 = .ok (.iload_n 1, 1) := by decide +kernel
theorem d_Mo_isActivity_5 : decode b_Mo_isActivity 5 = .ok (.aload_n 0, 1) := by decide +kernel
theorem d_Mo_isActivity_6 : decode b_Mo_isActivity 6 = .ok (.getfield 120, 3) := by decide +kernel
theorem d_Mo_isActivity_9 : decode b_Mo_isActivity 9 = .ok (.if_icmp .ge 7, 3) := by decide +kernel
theorem d_Mo_isActivity_12 : decode b_Mo_isActivity 12 = .ok (.iconst 1, 1) := by decide +kernel
theorem d_Mo_isActivity_13 : decode b_Mo_isActivity 13 = .ok (.goto 4, 3) := by decide +kernel
theorem d_Mo_isActivity_16 : decode b_Mo_isActivity 16 = .ok (.iconst 0, 1) := by decide +kernel
theorem d_Mo_isActivity_17 : decode b_Mo_isActivity 17 = .ok (.ireturn, 1) := by decide +kernel
theorem d_Mo_lasts_0 : decode b_Mo_lasts 0 = .ok (.aload_n 0, 1) := by decide +kernel
theorem d_Mo_lasts_1 : decode b_Mo_lasts 1 = .ok (.aload_n 0, 1) := by decide +kernel
theorem d_Mo_lasts_2 : decode b_Mo_lasts 2 = .ok (.iload_n 1, 1) := by decide +kernel
theorem d_Mo_lasts_3 : decode b_Mo_lasts 3 = .ok (.invokevirtual 201, 3) := by decide +kernel
theorem d_Mo_lasts_6 : decode b_Mo_lasts 6 = .ok (.ifCond .ne 7, 3) := by decide +kernel
theorem d_Mo_lasts_9 : decode b_Mo_lasts 9 = .ok (.iconst 1, 1) := by decide +kernel
theorem d_Mo_lasts_10 : decode b_Mo_lasts 10 = .ok (.goto 4, 3) := by decide +kernel
theorem d_Mo_lasts_13 : decode b_Mo_lasts 13 = .ok (.iconst 0, 1) := by decide +kernel
theorem d_Mo_lasts_14 : decode b_Mo_lasts 14 = .ok (.iload_n 2, 1) := by decide +kernel
theorem d_Mo_lasts_15 : decode b_Mo_lasts 15 = .ok (.iconst 1, 1) := by decide +kernel
theorem d_Mo_lasts_16 : decode b_Mo_lasts 16 = .ok (.if_icmp .lt 9, 3) := by decide +kernel
theorem d_Mo_lasts_19 : decode b_Mo_lasts 19 = .ok (.iload_n 2, 1) := by decide +kernel
theorem d_Mo_lasts_20 : decode b_Mo_lasts 20 = .ok (.bipush 40, 2) := by decide +kernel
theorem d_Mo_lasts_22 : decode b_Mo_lasts 22 = .ok (.if_icmp .le 7, 3) := by decide +kernel
theorem d_Mo_lasts_25 : decode b_Mo_lasts 25 = .ok (.iconst 1, 1) := by decide +kernel
theorem d_Mo_lasts_26 : decode b_Mo_lasts 26 = .ok (.goto 4, 3) := by decide +kernel
theorem d_Mo_lasts_29 : decode b_Mo_lasts 29 = .ok (.iconst 0, 1) := by decide +kernel
theorem d_Mo_lasts_30 : decode b_Mo_lasts 30 = .ok (.invokevirtual 126, 3) := by decide +kernel
theorem d_Mo_lasts_33 : decode b_Mo_lasts 33 = .ok (.ifCond .ne 10, 3) := by decide +kernel
theorem d_Mo_lasts_36 : decode b_Mo_lasts 36 = .ok (.aload_n 0, 1) := by decide +kernel
theorem d_Mo_lasts_37 : decode b_Mo_lasts 37 = .ok (.getfield 49, 3) := by decide +kernel
theorem d_Mo_lasts_40 : decode b_Mo_lasts 40 = .ok (.iload_n 1, 1) := by decide +kernel
theorem d_Mo_lasts_41 : decode b_Mo_lasts 41 = .ok (.iload_n 2, 1) := by decide +kernel
theorem d_Mo_lasts_42 : decode b_Mo_lasts 42 = .ok (.iastore, 1) := by decide +kernel
theorem d_Mo_lasts_43 : decode b_Mo_lasts 43 = .ok (.return_, 1) := by decide +kernel
theorem d_Mo_draws_0 : decode b_Mo_draws 0 = .ok (.aload_n 0, 1) := by decide +kernel
theorem d_Mo_draws_1 : decode b_Mo_draws 1 = .ok (.aload_n 0, 1) := by decide +kernel
theorem d_Mo_draws_2 : decode b_Mo_draws 2 = .ok (.iload_n 1, 1) := by decide +kernel
theorem d_Mo_draws_3 : decode b_Mo_draws 3 = .ok (.invokevirtual 201, 3) := by decide +kernel
theorem d_Mo_draws_6 : decode b_Mo_draws 6 = .ok (.ifCond .ne 7, 3) := by decide +kernel
theorem d_Mo_draws_9 : decode b_Mo_draws 9 = .ok (.iconst 1, 1) := by decide +kernel
theorem d_Mo_draws_10 : decode b_Mo_draws 10 = .ok (.goto 4, 3) := by decide +kernel
theorem d_Mo_draws_13 : decode b_Mo_draws 13 = .ok (.iconst 0, 1) := by decide +kernel
theorem d_Mo_draws_14 : decode b_Mo_draws 14 = .ok (.iload_n 2, 1) := by decide +kernel
theorem d_Mo_draws_15 : decode b_Mo_draws 15 = .ok (.ifCond .lt 10, 3) := by decide +kernel
theorem d_Mo_draws_18 : decode b_Mo_draws 18 = .ok (.iload_n 2, 1) := by decide +kernel
theorem d_Mo_draws_19 : decode b_Mo_draws 19 = .ok (.sipush 200, 3) := by decide +kernel
theorem d_Mo_draws_22 : decode b_Mo_draws 22 = .ok (.if_icmp .le 7, 3) := by decide +kernel
theorem d_Mo_draws_25 : decode b_Mo_draws 25 = .ok (.iconst 1, 1) := by decide +kernel
theorem d_Mo_draws_26 : decode b_Mo_draws 26 = .ok (.goto 4, 3) := by decide +kernel
theorem d_Mo_draws_29 : decode b_Mo_draws 29 = .ok (.iconst 0, 1) := by decide +kernel
theorem d_Mo_draws_30 : decode b_Mo_draws 30 = .ok (.invokevirtual 126, 3) := by decide +kernel
theorem d_Mo_draws_33 : decode b_Mo_draws 33 = .ok (.ifCond .ne 10, 3) := by decide +kernel
theorem d_Mo_draws_36 : decode b_Mo_draws 36 = .ok (.aload_n 0, 1) := by decide +kernel
theorem d_Mo_draws_37 : decode b_Mo_draws 37 = .ok (.getfield 52, 3) := by decide +kernel
theorem d_Mo_draws_40 : decode b_Mo_draws 40 = .ok (.iload_n 1, 1) := by decide +kernel
theorem d_Mo_draws_41 : decode b_Mo_draws 41 = .ok (.iload_n 2, 1) := by decide +kernel
theorem d_Mo_draws_42 : decode b_Mo_draws 42 = .ok (.iastore, 1) := by decide +kernel
theorem d_Mo_draws_43 : decode b_Mo_draws 43 = .ok (.return_, 1) := by decide +kernel
theorem d_Mo_curve_0 : decode b_Mo_curve 0 = .ok (.aload_n 0, 1) := by decide +kernel
theorem d_Mo_curve_1 : decode b_Mo_curve 1 = .ok (.iload_n 1, 1) := by decide +kernel
theorem d_Mo_curve_2 : decode b_Mo_curve 2 = .ok (.ifCond .lt 9, 3) := by decide +kernel
theorem d_Mo_curve_5 : decode b_Mo_curve 5 = .ok (.iload_n 1, 1) := by decide +kernel
theorem d_Mo_curve_6 : decode b_Mo_curve 6 = .ok (.bipush 23, 2) := by decide +kernel
theorem d_Mo_curve_8 : decode b_Mo_curve 8 = .ok (.if_icmp .le 7, 3) := by decide +kernel
theorem d_Mo_curve_11 : decode b_Mo_curve 11 = .ok (.iconst 1, 1) := by decide +kernel
theorem d_Mo_curve_12 : decode b_Mo_curve 12 = .ok (.goto 4, 3) := by decide +kernel
theorem d_Mo_curve_15 : decode b_Mo_curve 15 = .ok (.iconst 0, 1) := by decide +kernel
theorem d_Mo_curve_16 : decode b_Mo_curve 16 = .ok (.iload_n 2, 1) := by decide +kernel
theorem d_Mo_curve_17 : decode b_Mo_curve 17 = .ok (.ifCond .lt 9, 3) := by decide +kernel
theorem d_Mo_curve_20 : decode b_Mo_curve 20 = .ok (.iload_n 2, 1) := by decide +kernel
theorem d_Mo_curve_21 : decode b_Mo_curve 21 = .ok (.bipush 50, 2) := by decide +kernel
theorem d_Mo_curve_23 : decode b_Mo_curve 23 = .ok (.if_icmp .le 7, 3) := by decide +kernel
theorem d_Mo_curve_26 : decode b_Mo_curve 26 = .ok (.iconst 1, 1) := by decide +kernel
theorem d_Mo_curve_27 : decode b_Mo_curve 27 = .ok (.goto 4, 3) := by decide +kernel
theorem d_Mo_curve_30 : decode b_Mo_curve 30 = .ok (.iconst 0, 1) := by decide +kernel
theorem d_Mo_curve_31 : decode b_Mo_curve 31 = .ok (.invokevirtual 126, 3) := by decide +kernel
theorem d_Mo_curve_34 : decode b_Mo_curve 34 = .ok (.ifCond .ne 10, 3) := by decide +kernel
theorem d_Mo_curve_37 : decode b_Mo_curve 37 = .ok (.aload_n 0, 1) := by decide +kernel
theorem d_Mo_curve_38 : decode b_Mo_curve 38 = .ok (.getfield 59, 3) := by decide +kernel
theorem d_Mo_curve_41 : decode b_Mo_curve 41 = .ok (.iload_n 1, 1) := by decide +kernel
theorem d_Mo_curve_42 : decode b_Mo_curve 42 = .ok (.iload_n 2, 1) := by decide +kernel
theorem d_Mo_curve_43 : decode b_Mo_curve 43 = .ok (.iastore, 1) := by decide +kernel
theorem d_Mo_curve_44 : decode b_Mo_curve 44 = .ok (.return_, 1) := by decide +kernel
theorem d_Mo_gain_0 : decode b_Mo_gain 0 = .ok (.aload_n 0, 1) := by decide +kernel
theorem d_Mo_gain_1 : decode b_Mo_gain 1 = .ok (.iload_n 1, 1) := by decide +kernel
theorem d_Mo_gain_2 : decode b_Mo_gain 2 = .ok (.iconst (-1), 1) := by decide +kernel
theorem d_Mo_gain_3 : decode b_Mo_gain 3 = .ok (.if_icmp .lt 9, 3) := by decide +kernel
theorem d_Mo_gain_6 : decode b_Mo_gain 6 = .ok (.iload_n 1, 1) := by decide +kernel
theorem d_Mo_gain_7 : decode b_Mo_gain 7 = .ok (.bipush 100, 2) := by decide +kernel
theorem d_Mo_gain_9 : decode b_Mo_gain 9 = .ok (.if_icmp .le 7, 3) := by decide +kernel
theorem d_Mo_gain_12 : decode b_Mo_gain 12 = .ok (.iconst 1, 1) := by decide +kernel
theorem d_Mo_gain_13 : decode b_Mo_gain 13 = .ok (.goto 4, 3) := by decide +kernel
theorem d_Mo_gain_16 : decode b_Mo_gain 16 = .ok (.iconst 0, 1) := by decide +kernel
theorem d_Mo_gain_17 : decode b_Mo_gain 17 = .ok (.iconst 0, 1) := by decide +kernel
theorem d_Mo_gain_18 : decode b_Mo_gain 18 = .ok (.invokevirtual 126, 3) := by decide +kernel
theorem d_Mo_gain_21 : decode b_Mo_gain 21 = .ok (.ifCond .ne 8, 3) := by decide +kernel
theorem d_Mo_gain_24 : decode b_Mo_gain 24 = .ok (.aload_n 0, 1) := by decide +kernel
theorem d_Mo_gain_25 : decode b_Mo_gain 25 = .ok (.iload_n 1, 1) := by decide +kernel
theorem d_Mo_gain_26 : decode b_Mo_gain 26 = .ok (.putfield 62, 3) := by decide +kernel
theorem d_Mo_gain_29 : decode b_Mo_gain 29 = .ok (.return_, 1) := by decide +kernel
theorem d_Mo_home_0 : decode b_Mo_home 0 = .ok (.aload_n 0, 1) := by decide +kernel
theorem d_Mo_home_1 : decode b_Mo_home 1 = .ok (.iload_n 1, 1) := by decide +kernel
theorem d_Mo_home_2 : decode b_Mo_home 2 = .ok (.iconst 1, 1) := by decide +kernel
theorem d_Mo_home_3 : decode b_Mo_home 3 = .ok (.if_icmp .lt 19, 3) := by decide +kernel
theorem d_Mo_home_6 : decode b_Mo_home 6 = .ok (.iload_n 1, 1) := by decide +kernel
theorem d_Mo_home_7 : decode b_Mo_home 7 = .ok (.bipush 20, 2) := by decide +kernel
theorem d_Mo_home_9 : decode b_Mo_home 9 = .ok (.if_icmp .gt 13, 3) := by decide +kernel
theorem d_Mo_home_12 : decode b_Mo_home 12 = .ok (.iload_n 2, 1) := by decide +kernel
theorem d_Mo_home_13 : decode b_Mo_home 13 = .ok (.ifCond .lt 9, 3) := by decide +kernel
theorem d_Mo_home_16 : decode b_Mo_home 16 = .ok (.iload_n 2, 1) := by decide +kernel
theorem d_Mo_home_17 : decode b_Mo_home 17 = .ok (.bipush 99, 2) := by decide +kernel
theorem d_Mo_home_19 : decode b_Mo_home 19 = .ok (.if_icmp .le 7, 3) := by decide +kernel
theorem d_Mo_home_22 : decode b_Mo_home 22 = .ok (.iconst 1, 1) := by decide +kernel
theorem d_Mo_home_23 : decode b_Mo_home 23 = .ok (.goto 4, 3) := by decide +kernel
theorem d_Mo_home_26 : decode b_Mo_home 26 = .ok (.iconst 0, 1) := by decide +kernel
theorem d_Mo_home_27 : decode b_Mo_home 27 = .ok (.aload_n 0, 1) := by decide +kernel
theorem d_Mo_home_28 : decode b_Mo_home 28 = .ok (.getfield 123, 3) := by decide +kernel
theorem d_Mo_home_31 : decode b_Mo_home 31 = .ok (.ifCond .eq 7, 3) := by decide +kernel
theorem d_Mo_home_34 : decode b_Mo_home 34 = .ok (.iconst 1, 1) := by decide +kernel
theorem d_Mo_home_35 : decode b_Mo_home 35 = .ok (.goto 4, 3) := by decide +kernel
theorem d_Mo_home_38 : decode b_Mo_home 38 = .ok (.iconst 0, 1) := by decide +kernel
theorem d_Mo_home_39 : decode b_Mo_home 39 = .ok (.invokevirtual 126, 3) := by decide +kernel
theorem d_Mo_home_42 : decode b_Mo_home 42 = .ok (.ifCond .ne 13, 3) := by decide +kernel
theorem d_Mo_home_45 : decode b_Mo_home 45 = .ok (.aload_n 0, 1) := by decide +kernel
theorem d_Mo_home_46 : decode b_Mo_home 46 = .ok (.iload_n 1, 1) := by decide +kernel
theorem d_Mo_home_47 : decode b_Mo_home 47 = .ok (.putfield 65, 3) := by decide +kernel
theorem d_Mo_home_50 : decode b_Mo_home 50 = .ok (.aload_n 0, 1) := by decide +kernel
theorem d_Mo_home_51 : decode b_Mo_home 51 = .ok (.iload_n 2, 1) := by decide +kernel
theorem d_Mo_home_52 : decode b_Mo_home 52 = .ok (.putfield 68, 3) := by decide +kernel
theorem d_Mo_home_55 : decode b_Mo_home 55 = .ok (.return_, 1) := by decide +kernel
theorem d_Mo_fill_0 : decode b_Mo_fill 0 = .ok (.aload_n 0, 1) := by decide +kernel
theorem d_Mo_fill_1 : decode b_Mo_fill 1 = .ok (.iload_n 1, 1) := by decide +kernel
theorem d_Mo_fill_2 : decode b_Mo_fill 2 = .ok (.ifCond .lt 21, 3) := by decide +kernel
theorem d_Mo_fill_5 : decode b_Mo_fill 5 = .ok (.iload_n 1, 1) := by decide +kernel
theorem d_Mo_fill_6 : decode b_Mo_fill 6 = .ok (.sipush 1000, 3) := by decide +kernel
theorem d_Mo_fill_9 : decode b_Mo_fill 9 = .ok (.if_icmp .gt 14, 3) := by decide +kernel
theorem d_Mo_fill_12 : decode b_Mo_fill 12 = .ok (.iload_n 2, 1) := by decide +kernel
theorem d_Mo_fill_13 : decode b_Mo_fill 13 = .ok (.ifCond .lt 10, 3) := by decide +kernel
theorem d_Mo_fill_16 : decode b_Mo_fill 16 = .ok (.iload_n 2, 1) := by decide +kernel
theorem d_Mo_fill_17 : decode b_Mo_fill 17 = .ok (.sipush 500, 3) := by decide +kernel
theorem d_Mo_fill_20 : decode b_Mo_fill 20 = .ok (.if_icmp .le 7, 3) := by decide +kernel
theorem d_Mo_fill_23 : decode b_Mo_fill 23 = .ok (.iconst 1, 1) := by decide +kernel
theorem d_Mo_fill_24 : decode b_Mo_fill 24 = .ok (.goto 4, 3) := by decide +kernel
theorem d_Mo_fill_27 : decode b_Mo_fill 27 = .ok (.iconst 0, 1) := by decide +kernel
theorem d_Mo_fill_28 : decode b_Mo_fill 28 = .ok (.aload_n 0, 1) := by decide +kernel
theorem d_Mo_fill_29 : decode b_Mo_fill 29 = .ok (.getfield 123, 3) := by decide +kernel
theorem d_Mo_fill_32 : decode b_Mo_fill 32 = .ok (.ifCond .eq 7, 3) := by decide +kernel
theorem d_Mo_fill_35 : decode b_Mo_fill 35 = .ok (.iconst 1, 1) := by decide +kernel
theorem d_Mo_fill_36 : decode b_Mo_fill 36 = .ok (.goto 4, 3) := by decide +kernel
theorem d_Mo_fill_39 : decode b_Mo_fill 39 = .ok (.iconst 0, 1) := by decide +kernel
theorem d_Mo_fill_40 : decode b_Mo_fill 40 = .ok (.invokevirtual 126, 3) := by decide +kernel
theorem d_Mo_fill_43 : decode b_Mo_fill 43 = .ok (.ifCond .ne 13, 3) := by decide +kernel
theorem d_Mo_fill_46 : decode b_Mo_fill 46 = .ok (.aload_n 0, 1) := by decide +kernel
theorem d_Mo_fill_47 : decode b_Mo_fill 47 = .ok (.iload_n 1, 1) := by decide +kernel
theorem d_Mo_fill_48 : decode b_Mo_fill 48 = .ok (.putfield 55, 3) := by decide +kernel
theorem d_Mo_fill_51 : decode b_Mo_fill 51 = .ok (.aload_n 0, 1) := by decide +kernel
theorem d_Mo_fill_52 : decode b_Mo_fill 52 = .ok (.iload_n 2, 1) := by decide +kernel
theorem d_Mo_fill_53 : decode b_Mo_fill 53 = .ok (.putfield 151, 3) := by decide +kernel
theorem d_Mo_fill_56 : decode b_Mo_fill 56 = .ok (.return_, 1) := by decide +kernel
theorem d_Mo_now_0 : decode b_Mo_now 0 = .ok (.aload_n 0, 1) := by decide +kernel
theorem d_Mo_now_1 : decode b_Mo_now 1 = .ok (.iconst 0, 1) := by decide +kernel
theorem d_Mo_now_2 : decode b_Mo_now 2 = .ok (.putfield 74, 3) := by decide +kernel
theorem d_Mo_now_5 : decode b_Mo_now 5 = .ok (.aload_n 0, 1) := by decide +kernel
theorem d_Mo_now_6 : decode b_Mo_now 6 = .ok (.getfield 154, 3) := by decide +kernel
theorem d_Mo_now_9 : decode b_Mo_now 9 = .ok (.ireturn, 1) := by decide +kernel
theorem d_Mo_mode_0 : decode b_Mo_mode 0 = .ok (.aload_n 0, 1) := by decide +kernel
theorem d_Mo_mode_1 : decode b_Mo_mode 1 = .ok (.iconst 0, 1) := by decide +kernel
theorem d_Mo_mode_2 : decode b_Mo_mode 2 = .ok (.putfield 74, 3) := by decide +kernel
theorem d_Mo_mode_5 : decode b_Mo_mode 5 = .ok (.aload_n 0, 1) := by decide +kernel
theorem d_Mo_mode_6 : decode b_Mo_mode 6 = .ok (.getfield 123, 3) := by decide +kernel
theorem d_Mo_mode_9 : decode b_Mo_mode 9 = .ok (.ireturn, 1) := by decide +kernel
theorem d_Mo_heatNow_0 : decode b_Mo_heatNow 0 = .ok (.iconst 0, 1) := by decide +kernel
theorem d_Mo_heatNow_1 : decode b_Mo_heatNow 1 = .ok (.istore_n 1, 1) := by decide +kernel
theorem d_Mo_heatNow_2 : decode b_Mo_heatNow 2 = .ok (.iconst 0, 1) := by decide +kernel
theorem d_Mo_heatNow_3 : decode b_Mo_heatNow 3 = .ok (.istore_n 2, 1) := by decide +kernel
theorem d_Mo_heatNow_4 : decode b_Mo_heatNow 4 = .ok (.iload_n 2, 1) := by decide +kernel
theorem d_Mo_heatNow_5 : decode b_Mo_heatNow 5 = .ok (.aload_n 0, 1) := by decide +kernel
theorem d_Mo_heatNow_6 : decode b_Mo_heatNow 6 = .ok (.getfield 120, 3) := by decide +kernel
theorem d_Mo_heatNow_9 : decode b_Mo_heatNow 9 = .ok (.if_icmp .ge 35, 3) := by decide +kernel
theorem d_Mo_heatNow_12 : decode b_Mo_heatNow 12 = .ok (.aload_n 0, 1) := by decide +kernel
theorem d_Mo_heatNow_13 : decode b_Mo_heatNow 13 = .ok (.getfield 28, 3) := by decide +kernel
theorem d_Mo_heatNow_16 : decode b_Mo_heatNow 16 = .ok (.iload_n 2, 1) := by decide +kernel
theorem d_Mo_heatNow_17 : decode b_Mo_heatNow 17 = .ok (.iaload, 1) := by decide +kernel
end
section
theorem d_Mo_heatNow_18 : decode b_Mo_heatNow 18 = .ok (.iconst 1, 1) := by decide +kernel
theorem d_Mo_heatNow_19 : decode b_Mo_heatNow 19 = .ok (.if_icmp .ne 17, 3) := by decide +kernel
theorem d_Mo_heatNow_22 : decode b_Mo_heatNow 22 = .ok (.iload_n 1, 1) := by decide +kernel
theorem d_Mo_heatNow_23 : decode b_Mo_heatNow 23 = .ok (.aload_n 0, 1) := by decide +kernel
theorem d_Mo_heatNow_24 : decode b_Mo_heatNow 24 = .ok (.getfield 22, 3) := by decide +kernel
theorem d_Mo_heatNow_27 : decode b_Mo_heatNow 27 = .ok (.bipush 32, 2) := by decide +kernel
theorem d_Mo_heatNow_29 : decode b_Mo_heatNow 29 = .ok (.iload_n 2, 1) := by decide +kernel
theorem d_Mo_heatNow_30 : decode b_Mo_heatNow 30 = .ok (.iadd, 1) := by decide +kernel
theorem d_Mo_heatNow_31 : decode b_Mo_heatNow 31 = .ok (.iaload, 1) := by decide +kernel
theorem d_Mo_heatNow_32 : decode b_Mo_heatNow 32 = .ok (.iadd, 1) := by decide +kernel
theorem d_Mo_heatNow_33 : decode b_Mo_heatNow 33 = .ok (.goto 4, 3) := by decide +kernel
theorem d_Mo_heatNow_36 : decode b_Mo_heatNow 36 = .ok (.iload_n 1, 1) := by decide +kernel
theorem d_Mo_heatNow_37 : decode b_Mo_heatNow 37 = .ok (.istore_n 1, 1) := by decide +kernel
theorem d_Mo_heatNow_38 : decode b_Mo_heatNow 38 = .ok (.iinc 2 1, 3) := by decide +kernel
theorem d_Mo_heatNow_41 : decode b_Mo_heatNow 41 = .ok (.goto (-37), 3) := by decide +kernel
theorem d_Mo_heatNow_44 : decode b_Mo_heatNow 44 = .ok (.iload_n 1, 1) := by decide +kernel
theorem d_Mo_heatNow_45 : decode b_Mo_heatNow 45 = .ok (.ireturn, 1) := by decide +kernel
theorem d_Mo_level_0 : decode b_Mo_level 0 = .ok (.aload_n 0, 1) := by decide +kernel
theorem d_Mo_level_1 : decode b_Mo_level 1 = .ok (.iload_n 1, 1) := by decide +kernel
theorem d_Mo_level_2 : decode b_Mo_level 2 = .ok (.ifCond .lt 8, 3) := by decide +kernel
theorem d_Mo_level_5 : decode b_Mo_level 5 = .ok (.iload_n 1, 1) := by decide +kernel
theorem d_Mo_level_6 : decode b_Mo_level 6 = .ok (.iconst 2, 1) := by decide +kernel
theorem d_Mo_level_7 : decode b_Mo_level 7 = .ok (.if_icmp .le 7, 3) := by decide +kernel
theorem d_Mo_level_10 : decode b_Mo_level 10 = .ok (.iconst 1, 1) := by decide +kernel
theorem d_Mo_level_11 : decode b_Mo_level 11 = .ok (.goto 4, 3) := by decide +kernel
theorem d_Mo_level_14 : decode b_Mo_level 14 = .ok (.iconst 0, 1) := by decide +kernel
theorem d_Mo_level_15 : decode b_Mo_level 15 = .ok (.iconst 0, 1) := by decide +kernel
theorem d_Mo_level_16 : decode b_Mo_level 16 = .ok (.invokevirtual 126, 3) := by decide +kernel
theorem d_Mo_level_19 : decode b_Mo_level 19 = .ok (.ifCond .eq 5, 3) := by decide +kernel
theorem d_Mo_level_22 : decode b_Mo_level 22 = .ok (.iconst 0, 1) := by decide +kernel
theorem d_Mo_level_23 : decode b_Mo_level 23 = .ok (.ireturn, 1) := by decide +kernel
theorem d_Mo_level_24 : decode b_Mo_level 24 = .ok (.iload_n 1, 1) := by decide +kernel
theorem d_Mo_level_25 : decode b_Mo_level 25 = .ok (.ifCond .ne 10, 3) := by decide +kernel
theorem d_Mo_level_28 : decode b_Mo_level 28 = .ok (.aload_n 0, 1) := by decide +kernel
theorem d_Mo_level_29 : decode b_Mo_level 29 = .ok (.getfield 55, 3) := by decide +kernel
theorem d_Mo_level_32 : decode b_Mo_level 32 = .ok (.goto 19, 3) := by decide +kernel
theorem d_Mo_level_35 : decode b_Mo_level 35 = .ok (.iload_n 1, 1) := by decide +kernel
theorem d_Mo_level_36 : decode b_Mo_level 36 = .ok (.iconst 1, 1) := by decide +kernel
theorem d_Mo_level_37 : decode b_Mo_level 37 = .ok (.if_icmp .ne 10, 3) := by decide +kernel
theorem d_Mo_level_40 : decode b_Mo_level 40 = .ok (.aload_n 0, 1) := by decide +kernel
theorem d_Mo_level_41 : decode b_Mo_level 41 = .ok (.getfield 151, 3) := by decide +kernel
theorem d_Mo_level_44 : decode b_Mo_level 44 = .ok (.goto 7, 3) := by decide +kernel
theorem d_Mo_level_47 : decode b_Mo_level 47 = .ok (.aload_n 0, 1) := by decide +kernel
theorem d_Mo_level_48 : decode b_Mo_level 48 = .ok (.invokevirtual 204, 3) := by decide +kernel
theorem d_Mo_level_51 : decode b_Mo_level 51 = .ok (.ireturn, 1) := by decide +kernel
theorem d_Mo_reserve_0 : decode b_Mo_reserve 0 = .ok (.aload_n 0, 1) := by decide +kernel
theorem d_Mo_reserve_1 : decode b_Mo_reserve 1 = .ok (.iconst 0, 1) := by decide +kernel
theorem d_Mo_reserve_2 : decode b_Mo_reserve 2 = .ok (.putfield 74, 3) := by decide +kernel
theorem d_Mo_reserve_5 : decode b_Mo_reserve 5 = .ok (.iconst 0, 1) := by decide +kernel
theorem d_Mo_reserve_6 : decode b_Mo_reserve 6 = .ok (.istore_n 1, 1) := by decide +kernel
theorem d_Mo_reserve_7 : decode b_Mo_reserve 7 = .ok (.iload_n 1, 1) := by decide +kernel
theorem d_Mo_reserve_8 : decode b_Mo_reserve 8 = .ok (.sipush 1000, 3) := by decide +kernel
theorem d_Mo_reserve_11 : decode b_Mo_reserve 11 = .ok (.if_icmp .gt 23, 3) := by decide +kernel
theorem d_Mo_reserve_14 : decode b_Mo_reserve 14 = .ok (.aload_n 0, 1) := by decide +kernel
theorem d_Mo_reserve_15 : decode b_Mo_reserve 15 = .ok (.iload_n 1, 1) := by decide +kernel
theorem d_Mo_reserve_16 : decode b_Mo_reserve 16 = .ok (.aload_n 0, 1) := by decide +kernel
theorem d_Mo_reserve_17 : decode b_Mo_reserve 17 = .ok (.getfield 154, 3) := by decide +kernel
theorem d_Mo_reserve_20 : decode b_Mo_reserve 20 = .ok (.invokevirtual 157, 3) := by decide +kernel
theorem d_Mo_reserve_23 : decode b_Mo_reserve 23 = .ok (.ifCond .eq 5, 3) := by decide +kernel
theorem d_Mo_reserve_26 : decode b_Mo_reserve 26 = .ok (.iload_n 1, 1) := by decide +kernel
theorem d_Mo_reserve_27 : decode b_Mo_reserve 27 = .ok (.ireturn, 1) := by decide +kernel
theorem d_Mo_reserve_28 : decode b_Mo_reserve 28 = .ok (.iinc 1 1, 3) := by decide +kernel
theorem d_Mo_reserve_31 : decode b_Mo_reserve 31 = .ok (.goto (-24), 3) := by decide +kernel
theorem d_Mo_reserve_34 : decode b_Mo_reserve 34 = .ok (.iconst (-1), 1) := by decide +kernel
theorem d_Mo_reserve_35 : decode b_Mo_reserve 35 = .ok (.ireturn, 1) := by decide +kernel
theorem d_Mo_activities_0 : decode b_Mo_activities 0 = .ok (.aload_n 0, 1) := by decide +kernel
theorem d_Mo_activities_1 : decode b_Mo_activities 1 = .ok (.iconst 0, 1) := by decide +kernel
theorem d_Mo_activities_2 : decode b_Mo_activities 2 = .ok (.putfield 74, 3) := by decide +kernel
theorem d_Mo_activities_5 : decode b_Mo_activities 5 = .ok (.aload_n 0, 1) := by decide +kernel
theorem d_Mo_activities_6 : decode b_Mo_activities 6 = .ok (.getfield 120, 3) := by decide +kernel
theorem d_Mo_activities_9 : decode b_Mo_activities 9 = .ok (.ireturn, 1) := by decide +kernel
theorem d_Mo_activity_0 : decode b_Mo_activity 0 = .ok (.aload_n 0, 1) := by decide +kernel
theorem d_Mo_activity_1 : decode b_Mo_activity 1 = .ok (.aload_n 0, 1) := by decide +kernel
theorem d_Mo_activity_2 : decode b_Mo_activity 2 = .ok (.iload_n 1, 1) := by decide +kernel
theorem d_Mo_activity_3 : decode b_Mo_activity 3 = .ok (.invokevirtual 201, 3) := by decide +kernel
theorem d_Mo_activity_6 : decode b_Mo_activity 6 = .ok (.ifCond .eq 12, 3) := by decide +kernel
theorem d_Mo_activity_9 : decode b_Mo_activity 9 = .ok (.iload_n 2, 1) := by decide +kernel
theorem d_Mo_activity_10 : decode b_Mo_activity 10 = .ok (.ifCond .lt 8, 3) := by decide +kernel
theorem d_Mo_activity_13 : decode b_Mo_activity 13 = .ok (.iload_n 2, 1) := by decide +kernel
theorem d_Mo_activity_14 : decode b_Mo_activity 14 = .ok (.iconst 5, 1) := by decide +kernel
theorem d_Mo_activity_15 : decode b_Mo_activity 15 = .ok (.if_icmp .le 7, 3) := by decide +kernel
theorem d_Mo_activity_18 : decode b_Mo_activity 18 = .ok (.iconst 1, 1) := by decide +kernel
theorem d_Mo_activity_19 : decode b_Mo_activity 19 = .ok (.goto 4, 3) := by decide +kernel
theorem d_Mo_activity_22 : decode b_Mo_activity 22 = .ok (.iconst 0, 1) := by decide +kernel
theorem d_Mo_activity_23 : decode b_Mo_activity 23 = .ok (.iconst 0, 1) := by decide +kernel
theorem d_Mo_activity_24 : decode b_Mo_activity 24 = .ok (.invokevirtual 126, 3) := by decide +kernel
theorem d_Mo_activity_27 : decode b_Mo_activity 27 = .ok (.ifCond .eq 5, 3) := by decide +kernel
theorem d_Mo_activity_30 : decode b_Mo_activity 30 = .ok (.iconst 0, 1) := by decide +kernel
theorem d_Mo_activity_31 : decode b_Mo_activity 31 = .ok (.ireturn, 1) := by decide +kernel
theorem d_Mo_activity_32 : decode b_Mo_activity 32 = .ok (.iload_n 2, 1) := by decide +kernel
theorem d_Mo_activity_33 : decode b_Mo_activity 33 = .ok (.tableswitch 70 0 4 #[35, 42, 49, 56, 63], 35) := by decide +kernel
theorem d_Mo_activity_68 : decode b_Mo_activity 68 = .ok (.aload_n 0, 1) := by decide +kernel
theorem d_Mo_activity_69 : decode b_Mo_activity 69 = .ok (.getfield 28, 3) := by decide +kernel
theorem d_Mo_activity_72 : decode b_Mo_activity 72 = .ok (.iload_n 1, 1) := by decide +kernel
theorem d_Mo_activity_73 : decode b_Mo_activity 73 = .ok (.iaload, 1) := by decide +kernel
theorem d_Mo_activity_74 : decode b_Mo_activity 74 = .ok (.ireturn, 1) := by decide +kernel
theorem d_Mo_activity_75 : decode b_Mo_activity 75 = .ok (.aload_n 0, 1) := by decide +kernel
theorem d_Mo_activity_76 : decode b_Mo_activity 76 = .ok (.getfield 31, 3) := by decide +kernel
theorem d_Mo_activity_79 : decode b_Mo_activity 79 = .ok (.iload_n 1, 1) := by decide +kernel
theorem d_Mo_activity_80 : decode b_Mo_activity 80 = .ok (.iaload, 1) := by decide +kernel
theorem d_Mo_activity_81 : decode b_Mo_activity 81 = .ok (.ireturn, 1) := by decide +kernel
theorem d_Mo_activity_82 : decode b_Mo_activity 82 = .ok (.aload_n 0, 1) := by decide +kernel
theorem d_Mo_activity_83 : decode b_Mo_activity 83 = .ok (.getfield 34, 3) := by decide +kernel
theorem d_Mo_activity_86 : decode b_Mo_activity 86 = .ok (.iload_n 1, 1) := by decide +kernel
theorem d_Mo_activity_87 : decode b_Mo_activity 87 = .ok (.iaload, 1) := by decide +kernel
theorem d_Mo_activity_88 : decode b_Mo_activity 88 = .ok (.ireturn, 1) := by decide +kernel
theorem d_Mo_activity_89 : decode b_Mo_activity 89 = .ok (.aload_n 0, 1) := by decide +kernel
theorem d_Mo_activity_90 : decode b_Mo_activity 90 = .ok (.getfield 37, 3) := by decide +kernel
theorem d_Mo_activity_93 : decode b_Mo_activity 93 = .ok (.iload_n 1, 1) := by decide +kernel
theorem d_Mo_activity_94 : decode b_Mo_activity 94 = .ok (.iaload, 1) := by decide +kernel
theorem d_Mo_activity_95 : decode b_Mo_activity 95 = .ok (.ireturn, 1) := by decide +kernel
theorem d_Mo_activity_96 : decode b_Mo_activity 96 = .ok (.aload_n 0, 1) := by decide +kernel
theorem d_Mo_activity_97 : decode b_Mo_activity 97 = .ok (.getfield 40, 3) := by decide +kernel
theorem d_Mo_activity_100 : decode b_Mo_activity 100 = .ok (.iload_n 1, 1) := by decide +kernel
theorem d_Mo_activity_101 : decode b_Mo_activity 101 = .ok (.iaload, 1) := by decide +kernel
theorem d_Mo_activity_102 : decode b_Mo_activity 102 = .ok (.ireturn, 1) := by decide +kernel
theorem d_Mo_activity_103 : decode b_Mo_activity 103 = .ok (.aload_n 0, 1) := by decide +kernel
theorem d_Mo_activity_104 : decode b_Mo_activity 104 = .ok (.getfield 25, 3) := by decide +kernel
theorem d_Mo_activity_107 : decode b_Mo_activity 107 = .ok (.iload_n 1, 1) := by decide +kernel
theorem d_Mo_activity_108 : decode b_Mo_activity 108 = .ok (.iaload, 1) := by decide +kernel
theorem d_Mo_activity_109 : decode b_Mo_activity 109 = .ok (.ireturn, 1) := by decide +kernel
theorem d_Mo_lowest_0 : decode b_Mo_lowest 0 = .ok (.aload_n 0, 1) := by decide +kernel
theorem d_Mo_lowest_1 : decode b_Mo_lowest 1 = .ok (.iconst 0, 1) := by decide +kernel
theorem d_Mo_lowest_2 : decode b_Mo_lowest 2 = .ok (.putfield 74, 3) := by decide +kernel
theorem d_Mo_lowest_5 : decode b_Mo_lowest 5 = .ok (.aload_n 0, 1) := by decide +kernel
theorem d_Mo_lowest_6 : decode b_Mo_lowest 6 = .ok (.getfield 55, 3) := by decide +kernel
theorem d_Mo_lowest_9 : decode b_Mo_lowest 9 = .ok (.istore_n 1, 1) := by decide +kernel
theorem d_Mo_lowest_10 : decode b_Mo_lowest 10 = .ok (.aload_n 0, 1) := by decide +kernel
theorem d_Mo_lowest_11 : decode b_Mo_lowest 11 = .ok (.getfield 55, 3) := by decide +kernel
theorem d_Mo_lowest_14 : decode b_Mo_lowest 14 = .ok (.istore_n 2, 1) := by decide +kernel
theorem d_Mo_lowest_15 : decode b_Mo_lowest 15 = .ok (.iconst 1, 1) := by decide +kernel
theorem d_Mo_lowest_16 : decode b_Mo_lowest 16 = .ok (.istore_n 3, 1) := by decide +kernel
theorem d_Mo_lowest_17 : decode b_Mo_lowest 17 = .ok (.iload_n 3, 1) := by decide +kernel
theorem d_Mo_lowest_18 : decode b_Mo_lowest 18 = .ok (.bipush 30, 2) := by decide +kernel
theorem d_Mo_lowest_20 : decode b_Mo_lowest 20 = .ok (.if_icmp .gt 47, 3) := by decide +kernel
theorem d_Mo_lowest_23 : decode b_Mo_lowest 23 = .ok (.aload_n 0, 1) := by decide +kernel
theorem d_Mo_lowest_24 : decode b_Mo_lowest 24 = .ok (.iload_n 3, 1) := by decide +kernel
theorem d_Mo_lowest_25 : decode b_Mo_lowest 25 = .ok (.iconst (-1), 1) := by decide +kernel
theorem d_Mo_lowest_26 : decode b_Mo_lowest 26 = .ok (.invokevirtual 160, 3) := by decide +kernel
theorem d_Mo_lowest_29 : decode b_Mo_lowest 29 = .ok (.ifCond .lt 38, 3) := by decide +kernel
theorem d_Mo_lowest_32 : decode b_Mo_lowest 32 = .ok (.aload_n 0, 1) := by decide +kernel
theorem d_Mo_lowest_33 : decode b_Mo_lowest 33 = .ok (.iload_n 1, 1) := by decide +kernel
theorem d_Mo_lowest_34 : decode b_Mo_lowest 34 = .ok (.aload_n 0, 1) := by decide +kernel
theorem d_Mo_lowest_35 : decode b_Mo_lowest 35 = .ok (.getfield 154, 3) := by decide +kernel
theorem d_Mo_lowest_38 : decode b_Mo_lowest 38 = .ok (.iload_n 3, 1) := by decide +kernel
theorem d_Mo_lowest_39 : decode b_Mo_lowest 39 = .ok (.iadd, 1) := by decide +kernel
theorem d_Mo_lowest_40 : decode b_Mo_lowest 40 = .ok (.aload_n 0, 1) := by decide +kernel
theorem d_Mo_lowest_41 : decode b_Mo_lowest 41 = .ok (.iload_n 3, 1) := by decide +kernel
theorem d_Mo_lowest_42 : decode b_Mo_lowest 42 = .ok (.iconst (-1), 1) := by decide +kernel
theorem d_Mo_lowest_43 : decode b_Mo_lowest 43 = .ok (.invokevirtual 160, 3) := by decide +kernel
theorem d_Mo_lowest_46 : decode b_Mo_lowest 46 = .ok (.invokevirtual 139, 3) := by decide +kernel
theorem d_Mo_lowest_49 : decode b_Mo_lowest 49 = .ok (.istore_n 1, 1) := by decide +kernel
theorem d_Mo_lowest_50 : decode b_Mo_lowest 50 = .ok (.iload_n 1, 1) := by decide +kernel
theorem d_Mo_lowest_51 : decode b_Mo_lowest 51 = .ok (.iload_n 2, 1) := by decide +kernel
theorem d_Mo_lowest_52 : decode b_Mo_lowest 52 = .ok (.if_icmp .ge 7, 3) := by decide +kernel
theorem d_Mo_lowest_55 : decode b_Mo_lowest 55 = .ok (.iload_n 1, 1) := by decide +kernel
theorem d_Mo_lowest_56 : decode b_Mo_lowest 56 = .ok (.goto 4, 3) := by decide +kernel
theorem d_Mo_lowest_59 : decode b_Mo_lowest 59 = .ok (.iload_n 2, 1) := by decide +kernel
theorem d_Mo_lowest_60 : decode b_Mo_lowest 60 = .ok (.istore_n 2, 1) := by decide +kernel
theorem d_Mo_lowest_61 : decode b_Mo_lowest 61 = .ok (.iinc 3 1, 3) := by decide +kernel
theorem d_Mo_lowest_64 : decode b_Mo_lowest 64 = .ok (.goto (-47), 3) := by decide +kernel
theorem d_Mo_lowest_67 : decode b_Mo_lowest 67 = .ok (.iload_n 2, 1) := by decide +kernel
theorem d_Mo_lowest_68 : decode b_Mo_lowest 68 = .ok (.ifCond .ge 7, 3) := by decide +kernel
theorem d_Mo_lowest_71 : decode b_Mo_lowest 71 = .ok (.iconst 0, 1) := by decide +kernel
theorem d_Mo_lowest_72 : decode b_Mo_lowest 72 = .ok (.goto 4, 3) := by decide +kernel
theorem d_Mo_lowest_75 : decode b_Mo_lowest 75 = .ok (.iload_n 2, 1) := by decide +kernel
theorem d_Mo_lowest_76 : decode b_Mo_lowest 76 = .ok (.ireturn, 1) := by decide +kernel
theorem d_Mo_could_0 : decode b_Mo_could 0 = .ok (.aload_n 0, 1) := by decide +kernel
theorem d_Mo_could_1 : decode b_Mo_could 1 = .ok (.aload_n 0, 1) := by decide +kernel
theorem d_Mo_could_2 : decode b_Mo_could 2 = .ok (.iload_n 1, 1) := by decide +kernel
theorem d_Mo_could_3 : decode b_Mo_could 3 = .ok (.invokevirtual 201, 3) := by decide +kernel
theorem d_Mo_could_6 : decode b_Mo_could 6 = .ok (.ifCond .ne 7, 3) := by decide +kernel
theorem d_Mo_could_9 : decode b_Mo_could 9 = .ok (.iconst 1, 1) := by decide +kernel
theorem d_Mo_could_10 : decode b_Mo_could 10 = .ok (.goto 4, 3) := by decide +kernel
theorem d_Mo_could_13 : decode b_Mo_could 13 = .ok (.iconst 0, 1) := by decide +kernel
theorem d_Mo_could_14 : decode b_Mo_could 14 = .ok (.iconst 0, 1) := by decide +kernel
theorem d_Mo_could_15 : decode b_Mo_could 15 = .ok (.invokevirtual 126, 3) := by decide +kernel
theorem d_Mo_could_18 : decode b_Mo_could 18 = .ok (.ifCond .ne 23, 3) := by decide +kernel
theorem d_Mo_could_21 : decode b_Mo_could 21 = .ok (.aload_n 0, 1) := by decide +kernel
theorem d_Mo_could_22 : decode b_Mo_could 22 = .ok (.getfield 123, 3) := by decide +kernel
theorem d_Mo_could_25 : decode b_Mo_could 25 = .ok (.iconst 1, 1) := by decide +kernel
theorem d_Mo_could_26 : decode b_Mo_could 26 = .ok (.if_icmp .ne 15, 3) := by decide +kernel
theorem d_Mo_could_29 : decode b_Mo_could 29 = .ok (.aload_n 0, 1) := by decide +kernel
theorem d_Mo_could_30 : decode b_Mo_could 30 = .ok (.iload_n 1, 1) := by decide +kernel
theorem d_Mo_could_31 : decode b_Mo_could 31 = .ok (.invokevirtual 173, 3) := by decide +kernel
theorem d_Mo_could_34 : decode b_Mo_could 34 = .ok (.ifCond .eq 7, 3) := by decide +kernel
theorem d_Mo_could_37 : decode b_Mo_could 37 = .ok (.iconst 1, 1) := by decide +kernel
theorem d_Mo_could_38 : decode b_Mo_could 38 = .ok (.goto 4, 3) := by decide +kernel
theorem d_Mo_could_41 : decode b_Mo_could 41 = .ok (.iconst 0, 1) := by decide +kernel
theorem d_Mo_could_42 : decode b_Mo_could 42 = .ok (.ireturn, 1) := by decide +kernel
end
section
theorem d_La_type_0 : decode b_La_type 0 = .ok (.aload_n 2, 1) := by decide +kernel
theorem d_La_type_1 : decode b_La_type 1 = .ok (.iconst 0, 1) := by decide +kernel
theorem d_La_type_2 : decode b_La_type 2 = .ok (.aload_n 0, 1) := by decide +kernel
theorem d_La_type_3 : decode b_La_type 3 = .ok (.iload_n 1, 1) := by decide +kernel
theorem d_La_type_4 : decode b_La_type 4 = .ok (.invokevirtual 7, 3) := by decide +kernel
theorem d_La_type_7 : decode b_La_type 7 = .ok (.ifCond .eq 7, 3) := by decide +kernel
theorem d_La_type_10 : decode b_La_type 10 = .ok (.lconst 1, 1) := by decide +kernel
theorem d_La_type_11 : decode b_La_type 11 = .ok (.goto 4, 3) := by decide +kernel
theorem d_La_type_14 : decode b_La_type 14 = .ok (.lconst 0, 1) := by decide +kernel
theorem d_La_type_15 : decode b_La_type 15 = .ok (.lastore, 1) := by decide +kernel
theorem d_La_type_16 : decode b_La_type 16 = .ok (.goto 6, 3) := by decide +kernel
theorem d_La_type_19 : decode b_La_type 19 = .ok (.astore_n 3, 1) := by decide +kernel
theorem d_La_type_20 : decode b_La_type 20 = .ok (.iconst 1, 1) := by decide +kernel
theorem d_La_type_21 : decode b_La_type 21 = .ok (.ireturn, 1) := by decide +kernel
theorem d_La_type_22 : decode b_La_type 22 = .ok (.iconst 0, 1) := by decide +kernel
theorem d_La_type_23 : decode b_La_type 23 = .ok (.ireturn, 1) := by decide +kernel
theorem d_La_submit_0 : decode b_La_submit 0 = .ok (.aload_n 1, 1) := by decide +kernel
theorem d_La_submit_1 : decode b_La_submit 1 = .ok (.iconst 0, 1) := by decide +kernel
theorem d_La_submit_2 : decode b_La_submit 2 = .ok (.aload_n 0, 1) := by decide +kernel
theorem d_La_submit_3 : decode b_La_submit 3 = .ok (.invokevirtual 15, 3) := by decide +kernel
theorem d_La_submit_6 : decode b_La_submit 6 = .ok (.i2l, 1) := by decide +kernel
theorem d_La_submit_7 : decode b_La_submit 7 = .ok (.lastore, 1) := by decide +kernel
theorem d_La_submit_8 : decode b_La_submit 8 = .ok (.goto 6, 3) := by decide +kernel
theorem d_La_submit_11 : decode b_La_submit 11 = .ok (.astore_n 2, 1) := by decide +kernel
theorem d_La_submit_12 : decode b_La_submit 12 = .ok (.iconst 1, 1) := by decide +kernel
theorem d_La_submit_13 : decode b_La_submit 13 = .ok (.ireturn, 1) := by decide +kernel
theorem d_La_submit_14 : decode b_La_submit 14 = .ok (.iconst 0, 1) := by decide +kernel
theorem d_La_submit_15 : decode b_La_submit 15 = .ok (.ireturn, 1) := by decide +kernel
theorem d_La_enable_0 : decode b_La_enable 0 = .ok (.aload_n 1, 1) := by decide +kernel
theorem d_La_enable_1 : decode b_La_enable 1 = .ok (.iconst 0, 1) := by decide +kernel
theorem d_La_enable_2 : decode b_La_enable 2 = .ok (.aload_n 0, 1) := by decide +kernel
theorem d_La_enable_3 : decode b_La_enable 3 = .ok (.invokevirtual 21, 3) := by decide +kernel
theorem d_La_enable_6 : decode b_La_enable 6 = .ok (.i2l, 1) := by decide +kernel
theorem d_La_enable_7 : decode b_La_enable 7 = .ok (.lastore, 1) := by decide +kernel
theorem d_La_enable_8 : decode b_La_enable 8 = .ok (.goto 6, 3) := by decide +kernel
theorem d_La_enable_11 : decode b_La_enable 11 = .ok (.astore_n 2, 1) := by decide +kernel
theorem d_La_enable_12 : decode b_La_enable 12 = .ok (.iconst 1, 1) := by decide +kernel
theorem d_La_enable_13 : decode b_La_enable 13 = .ok (.ireturn, 1) := by decide +kernel
theorem d_La_enable_14 : decode b_La_enable 14 = .ok (.iconst 0, 1) := by decide +kernel
theorem d_La_enable_15 : decode b_La_enable 15 = .ok (.ireturn, 1) := by decide +kernel
theorem d_La_cancel_0 : decode b_La_cancel 0 = .ok (.aload_n 0, 1) := by decide +kernel
theorem d_La_cancel_1 : decode b_La_cancel 1 = .ok (.invokevirtual 24, 3) := by decide +kernel
theorem d_La_cancel_4 : decode b_La_cancel 4 = .ok (.goto 6, 3) := by decide +kernel
theorem d_La_cancel_7 : decode b_La_cancel 7 = .ok (.astore_n 1, 1) := by decide +kernel
theorem d_La_cancel_8 : decode b_La_cancel 8 = .ok (.iconst 1, 1) := by decide +kernel
theorem d_La_cancel_9 : decode b_La_cancel 9 = .ok (.ireturn, 1) := by decide +kernel
theorem d_La_cancel_10 : decode b_La_cancel 10 = .ok (.iconst 0, 1) := by decide +kernel
theorem d_La_cancel_11 : decode b_La_cancel 11 = .ok (.ireturn, 1) := by decide +kernel
theorem d_La_minutes_0 : decode b_La_minutes 0 = .ok (.aload_n 2, 1) := by decide +kernel
theorem d_La_minutes_1 : decode b_La_minutes 1 = .ok (.iconst 0, 1) := by decide +kernel
theorem d_La_minutes_2 : decode b_La_minutes 2 = .ok (.aload_n 0, 1) := by decide +kernel
theorem d_La_minutes_3 : decode b_La_minutes 3 = .ok (.iload_n 1, 1) := by decide +kernel
theorem d_La_minutes_4 : decode b_La_minutes 4 = .ok (.invokevirtual 27, 3) := by decide +kernel
theorem d_La_minutes_7 : decode b_La_minutes 7 = .ok (.i2l, 1) := by decide +kernel
theorem d_La_minutes_8 : decode b_La_minutes 8 = .ok (.lastore, 1) := by decide +kernel
theorem d_La_minutes_9 : decode b_La_minutes 9 = .ok (.goto 6, 3) := by decide +kernel
theorem d_La_minutes_12 : decode b_La_minutes 12 = .ok (.astore_n 3, 1) := by decide +kernel
theorem d_La_minutes_13 : decode b_La_minutes 13 = .ok (.iconst 1, 1) := by decide +kernel
theorem d_La_minutes_14 : decode b_La_minutes 14 = .ok (.ireturn, 1) := by decide +kernel
theorem d_La_minutes_15 : decode b_La_minutes 15 = .ok (.iconst 0, 1) := by decide +kernel
theorem d_La_minutes_16 : decode b_La_minutes 16 = .ok (.ireturn, 1) := by decide +kernel
theorem d_La_lasts_0 : decode b_La_lasts 0 = .ok (.aload_n 0, 1) := by decide +kernel
theorem d_La_lasts_1 : decode b_La_lasts 1 = .ok (.iload_n 1, 1) := by decide +kernel
theorem d_La_lasts_2 : decode b_La_lasts 2 = .ok (.iload_n 2, 1) := by decide +kernel
theorem d_La_lasts_3 : decode b_La_lasts 3 = .ok (.invokevirtual 31, 3) := by decide +kernel
theorem d_La_lasts_6 : decode b_La_lasts 6 = .ok (.goto 9, 3) := by decide +kernel
theorem d_La_lasts_9 : decode b_La_lasts 9 = .ok (.astore_n 3, 1) := by decide +kernel
theorem d_La_lasts_10 : decode b_La_lasts 10 = .ok (.iconst 1, 1) := by decide +kernel
theorem d_La_lasts_11 : decode b_La_lasts 11 = .ok (.ireturn, 1) := by decide +kernel
theorem d_La_lasts_12 : decode b_La_lasts 12 = .ok (.astore_n 3, 1) := by decide +kernel
theorem d_La_lasts_13 : decode b_La_lasts 13 = .ok (.iconst 2, 1) := by decide +kernel
theorem d_La_lasts_14 : decode b_La_lasts 14 = .ok (.ireturn, 1) := by decide +kernel
theorem d_La_lasts_15 : decode b_La_lasts 15 = .ok (.iconst 0, 1) := by decide +kernel
theorem d_La_lasts_16 : decode b_La_lasts 16 = .ok (.ireturn, 1) := by decide +kernel
theorem d_La_draws_0 : decode b_La_draws 0 = .ok (.aload_n 0, 1) := by decide +kernel
theorem d_La_draws_1 : decode b_La_draws 1 = .ok (.iload_n 1, 1) := by decide +kernel
theorem d_La_draws_2 : decode b_La_draws 2 = .ok (.iload_n 2, 1) := by decide +kernel
theorem d_La_draws_3 : decode b_La_draws 3 = .ok (.invokevirtual 37, 3) := by decide +kernel
theorem d_La_draws_6 : decode b_La_draws 6 = .ok (.goto 9, 3) := by decide +kernel
theorem d_La_draws_9 : decode b_La_draws 9 = .ok (.astore_n 3, 1) := by decide +kernel
theorem d_La_draws_10 : decode b_La_draws 10 = .ok (.iconst 1, 1) := by decide +kernel
theorem d_La_draws_11 : decode b_La_draws 11 = .ok (.ireturn, 1) := by decide +kernel
theorem d_La_draws_12 : decode b_La_draws 12 = .ok (.astore_n 3, 1) := by decide +kernel
theorem d_La_draws_13 : decode b_La_draws 13 = .ok (.iconst 2, 1) := by decide +kernel
theorem d_La_draws_14 : decode b_La_draws 14 = .ok (.ireturn, 1) := by decide +kernel
theorem d_La_draws_15 : decode b_La_draws 15 = .ok (.iconst 0, 1) := by decide +kernel
theorem d_La_draws_16 : decode b_La_draws 16 = .ok (.ireturn, 1) := by decide +kernel
theorem d_La_curve_0 : decode b_La_curve 0 = .ok (.aload_n 0, 1) := by decide +kernel
theorem d_La_curve_1 : decode b_La_curve 1 = .ok (.iload_n 1, 1) := by decide +kernel
theorem d_La_curve_2 : decode b_La_curve 2 = .ok (.iload_n 2, 1) := by decide +kernel
theorem d_La_curve_3 : decode b_La_curve 3 = .ok (.invokevirtual 40, 3) := by decide +kernel
theorem d_La_curve_6 : decode b_La_curve 6 = .ok (.goto 9, 3) := by decide +kernel
theorem d_La_curve_9 : decode b_La_curve 9 = .ok (.astore_n 3, 1) := by decide +kernel
theorem d_La_curve_10 : decode b_La_curve 10 = .ok (.iconst 1, 1) := by decide +kernel
theorem d_La_curve_11 : decode b_La_curve 11 = .ok (.ireturn, 1) := by decide +kernel
theorem d_La_curve_12 : decode b_La_curve 12 = .ok (.astore_n 3, 1) := by decide +kernel
theorem d_La_curve_13 : decode b_La_curve 13 = .ok (.iconst 2, 1) := by decide +kernel
theorem d_La_curve_14 : decode b_La_curve 14 = .ok (.ireturn, 1) := by decide +kernel
theorem d_La_curve_15 : decode b_La_curve 15 = .ok (.iconst 0, 1) := by decide +kernel
theorem d_La_curve_16 : decode b_La_curve 16 = .ok (.ireturn, 1) := by decide +kernel
theorem d_La_gain_0 : decode b_La_gain 0 = .ok (.aload_n 0, 1) := by decide +kernel
theorem d_La_gain_1 : decode b_La_gain 1 = .ok (.iload_n 1, 1) := by decide +kernel
theorem d_La_gain_2 : decode b_La_gain 2 = .ok (.invokevirtual 43, 3) := by decide +kernel
theorem d_La_gain_5 : decode b_La_gain 5 = .ok (.goto 6, 3) := by decide +kernel
theorem d_La_gain_8 : decode b_La_gain 8 = .ok (.astore_n 2, 1) := by decide +kernel
theorem d_La_gain_9 : decode b_La_gain 9 = .ok (.iconst 1, 1) := by decide +kernel
theorem d_La_gain_10 : decode b_La_gain 10 = .ok (.ireturn, 1) := by decide +kernel
theorem d_La_gain_11 : decode b_La_gain 11 = .ok (.iconst 0, 1) := by decide +kernel
theorem d_La_gain_12 : decode b_La_gain 12 = .ok (.ireturn, 1) := by decide +kernel
theorem d_La_home_0 : decode b_La_home 0 = .ok (.aload_n 0, 1) := by decide +kernel
theorem d_La_home_1 : decode b_La_home 1 = .ok (.iload_n 1, 1) := by decide +kernel
theorem d_La_home_2 : decode b_La_home 2 = .ok (.iload_n 2, 1) := by decide +kernel
theorem d_La_home_3 : decode b_La_home 3 = .ok (.invokevirtual 47, 3) := by decide +kernel
theorem d_La_home_6 : decode b_La_home 6 = .ok (.goto 9, 3) := by decide +kernel
theorem d_La_home_9 : decode b_La_home 9 = .ok (.astore_n 3, 1) := by decide +kernel
theorem d_La_home_10 : decode b_La_home 10 = .ok (.iconst 1, 1) := by decide +kernel
theorem d_La_home_11 : decode b_La_home 11 = .ok (.ireturn, 1) := by decide +kernel
theorem d_La_home_12 : decode b_La_home 12 = .ok (.astore_n 3, 1) := by decide +kernel
theorem d_La_home_13 : decode b_La_home 13 = .ok (.iconst 2, 1) := by decide +kernel
theorem d_La_home_14 : decode b_La_home 14 = .ok (.ireturn, 1) := by decide +kernel
theorem d_La_home_15 : decode b_La_home 15 = .ok (.iconst 0, 1) := by decide +kernel
theorem d_La_home_16 : decode b_La_home 16 = .ok (.ireturn, 1) := by decide +kernel
theorem d_La_fill_0 : decode b_La_fill 0 = .ok (.aload_n 0, 1) := by decide +kernel
theorem d_La_fill_1 : decode b_La_fill 1 = .ok (.iload_n 1, 1) := by decide +kernel
theorem d_La_fill_2 : decode b_La_fill 2 = .ok (.iload_n 2, 1) := by decide +kernel
theorem d_La_fill_3 : decode b_La_fill 3 = .ok (.invokevirtual 50, 3) := by decide +kernel
theorem d_La_fill_6 : decode b_La_fill 6 = .ok (.goto 9, 3) := by decide +kernel
theorem d_La_fill_9 : decode b_La_fill 9 = .ok (.astore_n 3, 1) := by decide +kernel
theorem d_La_fill_10 : decode b_La_fill 10 = .ok (.iconst 1, 1) := by decide +kernel
theorem d_La_fill_11 : decode b_La_fill 11 = .ok (.ireturn, 1) := by decide +kernel
theorem d_La_fill_12 : decode b_La_fill 12 = .ok (.astore_n 3, 1) := by decide +kernel
theorem d_La_fill_13 : decode b_La_fill 13 = .ok (.iconst 2, 1) := by decide +kernel
theorem d_La_fill_14 : decode b_La_fill 14 = .ok (.ireturn, 1) := by decide +kernel
theorem d_La_fill_15 : decode b_La_fill 15 = .ok (.iconst 0, 1) := by decide +kernel
theorem d_La_fill_16 : decode b_La_fill 16 = .ok (.ireturn, 1) := by decide +kernel
theorem d_La_level_0 : decode b_La_level 0 = .ok (.aload_n 2, 1) := by decide +kernel
theorem d_La_level_1 : decode b_La_level 1 = .ok (.iconst 0, 1) := by decide +kernel
theorem d_La_level_2 : decode b_La_level 2 = .ok (.aload_n 0, 1) := by decide +kernel
theorem d_La_level_3 : decode b_La_level 3 = .ok (.iload_n 1, 1) := by decide +kernel
theorem d_La_level_4 : decode b_La_level 4 = .ok (.invokevirtual 53, 3) := by decide +kernel
theorem d_La_level_7 : decode b_La_level 7 = .ok (.i2l, 1) := by decide +kernel
theorem d_La_level_8 : decode b_La_level 8 = .ok (.lastore, 1) := by decide +kernel
theorem d_La_level_9 : decode b_La_level 9 = .ok (.goto 6, 3) := by decide +kernel
theorem d_La_level_12 : decode b_La_level 12 = .ok (.astore_n 3, 1) := by decide +kernel
theorem d_La_level_13 : decode b_La_level 13 = .ok (.iconst 1, 1) := by decide +kernel
theorem d_La_level_14 : decode b_La_level 14 = .ok (.ireturn, 1) := by decide +kernel
theorem d_La_level_15 : decode b_La_level 15 = .ok (.iconst 0, 1) := by decide +kernel
theorem d_La_level_16 : decode b_La_level 16 = .ok (.ireturn, 1) := by decide +kernel
theorem d_La_activity_0 : decode b_La_activity 0 = .ok (.aload_n 3, 1) := by decide +kernel
theorem d_La_activity_1 : decode b_La_activity 1 = .ok (.iconst 0, 1) := by decide +kernel
theorem d_La_activity_2 : decode b_La_activity 2 = .ok (.aload_n 0, 1) := by decide +kernel
theorem d_La_activity_3 : decode b_La_activity 3 = .ok (.iload_n 1, 1) := by decide +kernel
theorem d_La_activity_4 : decode b_La_activity 4 = .ok (.iload_n 2, 1) := by decide +kernel
theorem d_La_activity_5 : decode b_La_activity 5 = .ok (.invokevirtual 56, 3) := by decide +kernel
theorem d_La_activity_8 : decode b_La_activity 8 = .ok (.i2l, 1) := by decide +kernel
theorem d_La_activity_9 : decode b_La_activity 9 = .ok (.lastore, 1) := by decide +kernel
theorem d_La_activity_10 : decode b_La_activity 10 = .ok (.goto 7, 3) := by decide +kernel
theorem d_La_activity_13 : decode b_La_activity 13 = .ok (.astore 4, 2) := by decide +kernel
theorem d_La_activity_15 : decode b_La_activity 15 = .ok (.iconst 1, 1) := by decide +kernel
theorem d_La_activity_16 : decode b_La_activity 16 = .ok (.ireturn, 1) := by decide +kernel
theorem d_La_activity_17 : decode b_La_activity 17 = .ok (.iconst 0, 1) := by decide +kernel
theorem d_La_activity_18 : decode b_La_activity 18 = .ok (.ireturn, 1) := by decide +kernel
theorem d_La_could_0 : decode b_La_could 0 = .ok (.aload_n 2, 1) := by decide +kernel
theorem d_La_could_1 : decode b_La_could 1 = .ok (.iconst 0, 1) := by decide +kernel
theorem d_La_could_2 : decode b_La_could 2 = .ok (.aload_n 0, 1) := by decide +kernel
theorem d_La_could_3 : decode b_La_could 3 = .ok (.iload_n 1, 1) := by decide +kernel
theorem d_La_could_4 : decode b_La_could 4 = .ok (.invokevirtual 60, 3) := by decide +kernel
theorem d_La_could_7 : decode b_La_could 7 = .ok (.ifCond .eq 7, 3) := by decide +kernel
theorem d_La_could_10 : decode b_La_could 10 = .ok (.lconst 1, 1) := by decide +kernel
theorem d_La_could_11 : decode b_La_could 11 = .ok (.goto 4, 3) := by decide +kernel
theorem d_La_could_14 : decode b_La_could 14 = .ok (.lconst 0, 1) := by decide +kernel
theorem d_La_could_15 : decode b_La_could 15 = .ok (.lastore, 1) := by decide +kernel
theorem d_La_could_16 : decode b_La_could 16 = .ok (.goto 6, 3) := by decide +kernel
theorem d_La_could_19 : decode b_La_could 19 = .ok (.astore_n 3, 1) := by decide +kernel
theorem d_La_could_20 : decode b_La_could 20 = .ok (.iconst 1, 1) := by decide +kernel
theorem d_La_could_21 : decode b_La_could 21 = .ok (.ireturn, 1) := by decide +kernel
theorem d_La_could_22 : decode b_La_could 22 = .ok (.iconst 0, 1) := by decide +kernel
theorem d_La_could_23 : decode b_La_could 23 = .ok (.ireturn, 1) := by decide +kernel
theorem d_La_law_0 : decode b_La_law 0 = .ok (.new 8, 3) := by decide +kernel
theorem d_La_law_3 : decode b_La_law 3 = .ok (.dup, 1) := by decide +kernel
theorem d_La_law_4 : decode b_La_law 4 = .ok (.invokespecial 63, 3) := by decide +kernel
theorem d_La_law_7 : decode b_La_law 7 = .ok (.astore_n 1, 1) := by decide +kernel
theorem d_La_law_8 : decode b_La_law 8 = .ok (.new 64, 3) := by decide +kernel
theorem d_La_law_11 : decode b_La_law 11 = .ok (.dup, 1) := by decide +kernel
theorem d_La_law_12 : decode b_La_law 12 = .ok (.invokespecial 66, 3) := by decide +kernel
theorem d_La_law_15 : decode b_La_law 15 = .ok (.astore_n 2, 1) := by decide +kernel
theorem d_La_law_16 : decode b_La_law 16 = .ok (.iconst 1, 1) := by decide +kernel
theorem d_La_law_17 : decode b_La_law 17 = .ok (.newarray .long, 2) := by decide +kernel
theorem d_La_law_19 : decode b_La_law 19 = .ok (.astore_n 3, 1) := by decide +kernel
theorem d_La_law_20 : decode b_La_law 20 = .ok (.iconst 0, 1) := by decide +kernel
theorem d_La_law_21 : decode b_La_law 21 = .ok (.istore 4, 2) := by decide +kernel
theorem d_La_law_23 : decode b_La_law 23 = .ok (.iload 4, 2) := by decide +kernel
theorem d_La_law_25 : decode b_La_law 25 = .ok (.aload_n 0, 1) := by decide +kernel
theorem d_La_law_26 : decode b_La_law 26 = .ok (.arraylength, 1) := by decide +kernel
theorem d_La_law_27 : decode b_La_law 27 = .ok (.iconst 3, 1) := by decide +kernel
theorem d_La_law_28 : decode b_La_law 28 = .ok (.isub, 1) := by decide +kernel
theorem d_La_law_29 : decode b_La_law 29 = .ok (.if_icmp .gt 864, 3) := by decide +kernel
theorem d_La_law_32 : decode b_La_law 32 = .ok (.aload_n 0, 1) := by decide +kernel
theorem d_La_law_33 : decode b_La_law 33 = .ok (.iload 4, 2) := by decide +kernel
theorem d_La_law_35 : decode b_La_law 35 = .ok (.iaload, 1) := by decide +kernel
theorem d_La_law_36 : decode b_La_law 36 = .ok (.bipush 31, 2) := by decide +kernel
theorem d_La_law_38 : decode b_La_law 38 = .ok (.iand, 1) := by decide +kernel
theorem d_La_law_39 : decode b_La_law 39 = .ok (.tableswitch 848 0 18 #[89, 152, 196, 240, 264, 320, 368, 416, 464, 500, 548, 596, 609, 622, 678, 691, 704, 772, 785], 89) := by decide +kernel
theorem d_La_law_128 : decode b_La_law 128 = .ok (.aload_n 1, 1) := by decide +kernel
theorem d_La_law_129 : decode b_La_law 129 = .ok (.aload_n 0, 1) := by decide +kernel
theorem d_La_law_130 : decode b_La_law 130 = .ok (.iload 4, 2) := by decide +kernel
theorem d_La_law_132 : decode b_La_law 132 = .ok (.iconst 1, 1) := by decide +kernel
theorem d_La_law_133 : decode b_La_law 133 = .ok (.iadd, 1) := by decide +kernel
theorem d_La_law_134 : decode b_La_law 134 = .ok (.iaload, 1) := by decide +kernel
theorem d_La_law_135 : decode b_La_law 135 = .ok (.aload_n 3, 1) := by decide +kernel
theorem d_La_law_136 : decode b_La_law 136 = .ok (.invokestatic 67, 3) := by decide +kernel
theorem d_La_law_139 : decode b_La_law 139 = .ok (.istore 5, 2) := by decide +kernel
theorem d_La_law_141 : decode b_La_law 141 = .ok (.aload_n 2, 1) := by decide +kernel
theorem d_La_law_142 : decode b_La_law 142 = .ok (.aload_n 0, 1) := by decide +kernel
theorem d_La_law_143 : decode b_La_law 143 = .ok (.iload 4, 2) := by decide +kernel
theorem d_La_law_145 : decode b_La_law 145 = .ok (.iconst 1, 1) := by decide +kernel
theorem d_La_law_146 : decode b_La_law 146 = .ok (.iadd, 1) := by decide +kernel
theorem d_La_law_147 : decode b_La_law 147 = .ok (.iaload, 1) := by decide +kernel
theorem d_La_law_148 : decode b_La_law 148 = .ok (.invokevirtual 72, 3) := by decide +kernel
theorem d_La_law_151 : decode b_La_law 151 = .ok (.istore 6, 2) := by decide +kernel
theorem d_La_law_153 : decode b_La_law 153 = .ok (.aload_n 2, 1) := by decide +kernel
theorem d_La_law_154 : decode b_La_law 154 = .ok (.invokevirtual 73, 3) := by decide +kernel
theorem d_La_law_157 : decode b_La_law 157 = .ok (.iload 5, 2) := by decide +kernel
theorem d_La_law_159 : decode b_La_law 159 = .ok (.if_icmp .eq 5, 3) := by decide +kernel
theorem d_La_law_162 : decode b_La_law 162 = .ok (.iconst 0, 1) := by decide +kernel
theorem d_La_law_163 : decode b_La_law 163 = .ok (.ireturn, 1) := by decide +kernel
theorem d_La_law_164 : decode b_La_law 164 = .ok (.iload 5, 2) := by decide +kernel
theorem d_La_law_166 : decode b_La_law 166 = .ok (.ifCond .ne 22, 3) := by decide +kernel
theorem d_La_law_169 : decode b_La_law 169 = .ok (.aload_n 3, 1) := by decide +kernel
theorem d_La_law_170 : decode b_La_law 170 = .ok (.iconst 0, 1) := by decide +kernel
theorem d_La_law_171 : decode b_La_law 171 = .ok (.laload, 1) := by decide +kernel
theorem d_La_law_172 : decode b_La_law 172 = .ok (.iload 6, 2) := by decide +kernel
theorem d_La_law_174 : decode b_La_law 174 = .ok (.ifCond .eq 7, 3) := by decide +kernel
theorem d_La_law_177 : decode b_La_law 177 = .ok (.lconst 1, 1) := by decide +kernel
theorem d_La_law_178 : decode b_La_law 178 = .ok (.goto 4, 3) := by decide +kernel
theorem d_La_law_181 : decode b_La_law 181 = .ok (.lconst 0, 1) := by decide +kernel
theorem d_La_law_182 : decode b_La_law 182 = .ok (.lcmp, 1) := by decide +kernel
theorem d_La_law_183 : decode b_La_law 183 = .ok (.ifCond .eq 5, 3) := by decide +kernel
theorem d_La_law_186 : decode b_La_law 186 = .ok (.iconst 0, 1) := by decide +kernel
theorem d_La_law_187 : decode b_La_law 187 = .ok (.ireturn, 1) := by decide +kernel
theorem d_La_law_188 : decode b_La_law 188 = .ok (.goto 699, 3) := by decide +kernel
theorem d_La_law_191 : decode b_La_law 191 = .ok (.aload_n 1, 1) := by decide +kernel
theorem d_La_law_192 : decode b_La_law 192 = .ok (.aload_n 3, 1) := by decide +kernel
theorem d_La_law_193 : decode b_La_law 193 = .ok (.invokestatic 76, 3) := by decide +kernel
theorem d_La_law_196 : decode b_La_law 196 = .ok (.istore 5, 2) := by decide +kernel
theorem d_La_law_198 : decode b_La_law 198 = .ok (.aload_n 2, 1) := by decide +kernel
theorem d_La_law_199 : decode b_La_law 199 = .ok (.invokevirtual 79, 3) := by decide +kernel
theorem d_La_law_202 : decode b_La_law 202 = .ok (.istore 6, 2) := by decide +kernel
theorem d_La_law_204 : decode b_La_law 204 = .ok (.aload_n 2, 1) := by decide +kernel
theorem d_La_law_205 : decode b_La_law 205 = .ok (.invokevirtual 73, 3) := by decide +kernel
theorem d_La_law_208 : decode b_La_law 208 = .ok (.iload 5, 2) := by decide +kernel
theorem d_La_law_210 : decode b_La_law 210 = .ok (.if_icmp .eq 5, 3) := by decide +kernel
theorem d_La_law_213 : decode b_La_law 213 = .ok (.iconst 0, 1) := by decide +kernel
theorem d_La_law_214 : decode b_La_law 214 = .ok (.ireturn, 1) := by decide +kernel
theorem d_La_law_215 : decode b_La_law 215 = .ok (.iload 5, 2) := by decide +kernel
theorem d_La_law_217 : decode b_La_law 217 = .ok (.ifCond .ne 15, 3) := by decide +kernel
theorem d_La_law_220 : decode b_La_law 220 = .ok (.aload_n 3, 1) := by decide +kernel
theorem d_La_law_221 : decode b_La_law 221 = .ok (.iconst 0, 1) := by decide +kernel
theorem d_La_law_222 : decode b_La_law 222 = .ok (.laload, 1) := by decide +kernel
theorem d_La_law_223 : decode b_La_law 223 = .ok (.iload 6, 2) := by decide +kernel
theorem d_La_law_225 : decode b_La_law 225 = .ok (.i2l, 1) := by decide +kernel
theorem d_La_law_226 : decode b_La_law 226 = .ok (.lcmp, 1) := by decide +kernel
theorem d_La_law_227 : decode b_La_law 227 = .ok (.ifCond .eq 5, 3) := by decide +kernel
theorem d_La_law_230 : decode b_La_law 230 = .ok (.iconst 0, 1) := by decide +kernel
theorem d_La_law_231 : decode b_La_law 231 = .ok (.ireturn, 1) := by decide +kernel
theorem d_La_law_232 : decode b_La_law 232 = .ok (.goto 655, 3) := by decide +kernel
theorem d_La_law_235 : decode b_La_law 235 = .ok (.aload_n 1, 1) := by decide +kernel
theorem d_La_law_236 : decode b_La_law 236 = .ok (.aload_n 3, 1) := by decide +kernel
theorem d_La_law_237 : decode b_La_law 237 = .ok (.invokestatic 80, 3) := by decide +kernel
theorem d_La_law_240 : decode b_La_law 240 = .ok (.istore 5, 2) := by decide +kernel
theorem d_La_law_242 : decode b_La_law 242 = .ok (.aload_n 2, 1) := by decide +kernel
theorem d_La_law_243 : decode b_La_law 243 = .ok (.invokevirtual 82, 3) := by decide +kernel
theorem d_La_law_246 : decode b_La_law 246 = .ok (.istore 6, 2) := by decide +kernel
theorem d_La_law_248 : decode b_La_law 248 = .ok (.aload_n 2, 1) := by decide +kernel
theorem d_La_law_249 : decode b_La_law 249 = .ok (.invokevirtual 73, 3) := by decide +kernel
theorem d_La_law_252 : decode b_La_law 252 = .ok (.iload 5, 2) := by decide +kernel
theorem d_La_law_254 : decode b_La_law 254 = .ok (.if_icmp .eq 5, 3) := by decide +kernel
theorem d_La_law_257 : decode b_La_law 257 = .ok (.iconst 0, 1) := by decide +kernel
theorem d_La_law_258 : decode b_La_law 258 = .ok (.ireturn, 1) := by decide +kernel
theorem d_La_law_259 : decode b_La_law 259 = .ok (.iload 5, 2) := by decide +kernel
theorem d_La_law_261 : decode b_La_law 261 = .ok (.ifCond .ne 15, 3) := by decide +kernel
theorem d_La_law_264 : decode b_La_law 264 = .ok (.aload_n 3, 1) := by decide +kernel
theorem d_La_law_265 : decode b_La_law 265 = .ok (.iconst 0, 1) := by decide +kernel
theorem d_La_law_266 : decode b_La_law 266 = .ok (.laload, 1) := by decide +kernel
theorem d_La_law_267 : decode b_La_law 267 = .ok (.iload 6, 2) := by decide +kernel
theorem d_La_law_269 : decode b_La_law 269 = .ok (.i2l, 1) := by decide +kernel
theorem d_La_law_270 : decode b_La_law 270 = .ok (.lcmp, 1) := by decide +kernel
theorem d_La_law_271 : decode b_La_law 271 = .ok (.ifCond .eq 5, 3) := by decide +kernel
theorem d_La_law_274 : decode b_La_law 274 = .ok (.iconst 0, 1) := by decide +kernel
theorem d_La_law_275 : decode b_La_law 275 = .ok (.ireturn, 1) := by decide +kernel
theorem d_La_law_276 : decode b_La_law 276 = .ok (.goto 611, 3) := by decide +kernel
theorem d_La_law_279 : decode b_La_law 279 = .ok (.aload_n 1, 1) := by decide +kernel
theorem d_La_law_280 : decode b_La_law 280 = .ok (.invokestatic 83, 3) := by decide +kernel
theorem d_La_law_283 : decode b_La_law 283 = .ok (.istore 5, 2) := by decide +kernel
theorem d_La_law_285 : decode b_La_law 285 = .ok (.aload_n 2, 1) := by decide +kernel
theorem d_La_law_286 : decode b_La_law 286 = .ok (.invokevirtual 86, 3) := by decide +kernel
theorem d_La_law_289 : decode b_La_law 289 = .ok (.aload_n 2, 1) := by decide +kernel
theorem d_La_law_290 : decode b_La_law 290 = .ok (.invokevirtual 73, 3) := by decide +kernel
theorem d_La_law_293 : decode b_La_law 293 = .ok (.iload 5, 2) := by decide +kernel
theorem d_La_law_295 : decode b_La_law 295 = .ok (.if_icmp .eq 5, 3) := by decide +kernel
theorem d_La_law_298 : decode b_La_law 298 = .ok (.iconst 0, 1) := by decide +kernel
theorem d_La_law_299 : decode b_La_law 299 = .ok (.ireturn, 1) := by decide +kernel
theorem d_La_law_300 : decode b_La_law 300 = .ok (.goto 587, 3) := by decide +kernel
theorem d_La_law_303 : decode b_La_law 303 = .ok (.aload_n 1, 1) := by decide +kernel
theorem d_La_law_304 : decode b_La_law 304 = .ok (.aload_n 0, 1) := by decide +kernel
theorem d_La_law_305 : decode b_La_law 305 = .ok (.iload 4, 2) := by decide +kernel
theorem d_La_law_307 : decode b_La_law 307 = .ok (.iconst 1, 1) := by decide +kernel
theorem d_La_law_308 : decode b_La_law 308 = .ok (.iadd, 1) := by decide +kernel
theorem d_La_law_309 : decode b_La_law 309 = .ok (.iaload, 1) := by decide +kernel
theorem d_La_law_310 : decode b_La_law 310 = .ok (.aload_n 3, 1) := by decide +kernel
theorem d_La_law_311 : decode b_La_law 311 = .ok (.invokestatic 87, 3) := by decide +kernel
theorem d_La_law_314 : decode b_La_law 314 = .ok (.istore 5, 2) := by decide +kernel
theorem d_La_law_316 : decode b_La_law 316 = .ok (.aload_n 2, 1) := by decide +kernel
theorem d_La_law_317 : decode b_La_law 317 = .ok (.aload_n 0, 1) := by decide +kernel
theorem d_La_law_318 : decode b_La_law 318 = .ok (.iload 4, 2) := by decide +kernel
theorem d_La_law_320 : decode b_La_law 320 = .ok (.iconst 1, 1) := by decide +kernel
theorem d_La_law_321 : decode b_La_law 321 = .ok (.iadd, 1) := by decide +kernel
theorem d_La_law_322 : decode b_La_law 322 = .ok (.iaload, 1) := by decide +kernel
theorem d_La_law_323 : decode b_La_law 323 = .ok (.invokevirtual 89, 3) := by decide +kernel
theorem d_La_law_326 : decode b_La_law 326 = .ok (.istore 6, 2) := by decide +kernel
theorem d_La_law_328 : decode b_La_law 328 = .ok (.aload_n 2, 1) := by decide +kernel
theorem d_La_law_329 : decode b_La_law 329 = .ok (.invokevirtual 73, 3) := by decide +kernel
theorem d_La_law_332 : decode b_La_law 332 = .ok (.iload 5, 2) := by decide +kernel
theorem d_La_law_334 : decode b_La_law 334 = .ok (.if_icmp .eq 5, 3) := by decide +kernel
theorem d_La_law_337 : decode b_La_law 337 = .ok (.iconst 0, 1) := by decide +kernel
theorem d_La_law_338 : decode b_La_law 338 = .ok (.ireturn, 1) := by decide +kernel
theorem d_La_law_339 : decode b_La_law 339 = .ok (.iload 5, 2) := by decide +kernel
theorem d_La_law_341 : decode b_La_law 341 = .ok (.ifCond .ne 15, 3) := by decide +kernel
theorem d_La_law_344 : decode b_La_law 344 = .ok (.aload_n 3, 1) := by decide +kernel
theorem d_La_law_345 : decode b_La_law 345 = .ok (.iconst 0, 1) := by decide +kernel
theorem d_La_law_346 : decode b_La_law 346 = .ok (.laload, 1) := by decide +kernel
theorem d_La_law_347 : decode b_La_law 347 = .ok (.iload 6, 2) := by decide +kernel
theorem d_La_law_349 : decode b_La_law 349 = .ok (.i2l, 1) := by decide +kernel
theorem d_La_law_350 : decode b_La_law 350 = .ok (.lcmp, 1) := by decide +kernel
theorem d_La_law_351 : decode b_La_law 351 = .ok (.ifCond .eq 5, 3) := by decide +kernel
theorem d_La_law_354 : decode b_La_law 354 = .ok (.iconst 0, 1) := by decide +kernel
theorem d_La_law_355 : decode b_La_law 355 = .ok (.ireturn, 1) := by decide +kernel
theorem d_La_law_356 : decode b_La_law 356 = .ok (.goto 531, 3) := by decide +kernel
theorem d_La_law_359 : decode b_La_law 359 = .ok (.aload_n 1, 1) := by decide +kernel
theorem d_La_law_360 : decode b_La_law 360 = .ok (.aload_n 0, 1) := by decide +kernel
theorem d_La_law_361 : decode b_La_law 361 = .ok (.iload 4, 2) := by decide +kernel
theorem d_La_law_363 : decode b_La_law 363 = .ok (.iconst 1, 1) := by decide +kernel
theorem d_La_law_364 : decode b_La_law 364 = .ok (.iadd, 1) := by decide +kernel
theorem d_La_law_365 : decode b_La_law 365 = .ok (.iaload, 1) := by decide +kernel
theorem d_La_law_366 : decode b_La_law 366 = .ok (.aload_n 0, 1) := by decide +kernel
theorem d_La_law_367 : decode b_La_law 367 = .ok (.iload 4, 2) := by decide +kernel
theorem d_La_law_369 : decode b_La_law 369 = .ok (.iconst 2, 1) := by decide +kernel
theorem d_La_law_370 : decode b_La_law 370 = .ok (.iadd, 1) := by decide +kernel
theorem d_La_law_371 : decode b_La_law 371 = .ok (.iaload, 1) := by decide +kernel
theorem d_La_law_372 : decode b_La_law 372 = .ok (.invokestatic 90, 3) := by decide +kernel
theorem d_La_law_375 : decode b_La_law 375 = .ok (.istore 5, 2) := by decide +kernel
theorem d_La_law_377 : decode b_La_law 377 = .ok (.aload_n 2, 1) := by decide +kernel
theorem d_La_law_378 : decode b_La_law 378 = .ok (.aload_n 0, 1) := by decide +kernel
theorem d_La_law_379 : decode b_La_law 379 = .ok (.iload 4, 2) := by decide +kernel
theorem d_La_law_381 : decode b_La_law 381 = .ok (.iconst 1, 1) := by decide +kernel
theorem d_La_law_382 : decode b_La_law 382 = .ok (.iadd, 1) := by decide +kernel
theorem d_La_law_383 : decode b_La_law 383 = .ok (.iaload, 1) := by decide +kernel
theorem d_La_law_384 : decode b_La_law 384 = .ok (.aload_n 0, 1) := by decide +kernel
theorem d_La_law_385 : decode b_La_law 385 = .ok (.iload 4, 2) := by decide +kernel
theorem d_La_law_387 : decode b_La_law 387 = .ok (.iconst 2, 1) := by decide +kernel
theorem d_La_law_388 : decode b_La_law 388 = .ok (.iadd, 1) := by decide +kernel
theorem d_La_law_389 : decode b_La_law 389 = .ok (.iaload, 1) := by decide +kernel
theorem d_La_law_390 : decode b_La_law 390 = .ok (.invokevirtual 93, 3) := by decide +kernel
theorem d_La_law_393 : decode b_La_law 393 = .ok (.aload_n 2, 1) := by decide +kernel
theorem d_La_law_394 : decode b_La_law 394 = .ok (.invokevirtual 73, 3) := by decide +kernel
theorem d_La_law_397 : decode b_La_law 397 = .ok (.iload 5, 2) := by decide +kernel
theorem d_La_law_399 : decode b_La_law 399 = .ok (.if_icmp .eq 5, 3) := by decide +kernel
theorem d_La_law_402 : decode b_La_law 402 = .ok (.iconst 0, 1) := by decide +kernel
theorem d_La_law_403 : decode b_La_law 403 = .ok (.ireturn, 1) := by decide +kernel
theorem d_La_law_404 : decode b_La_law 404 = .ok (.goto 483, 3) := by decide +kernel
theorem d_La_law_407 : decode b_La_law 407 = .ok (.aload_n 1, 1) := by decide +kernel
theorem d_La_law_408 : decode b_La_law 408 = .ok (.aload_n 0, 1) := by decide +kernel
theorem d_La_law_409 : decode b_La_law 409 = .ok (.iload 4, 2) := by decide +kernel
theorem d_La_law_411 : decode b_La_law 411 = .ok (.iconst 1, 1) := by decide +kernel
theorem d_La_law_412 : decode b_La_law 412 = .ok (.iadd, 1) := by decide +kernel
theorem d_La_law_413 : decode b_La_law 413 = .ok (.iaload, 1) := by decide +kernel
theorem d_La_law_414 : decode b_La_law 414 = .ok (.aload_n 0, 1) := by decide +kernel
theorem d_La_law_415 : decode b_La_law 415 = .ok (.iload 4, 2) := by decide +kernel
theorem d_La_law_417 : decode b_La_law 417 = .ok (.iconst 2, 1) := by decide +kernel
theorem d_La_law_418 : decode b_La_law 418 = .ok (.iadd, 1) := by decide +kernel
theorem d_La_law_419 : decode b_La_law 419 = .ok (.iaload, 1) := by decide +kernel
theorem d_La_law_420 : decode b_La_law 420 = .ok (.invokestatic 94, 3) := by decide +kernel
theorem d_La_law_423 : decode b_La_law 423 = .ok (.istore 5, 2) := by decide +kernel
theorem d_La_law_425 : decode b_La_law 425 = .ok (.aload_n 2, 1) := by decide +kernel
theorem d_La_law_426 : decode b_La_law 426 = .ok (.aload_n 0, 1) := by decide +kernel
theorem d_La_law_427 : decode b_La_law 427 = .ok (.iload 4, 2) := by decide +kernel
theorem d_La_law_429 : decode b_La_law 429 = .ok (.iconst 1, 1) := by decide +kernel
theorem d_La_law_430 : decode b_La_law 430 = .ok (.iadd, 1) := by decide +kernel
theorem d_La_law_431 : decode b_La_law 431 = .ok (.iaload, 1) := by decide +kernel
theorem d_La_law_432 : decode b_La_law 432 = .ok (.aload_n 0, 1) := by decide +kernel
theorem d_La_law_433 : decode b_La_law 433 = .ok (.iload 4, 2) := by decide +kernel
theorem d_La_law_435 : decode b_La_law 435 = .ok (.iconst 2, 1) := by decide +kernel
theorem d_La_law_436 : decode b_La_law 436 = .ok (.iadd, 1) := by decide +kernel
theorem d_La_law_437 : decode b_La_law 437 = .ok (.iaload, 1) := by decide +kernel
theorem d_La_law_438 : decode b_La_law 438 = .ok (.invokevirtual 96, 3) := by decide +kernel
theorem d_La_law_441 : decode b_La_law 441 = .ok (.aload_n 2, 1) := by decide +kernel
theorem d_La_law_442 : decode b_La_law 442 = .ok (.invokevirtual 73, 3) := by decide +kernel
theorem d_La_law_445 : decode b_La_law 445 = .ok (.iload 5, 2) := by decide +kernel
theorem d_La_law_447 : decode b_La_law 447 = .ok (.if_icmp .eq 5, 3) := by decide +kernel
theorem d_La_law_450 : decode b_La_law 450 = .ok (.iconst 0, 1) := by decide +kernel
end
section
theorem d_La_law_451 : decode b_La_law 451 = .ok (.ireturn, 1) := by decide +kernel
theorem d_La_law_452 : decode b_La_law 452 = .ok (.goto 435, 3) := by decide +kernel
theorem d_La_law_455 : decode b_La_law 455 = .ok (.aload_n 1, 1) := by decide +kernel
theorem d_La_law_456 : decode b_La_law 456 = .ok (.aload_n 0, 1) := by decide +kernel
theorem d_La_law_457 : decode b_La_law 457 = .ok (.iload 4, 2) := by decide +kernel
theorem d_La_law_459 : decode b_La_law 459 = .ok (.iconst 1, 1) := by decide +kernel
theorem d_La_law_460 : decode b_La_law 460 = .ok (.iadd, 1) := by decide +kernel
theorem d_La_law_461 : decode b_La_law 461 = .ok (.iaload, 1) := by decide +kernel
theorem d_La_law_462 : decode b_La_law 462 = .ok (.aload_n 0, 1) := by decide +kernel
theorem d_La_law_463 : decode b_La_law 463 = .ok (.iload 4, 2) := by decide +kernel
theorem d_La_law_465 : decode b_La_law 465 = .ok (.iconst 2, 1) := by decide +kernel
theorem d_La_law_466 : decode b_La_law 466 = .ok (.iadd, 1) := by decide +kernel
theorem d_La_law_467 : decode b_La_law 467 = .ok (.iaload, 1) := by decide +kernel
theorem d_La_law_468 : decode b_La_law 468 = .ok (.invokestatic 97, 3) := by decide +kernel
theorem d_La_law_471 : decode b_La_law 471 = .ok (.istore 5, 2) := by decide +kernel
theorem d_La_law_473 : decode b_La_law 473 = .ok (.aload_n 2, 1) := by decide +kernel
theorem d_La_law_474 : decode b_La_law 474 = .ok (.aload_n 0, 1) := by decide +kernel
theorem d_La_law_475 : decode b_La_law 475 = .ok (.iload 4, 2) := by decide +kernel
theorem d_La_law_477 : decode b_La_law 477 = .ok (.iconst 1, 1) := by decide +kernel
theorem d_La_law_478 : decode b_La_law 478 = .ok (.iadd, 1) := by decide +kernel
theorem d_La_law_479 : decode b_La_law 479 = .ok (.iaload, 1) := by decide +kernel
theorem d_La_law_480 : decode b_La_law 480 = .ok (.aload_n 0, 1) := by decide +kernel
theorem d_La_law_481 : decode b_La_law 481 = .ok (.iload 4, 2) := by decide +kernel
theorem d_La_law_483 : decode b_La_law 483 = .ok (.iconst 2, 1) := by decide +kernel
theorem d_La_law_484 : decode b_La_law 484 = .ok (.iadd, 1) := by decide +kernel
theorem d_La_law_485 : decode b_La_law 485 = .ok (.iaload, 1) := by decide +kernel
theorem d_La_law_486 : decode b_La_law 486 = .ok (.invokevirtual 99, 3) := by decide +kernel
theorem d_La_law_489 : decode b_La_law 489 = .ok (.aload_n 2, 1) := by decide +kernel
theorem d_La_law_490 : decode b_La_law 490 = .ok (.invokevirtual 73, 3) := by decide +kernel
theorem d_La_law_493 : decode b_La_law 493 = .ok (.iload 5, 2) := by decide +kernel
theorem d_La_law_495 : decode b_La_law 495 = .ok (.if_icmp .eq 5, 3) := by decide +kernel
theorem d_La_law_498 : decode b_La_law 498 = .ok (.iconst 0, 1) := by decide +kernel
theorem d_La_law_499 : decode b_La_law 499 = .ok (.ireturn, 1) := by decide +kernel
theorem d_La_law_500 : decode b_La_law 500 = .ok (.goto 387, 3) := by decide +kernel
theorem d_La_law_503 : decode b_La_law 503 = .ok (.aload_n 1, 1) := by decide +kernel
theorem d_La_law_504 : decode b_La_law 504 = .ok (.aload_n 0, 1) := by decide +kernel
theorem d_La_law_505 : decode b_La_law 505 = .ok (.iload 4, 2) := by decide +kernel
theorem d_La_law_507 : decode b_La_law 507 = .ok (.iconst 1, 1) := by decide +kernel
theorem d_La_law_508 : decode b_La_law 508 = .ok (.iadd, 1) := by decide +kernel
theorem d_La_law_509 : decode b_La_law 509 = .ok (.iaload, 1) := by decide +kernel
theorem d_La_law_510 : decode b_La_law 510 = .ok (.invokestatic 100, 3) := by decide +kernel
theorem d_La_law_513 : decode b_La_law 513 = .ok (.istore 5, 2) := by decide +kernel
theorem d_La_law_515 : decode b_La_law 515 = .ok (.aload_n 2, 1) := by decide +kernel
theorem d_La_law_516 : decode b_La_law 516 = .ok (.aload_n 0, 1) := by decide +kernel
theorem d_La_law_517 : decode b_La_law 517 = .ok (.iload 4, 2) := by decide +kernel
theorem d_La_law_519 : decode b_La_law 519 = .ok (.iconst 1, 1) := by decide +kernel
theorem d_La_law_520 : decode b_La_law 520 = .ok (.iadd, 1) := by decide +kernel
theorem d_La_law_521 : decode b_La_law 521 = .ok (.iaload, 1) := by decide +kernel
theorem d_La_law_522 : decode b_La_law 522 = .ok (.invokevirtual 103, 3) := by decide +kernel
theorem d_La_law_525 : decode b_La_law 525 = .ok (.aload_n 2, 1) := by decide +kernel
theorem d_La_law_526 : decode b_La_law 526 = .ok (.invokevirtual 73, 3) := by decide +kernel
theorem d_La_law_529 : decode b_La_law 529 = .ok (.iload 5, 2) := by decide +kernel
theorem d_La_law_531 : decode b_La_law 531 = .ok (.if_icmp .eq 5, 3) := by decide +kernel
theorem d_La_law_534 : decode b_La_law 534 = .ok (.iconst 0, 1) := by decide +kernel
theorem d_La_law_535 : decode b_La_law 535 = .ok (.ireturn, 1) := by decide +kernel
theorem d_La_law_536 : decode b_La_law 536 = .ok (.goto 351, 3) := by decide +kernel
theorem d_La_law_539 : decode b_La_law 539 = .ok (.aload_n 1, 1) := by decide +kernel
theorem d_La_law_540 : decode b_La_law 540 = .ok (.aload_n 0, 1) := by decide +kernel
theorem d_La_law_541 : decode b_La_law 541 = .ok (.iload 4, 2) := by decide +kernel
theorem d_La_law_543 : decode b_La_law 543 = .ok (.iconst 1, 1) := by decide +kernel
theorem d_La_law_544 : decode b_La_law 544 = .ok (.iadd, 1) := by decide +kernel
theorem d_La_law_545 : decode b_La_law 545 = .ok (.iaload, 1) := by decide +kernel
theorem d_La_law_546 : decode b_La_law 546 = .ok (.aload_n 0, 1) := by decide +kernel
theorem d_La_law_547 : decode b_La_law 547 = .ok (.iload 4, 2) := by decide +kernel
theorem d_La_law_549 : decode b_La_law 549 = .ok (.iconst 2, 1) := by decide +kernel
theorem d_La_law_550 : decode b_La_law 550 = .ok (.iadd, 1) := by decide +kernel
theorem d_La_law_551 : decode b_La_law 551 = .ok (.iaload, 1) := by decide +kernel
theorem d_La_law_552 : decode b_La_law 552 = .ok (.invokestatic 104, 3) := by decide +kernel
theorem d_La_law_555 : decode b_La_law 555 = .ok (.istore 5, 2) := by decide +kernel
theorem d_La_law_557 : decode b_La_law 557 = .ok (.aload_n 2, 1) := by decide +kernel
theorem d_La_law_558 : decode b_La_law 558 = .ok (.aload_n 0, 1) := by decide +kernel
theorem d_La_law_559 : decode b_La_law 559 = .ok (.iload 4, 2) := by decide +kernel
theorem d_La_law_561 : decode b_La_law 561 = .ok (.iconst 1, 1) := by decide +kernel
theorem d_La_law_562 : decode b_La_law 562 = .ok (.iadd, 1) := by decide +kernel
theorem d_La_law_563 : decode b_La_law 563 = .ok (.iaload, 1) := by decide +kernel
theorem d_La_law_564 : decode b_La_law 564 = .ok (.aload_n 0, 1) := by decide +kernel
theorem d_La_law_565 : decode b_La_law 565 = .ok (.iload 4, 2) := by decide +kernel
theorem d_La_law_567 : decode b_La_law 567 = .ok (.iconst 2, 1) := by decide +kernel
theorem d_La_law_568 : decode b_La_law 568 = .ok (.iadd, 1) := by decide +kernel
theorem d_La_law_569 : decode b_La_law 569 = .ok (.iaload, 1) := by decide +kernel
theorem d_La_law_570 : decode b_La_law 570 = .ok (.invokevirtual 106, 3) := by decide +kernel
theorem d_La_law_573 : decode b_La_law 573 = .ok (.aload_n 2, 1) := by decide +kernel
theorem d_La_law_574 : decode b_La_law 574 = .ok (.invokevirtual 73, 3) := by decide +kernel
theorem d_La_law_577 : decode b_La_law 577 = .ok (.iload 5, 2) := by decide +kernel
theorem d_La_law_579 : decode b_La_law 579 = .ok (.if_icmp .eq 5, 3) := by decide +kernel
theorem d_La_law_582 : decode b_La_law 582 = .ok (.iconst 0, 1) := by decide +kernel
theorem d_La_law_583 : decode b_La_law 583 = .ok (.ireturn, 1) := by decide +kernel
theorem d_La_law_584 : decode b_La_law 584 = .ok (.goto 303, 3) := by decide +kernel
theorem d_La_law_587 : decode b_La_law 587 = .ok (.aload_n 1, 1) := by decide +kernel
theorem d_La_law_588 : decode b_La_law 588 = .ok (.aload_n 0, 1) := by decide +kernel
theorem d_La_law_589 : decode b_La_law 589 = .ok (.iload 4, 2) := by decide +kernel
theorem d_La_law_591 : decode b_La_law 591 = .ok (.iconst 1, 1) := by decide +kernel
theorem d_La_law_592 : decode b_La_law 592 = .ok (.iadd, 1) := by decide +kernel
theorem d_La_law_593 : decode b_La_law 593 = .ok (.iaload, 1) := by decide +kernel
theorem d_La_law_594 : decode b_La_law 594 = .ok (.aload_n 0, 1) := by decide +kernel
theorem d_La_law_595 : decode b_La_law 595 = .ok (.iload 4, 2) := by decide +kernel
theorem d_La_law_597 : decode b_La_law 597 = .ok (.iconst 2, 1) := by decide +kernel
theorem d_La_law_598 : decode b_La_law 598 = .ok (.iadd, 1) := by decide +kernel
theorem d_La_law_599 : decode b_La_law 599 = .ok (.iaload, 1) := by decide +kernel
theorem d_La_law_600 : decode b_La_law 600 = .ok (.invokestatic 107, 3) := by decide +kernel
theorem d_La_law_603 : decode b_La_law 603 = .ok (.istore 5, 2) := by decide +kernel
theorem d_La_law_605 : decode b_La_law 605 = .ok (.aload_n 2, 1) := by decide +kernel
theorem d_La_law_606 : decode b_La_law 606 = .ok (.aload_n 0, 1) := by decide +kernel
theorem d_La_law_607 : decode b_La_law 607 = .ok (.iload 4, 2) := by decide +kernel
theorem d_La_law_609 : decode b_La_law 609 = .ok (.iconst 1, 1) := by decide +kernel
theorem d_La_law_610 : decode b_La_law 610 = .ok (.iadd, 1) := by decide +kernel
theorem d_La_law_611 : decode b_La_law 611 = .ok (.iaload, 1) := by decide +kernel
theorem d_La_law_612 : decode b_La_law 612 = .ok (.aload_n 0, 1) := by decide +kernel
theorem d_La_law_613 : decode b_La_law 613 = .ok (.iload 4, 2) := by decide +kernel
theorem d_La_law_615 : decode b_La_law 615 = .ok (.iconst 2, 1) := by decide +kernel
theorem d_La_law_616 : decode b_La_law 616 = .ok (.iadd, 1) := by decide +kernel
theorem d_La_law_617 : decode b_La_law 617 = .ok (.iaload, 1) := by decide +kernel
theorem d_La_law_618 : decode b_La_law 618 = .ok (.invokevirtual 109, 3) := by decide +kernel
theorem d_La_law_621 : decode b_La_law 621 = .ok (.aload_n 2, 1) := by decide +kernel
theorem d_La_law_622 : decode b_La_law 622 = .ok (.invokevirtual 73, 3) := by decide +kernel
theorem d_La_law_625 : decode b_La_law 625 = .ok (.iload 5, 2) := by decide +kernel
theorem d_La_law_627 : decode b_La_law 627 = .ok (.if_icmp .eq 5, 3) := by decide +kernel
theorem d_La_law_630 : decode b_La_law 630 = .ok (.iconst 0, 1) := by decide +kernel
theorem d_La_law_631 : decode b_La_law 631 = .ok (.ireturn, 1) := by decide +kernel
theorem d_La_law_632 : decode b_La_law 632 = .ok (.goto 255, 3) := by decide +kernel
theorem d_La_law_635 : decode b_La_law 635 = .ok (.aload_n 1, 1) := by decide +kernel
theorem d_La_law_636 : decode b_La_law 636 = .ok (.invokevirtual 110, 3) := by decide +kernel
theorem d_La_law_639 : decode b_La_law 639 = .ok (.aload_n 2, 1) := by decide +kernel
theorem d_La_law_640 : decode b_La_law 640 = .ok (.invokevirtual 113, 3) := by decide +kernel
theorem d_La_law_643 : decode b_La_law 643 = .ok (.if_icmp .eq 244, 3) := by decide +kernel
theorem d_La_law_646 : decode b_La_law 646 = .ok (.iconst 0, 1) := by decide +kernel
theorem d_La_law_647 : decode b_La_law 647 = .ok (.ireturn, 1) := by decide +kernel
theorem d_La_law_648 : decode b_La_law 648 = .ok (.aload_n 1, 1) := by decide +kernel
theorem d_La_law_649 : decode b_La_law 649 = .ok (.invokevirtual 114, 3) := by decide +kernel
theorem d_La_law_652 : decode b_La_law 652 = .ok (.aload_n 2, 1) := by decide +kernel
theorem d_La_law_653 : decode b_La_law 653 = .ok (.invokevirtual 117, 3) := by decide +kernel
theorem d_La_law_656 : decode b_La_law 656 = .ok (.if_icmp .eq 231, 3) := by decide +kernel
theorem d_La_law_659 : decode b_La_law 659 = .ok (.iconst 0, 1) := by decide +kernel
theorem d_La_law_660 : decode b_La_law 660 = .ok (.ireturn, 1) := by decide +kernel
theorem d_La_law_661 : decode b_La_law 661 = .ok (.aload_n 1, 1) := by decide +kernel
theorem d_La_law_662 : decode b_La_law 662 = .ok (.aload_n 0, 1) := by decide +kernel
theorem d_La_law_663 : decode b_La_law 663 = .ok (.iload 4, 2) := by decide +kernel
theorem d_La_law_665 : decode b_La_law 665 = .ok (.iconst 1, 1) := by decide +kernel
theorem d_La_law_666 : decode b_La_law 666 = .ok (.iadd, 1) := by decide +kernel
theorem d_La_law_667 : decode b_La_law 667 = .ok (.iaload, 1) := by decide +kernel
theorem d_La_law_668 : decode b_La_law 668 = .ok (.aload_n 3, 1) := by decide +kernel
theorem d_La_law_669 : decode b_La_law 669 = .ok (.invokestatic 118, 3) := by decide +kernel
theorem d_La_law_672 : decode b_La_law 672 = .ok (.istore 5, 2) := by decide +kernel
theorem d_La_law_674 : decode b_La_law 674 = .ok (.aload_n 2, 1) := by decide +kernel
theorem d_La_law_675 : decode b_La_law 675 = .ok (.aload_n 0, 1) := by decide +kernel
theorem d_La_law_676 : decode b_La_law 676 = .ok (.iload 4, 2) := by decide +kernel
theorem d_La_law_678 : decode b_La_law 678 = .ok (.iconst 1, 1) := by decide +kernel
theorem d_La_law_679 : decode b_La_law 679 = .ok (.iadd, 1) := by decide +kernel
theorem d_La_law_680 : decode b_La_law 680 = .ok (.iaload, 1) := by decide +kernel
theorem d_La_law_681 : decode b_La_law 681 = .ok (.invokevirtual 120, 3) := by decide +kernel
theorem d_La_law_684 : decode b_La_law 684 = .ok (.istore 6, 2) := by decide +kernel
theorem d_La_law_686 : decode b_La_law 686 = .ok (.aload_n 2, 1) := by decide +kernel
theorem d_La_law_687 : decode b_La_law 687 = .ok (.invokevirtual 73, 3) := by decide +kernel
theorem d_La_law_690 : decode b_La_law 690 = .ok (.iload 5, 2) := by decide +kernel
theorem d_La_law_692 : decode b_La_law 692 = .ok (.if_icmp .eq 5, 3) := by decide +kernel
theorem d_La_law_695 : decode b_La_law 695 = .ok (.iconst 0, 1) := by decide +kernel
theorem d_La_law_696 : decode b_La_law 696 = .ok (.ireturn, 1) := by decide +kernel
theorem d_La_law_697 : decode b_La_law 697 = .ok (.iload 5, 2) := by decide +kernel
theorem d_La_law_699 : decode b_La_law 699 = .ok (.ifCond .ne 15, 3) := by decide +kernel
theorem d_La_law_702 : decode b_La_law 702 = .ok (.aload_n 3, 1) := by decide +kernel
theorem d_La_law_703 : decode b_La_law 703 = .ok (.iconst 0, 1) := by decide +kernel
theorem d_La_law_704 : decode b_La_law 704 = .ok (.laload, 1) := by decide +kernel
theorem d_La_law_705 : decode b_La_law 705 = .ok (.iload 6, 2) := by decide +kernel
theorem d_La_law_707 : decode b_La_law 707 = .ok (.i2l, 1) := by decide +kernel
theorem d_La_law_708 : decode b_La_law 708 = .ok (.lcmp, 1) := by decide +kernel
theorem d_La_law_709 : decode b_La_law 709 = .ok (.ifCond .eq 5, 3) := by decide +kernel
theorem d_La_law_712 : decode b_La_law 712 = .ok (.iconst 0, 1) := by decide +kernel
theorem d_La_law_713 : decode b_La_law 713 = .ok (.ireturn, 1) := by decide +kernel
theorem d_La_law_714 : decode b_La_law 714 = .ok (.goto 173, 3) := by decide +kernel
theorem d_La_law_717 : decode b_La_law 717 = .ok (.aload_n 1, 1) := by decide +kernel
theorem d_La_law_718 : decode b_La_law 718 = .ok (.invokevirtual 121, 3) := by decide +kernel
theorem d_La_law_721 : decode b_La_law 721 = .ok (.aload_n 2, 1) := by decide +kernel
theorem d_La_law_722 : decode b_La_law 722 = .ok (.invokevirtual 124, 3) := by decide +kernel
theorem d_La_law_725 : decode b_La_law 725 = .ok (.if_icmp .eq 162, 3) := by decide +kernel
theorem d_La_law_728 : decode b_La_law 728 = .ok (.iconst 0, 1) := by decide +kernel
theorem d_La_law_729 : decode b_La_law 729 = .ok (.ireturn, 1) := by decide +kernel
theorem d_La_law_730 : decode b_La_law 730 = .ok (.aload_n 1, 1) := by decide +kernel
theorem d_La_law_731 : decode b_La_law 731 = .ok (.invokevirtual 125, 3) := by decide +kernel
theorem d_La_law_734 : decode b_La_law 734 = .ok (.aload_n 2, 1) := by decide +kernel
theorem d_La_law_735 : decode b_La_law 735 = .ok (.invokevirtual 128, 3) := by decide +kernel
theorem d_La_law_738 : decode b_La_law 738 = .ok (.if_icmp .eq 149, 3) := by decide +kernel
theorem d_La_law_741 : decode b_La_law 741 = .ok (.iconst 0, 1) := by decide +kernel
theorem d_La_law_742 : decode b_La_law 742 = .ok (.ireturn, 1) := by decide +kernel
theorem d_La_law_743 : decode b_La_law 743 = .ok (.aload_n 1, 1) := by decide +kernel
theorem d_La_law_744 : decode b_La_law 744 = .ok (.aload_n 0, 1) := by decide +kernel
theorem d_La_law_745 : decode b_La_law 745 = .ok (.iload 4, 2) := by decide +kernel
theorem d_La_law_747 : decode b_La_law 747 = .ok (.iconst 1, 1) := by decide +kernel
theorem d_La_law_748 : decode b_La_law 748 = .ok (.iadd, 1) := by decide +kernel
theorem d_La_law_749 : decode b_La_law 749 = .ok (.iaload, 1) := by decide +kernel
theorem d_La_law_750 : decode b_La_law 750 = .ok (.aload_n 0, 1) := by decide +kernel
theorem d_La_law_751 : decode b_La_law 751 = .ok (.iload 4, 2) := by decide +kernel
theorem d_La_law_753 : decode b_La_law 753 = .ok (.iconst 2, 1) := by decide +kernel
theorem d_La_law_754 : decode b_La_law 754 = .ok (.iadd, 1) := by decide +kernel
theorem d_La_law_755 : decode b_La_law 755 = .ok (.iaload, 1) := by decide +kernel
theorem d_La_law_756 : decode b_La_law 756 = .ok (.aload_n 3, 1) := by decide +kernel
theorem d_La_law_757 : decode b_La_law 757 = .ok (.invokestatic 129, 3) := by decide +kernel
theorem d_La_law_760 : decode b_La_law 760 = .ok (.istore 5, 2) := by decide +kernel
theorem d_La_law_762 : decode b_La_law 762 = .ok (.aload_n 2, 1) := by decide +kernel
theorem d_La_law_763 : decode b_La_law 763 = .ok (.aload_n 0, 1) := by decide +kernel
theorem d_La_law_764 : decode b_La_law 764 = .ok (.iload 4, 2) := by decide +kernel
theorem d_La_law_766 : decode b_La_law 766 = .ok (.iconst 1, 1) := by decide +kernel
theorem d_La_law_767 : decode b_La_law 767 = .ok (.iadd, 1) := by decide +kernel
theorem d_La_law_768 : decode b_La_law 768 = .ok (.iaload, 1) := by decide +kernel
theorem d_La_law_769 : decode b_La_law 769 = .ok (.aload_n 0, 1) := by decide +kernel
theorem d_La_law_770 : decode b_La_law 770 = .ok (.iload 4, 2) := by decide +kernel
theorem d_La_law_772 : decode b_La_law 772 = .ok (.iconst 2, 1) := by decide +kernel
theorem d_La_law_773 : decode b_La_law 773 = .ok (.iadd, 1) := by decide +kernel
theorem d_La_law_774 : decode b_La_law 774 = .ok (.iaload, 1) := by decide +kernel
theorem d_La_law_775 : decode b_La_law 775 = .ok (.invokevirtual 132, 3) := by decide +kernel
theorem d_La_law_778 : decode b_La_law 778 = .ok (.istore 6, 2) := by decide +kernel
theorem d_La_law_780 : decode b_La_law 780 = .ok (.aload_n 2, 1) := by decide +kernel
theorem d_La_law_781 : decode b_La_law 781 = .ok (.invokevirtual 73, 3) := by decide +kernel
theorem d_La_law_784 : decode b_La_law 784 = .ok (.iload 5, 2) := by decide +kernel
theorem d_La_law_786 : decode b_La_law 786 = .ok (.if_icmp .eq 5, 3) := by decide +kernel
theorem d_La_law_789 : decode b_La_law 789 = .ok (.iconst 0, 1) := by decide +kernel
theorem d_La_law_790 : decode b_La_law 790 = .ok (.ireturn, 1) := by decide +kernel
theorem d_La_law_791 : decode b_La_law 791 = .ok (.iload 5, 2) := by decide +kernel
theorem d_La_law_793 : decode b_La_law 793 = .ok (.ifCond .ne 15, 3) := by decide +kernel
theorem d_La_law_796 : decode b_La_law 796 = .ok (.aload_n 3, 1) := by decide +kernel
theorem d_La_law_797 : decode b_La_law 797 = .ok (.iconst 0, 1) := by decide +kernel
theorem d_La_law_798 : decode b_La_law 798 = .ok (.laload, 1) := by decide +kernel
theorem d_La_law_799 : decode b_La_law 799 = .ok (.iload 6, 2) := by decide +kernel
theorem d_La_law_801 : decode b_La_law 801 = .ok (.i2l, 1) := by decide +kernel
theorem d_La_law_802 : decode b_La_law 802 = .ok (.lcmp, 1) := by decide +kernel
theorem d_La_law_803 : decode b_La_law 803 = .ok (.ifCond .eq 5, 3) := by decide +kernel
theorem d_La_law_806 : decode b_La_law 806 = .ok (.iconst 0, 1) := by decide +kernel
theorem d_La_law_807 : decode b_La_law 807 = .ok (.ireturn, 1) := by decide +kernel
theorem d_La_law_808 : decode b_La_law 808 = .ok (.goto 79, 3) := by decide +kernel
theorem d_La_law_811 : decode b_La_law 811 = .ok (.aload_n 1, 1) := by decide +kernel
theorem d_La_law_812 : decode b_La_law 812 = .ok (.invokevirtual 133, 3) := by decide +kernel
theorem d_La_law_815 : decode b_La_law 815 = .ok (.aload_n 2, 1) := by decide +kernel
theorem d_La_law_816 : decode b_La_law 816 = .ok (.invokevirtual 136, 3) := by decide +kernel
theorem d_La_law_819 : decode b_La_law 819 = .ok (.if_icmp .eq 68, 3) := by decide +kernel
theorem d_La_law_822 : decode b_La_law 822 = .ok (.iconst 0, 1) := by decide +kernel
theorem d_La_law_823 : decode b_La_law 823 = .ok (.ireturn, 1) := by decide +kernel
theorem d_La_law_824 : decode b_La_law 824 = .ok (.aload_n 1, 1) := by decide +kernel
theorem d_La_law_825 : decode b_La_law 825 = .ok (.aload_n 0, 1) := by decide +kernel
theorem d_La_law_826 : decode b_La_law 826 = .ok (.iload 4, 2) := by decide +kernel
theorem d_La_law_828 : decode b_La_law 828 = .ok (.iconst 1, 1) := by decide +kernel
theorem d_La_law_829 : decode b_La_law 829 = .ok (.iadd, 1) := by decide +kernel
theorem d_La_law_830 : decode b_La_law 830 = .ok (.iaload, 1) := by decide +kernel
theorem d_La_law_831 : decode b_La_law 831 = .ok (.aload_n 3, 1) := by decide +kernel
theorem d_La_law_832 : decode b_La_law 832 = .ok (.invokestatic 137, 3) := by decide +kernel
theorem d_La_law_835 : decode b_La_law 835 = .ok (.istore 5, 2) := by decide +kernel
theorem d_La_law_837 : decode b_La_law 837 = .ok (.aload_n 2, 1) := by decide +kernel
theorem d_La_law_838 : decode b_La_law 838 = .ok (.aload_n 0, 1) := by decide +kernel
theorem d_La_law_839 : decode b_La_law 839 = .ok (.iload 4, 2) := by decide +kernel
theorem d_La_law_841 : decode b_La_law 841 = .ok (.iconst 1, 1) := by decide +kernel
theorem d_La_law_842 : decode b_La_law 842 = .ok (.iadd, 1) := by decide +kernel
theorem d_La_law_843 : decode b_La_law 843 = .ok (.iaload, 1) := by decide +kernel
theorem d_La_law_844 : decode b_La_law 844 = .ok (.invokevirtual 139, 3) := by decide +kernel
theorem d_La_law_847 : decode b_La_law 847 = .ok (.istore 6, 2) := by decide +kernel
theorem d_La_law_849 : decode b_La_law 849 = .ok (.aload_n 2, 1) := by decide +kernel
theorem d_La_law_850 : decode b_La_law 850 = .ok (.invokevirtual 73, 3) := by decide +kernel
theorem d_La_law_853 : decode b_La_law 853 = .ok (.iload 5, 2) := by decide +kernel
theorem d_La_law_855 : decode b_La_law 855 = .ok (.if_icmp .eq 5, 3) := by decide +kernel
theorem d_La_law_858 : decode b_La_law 858 = .ok (.iconst 0, 1) := by decide +kernel
theorem d_La_law_859 : decode b_La_law 859 = .ok (.ireturn, 1) := by decide +kernel
theorem d_La_law_860 : decode b_La_law 860 = .ok (.iload 5, 2) := by decide +kernel
theorem d_La_law_862 : decode b_La_law 862 = .ok (.ifCond .ne 22, 3) := by decide +kernel
theorem d_La_law_865 : decode b_La_law 865 = .ok (.aload_n 3, 1) := by decide +kernel
theorem d_La_law_866 : decode b_La_law 866 = .ok (.iconst 0, 1) := by decide +kernel
theorem d_La_law_867 : decode b_La_law 867 = .ok (.laload, 1) := by decide +kernel
theorem d_La_law_868 : decode b_La_law 868 = .ok (.iload 6, 2) := by decide +kernel
theorem d_La_law_870 : decode b_La_law 870 = .ok (.ifCond .eq 7, 3) := by decide +kernel
theorem d_La_law_873 : decode b_La_law 873 = .ok (.lconst 1, 1) := by decide +kernel
theorem d_La_law_874 : decode b_La_law 874 = .ok (.goto 4, 3) := by decide +kernel
theorem d_La_law_877 : decode b_La_law 877 = .ok (.lconst 0, 1) := by decide +kernel
theorem d_La_law_878 : decode b_La_law 878 = .ok (.lcmp, 1) := by decide +kernel
theorem d_La_law_879 : decode b_La_law 879 = .ok (.ifCond .eq 5, 3) := by decide +kernel
theorem d_La_law_882 : decode b_La_law 882 = .ok (.iconst 0, 1) := by decide +kernel
theorem d_La_law_883 : decode b_La_law 883 = .ok (.ireturn, 1) := by decide +kernel
theorem d_La_law_884 : decode b_La_law 884 = .ok (.goto 3, 3) := by decide +kernel
theorem d_La_law_887 : decode b_La_law 887 = .ok (.iinc 4 3, 3) := by decide +kernel
theorem d_La_law_890 : decode b_La_law 890 = .ok (.goto (-867), 3) := by decide +kernel
theorem d_La_law_893 : decode b_La_law 893 = .ok (.iconst 1, 1) := by decide +kernel
theorem d_La_law_894 : decode b_La_law 894 = .ok (.ireturn, 1) := by decide +kernel
end
section
/-! am: a world as plain functions. hi: the ints of a cell by slot, hr: its references by slot, sh: what lies at an address, sz: the heap's size.
Nothing is cut out and joined again: a method's contract speaks of the whole world; what it leaves alone is left alone by the functions themselves. -/
abbrev am_I : Type := Nat → Nat → Int32
abbrev am_R : Type := Nat → Nat → Option Nat
/-- .inl ci: an object of the class number ci; .inr (ty, n): an array of n places of type ty -/
abbrev am_S : Type := Nat → Option (Nat ⊕ (FieldType × Nat))
/-- 1: a reference; 2: a long (the law's own array; it holds longs of ints alone); 0: an int of some width -/
def am_k (t : FieldType) : Nat := match t with
  | .object _ => 1
  | .array _ => 1
  | .long => 2
  | _ => 0
theorem am_k_int : am_k .int = 0 := rfl
def am_v (t : FieldType) (x : Int32) (r : Option Nat) : Value := if am_k t = 1 then va_rf r else if am_k t = 2 then .long x.toInt64 else .int x
theorem am_v_i {t : FieldType} {x : Int32} {r : Option Nat} (h : am_k t = 0) : am_v t x r = .int x := by simp [am_v, h]
theorem am_v_r {t : FieldType} {x : Int32} {r : Option Nat} (h : am_k t = 1) : am_v t x r = va_rf r := by simp [am_v, h]
def am_up {α : Type} (f : Nat → Nat → α) (a k : Nat) (v : α) : Nat → Nat → α := fun q j => if q = a ∧ j = k then v else f q j
theorem am_up_eq {α : Type} (f : Nat → Nat → α) (a k : Nat) (v : α) : am_up f a k v a k = v := by simp [am_up]
theorem am_up_na {α : Type} {f : Nat → Nat → α} {a k q j : Nat} {v : α} (h : q ≠ a) : am_up f a k v q j = f q j := by simp [am_up, h]
theorem am_up_nk {α : Type} {f : Nat → Nat → α} {a k q j : Nat} {v : α} (h : j ≠ k) : am_up f a k v q j = f q j := by simp [am_up, h]
def am_cell (D : va_G) (cl : List vw_C) (ty : Nat → Nat → FieldType) (s : State) (hi : am_I) (hr : am_R) (H : Heap) (a : Nat) (e : Nat ⊕ (FieldType × Nat)) : Prop := match e with
  | .inl ci => ∃ r : vw_C, cl[ci]? = some r ∧ t_OB a (D.1 ci) r.2.2 (D.2 ci) H (fun k => am_v (ty ci k) (hi a k) (hr a k))
  | .inr (t, n) => ∃ cA : ClassId, H[a]? = some (arrV cA n (fun j => am_v t (hi a j) (hr a j))) ∧ ArrOfT s cA t ∧ va_RA s cA t
/-- a world: the heap's size, what lies where, the ints, the references -/
abbrev am_w : Type := Nat × am_S × am_I × am_R
def am_rep (D : va_G) (cl : List vw_C) (ty : Nat → Nat → FieldType) (A : Nat → Prop) (s : State) (w : am_w) (H : Heap) : Prop :=
  H.size = w.1 ∧ ∀ (a : Nat) (e : Nat ⊕ (FieldType × Nat)), w.2.1 a = some e → A a ∧ am_cell D cl ty s w.2.2.1 w.2.2.2 H a e
theorem am_cell.moved {D : va_G} {cl : List vw_C} {ty : Nat → Nat → FieldType} {u U : State} {hi : am_I} {hr : am_R} {H : Heap} {a : Nat} {e : Nat ⊕ (FieldType × Nat)} (hvm : u.vm.Alike U.vm) (h : am_cell D cl ty u hi hr H a e) : am_cell D cl ty U hi hr H a e := by
  rcases e with ci | ⟨t, n⟩
  · exact h
  · obtain ⟨cA, h1, h2, h3⟩ := h
    exact ⟨cA, h1, arrOfT_moved hvm h2, h3.moved hvm⟩
theorem am_rep.moved {D : va_G} {cl : List vw_C} {ty : Nat → Nat → FieldType} {A : Nat → Prop} {u U : State} {w : am_w} {H : Heap} (hvm : u.vm.Alike U.vm) (h : am_rep D cl ty A u w H) : am_rep D cl ty A U w H :=
  ⟨h.1, fun a e he => ⟨(h.2 a e he).1, (h.2 a e he).2.moved hvm⟩⟩
theorem am_cell.kept {D : va_G} {cl : List vw_C} {ty : Nat → Nat → FieldType} {s : State} {hi hi' : am_I} {hr hr' : am_R} {H H1 : Heap} {a : Nat} {e : Nat ⊕ (FieldType × Nat)} (h : am_cell D cl ty s hi hr H a e) (hH : H1[a]? = H[a]?) (h1 : ∀ j, hi' a j = hi a j) (h2 : ∀ j, hr' a j = hr a j) : am_cell D cl ty s hi' hr' H1 a e := by
  rcases e with ci | ⟨t, n⟩
  · obtain ⟨r, q1, q2⟩ := h
    exact ⟨r, q1, (q2.kept hH).to (fun k _ => by rw [h1 k, h2 k])⟩
  · obtain ⟨cA, q1, q2, q3⟩ := h
    refine ⟨cA, ?_, q2, q3⟩
    rw [hH, q1]
    congr 2
    funext j
    rw [h1 j, h2 j]
theorem am_cell.lt {D : va_G} {cl : List vw_C} {ty : Nat → Nat → FieldType} {s : State} {hi : am_I} {hr : am_R} {H : Heap} {a : Nat} {e : Nat ⊕ (FieldType × Nat)} (h : am_cell D cl ty s hi hr H a e) : a < H.size := by
  rcases e with ci | ⟨t, n⟩
  · obtain ⟨r, q1, cell, q2, -⟩ := h
    exact (Array.getElem?_eq_some_iff.mp q2).1
  · obtain ⟨cA, q1, -⟩ := h
    exact (Array.getElem?_eq_some_iff.mp q1).1
/-! the locals by their numbers -/
def am_as (lo : List (Option Value)) : List (Nat × Value) := (List.range lo.length).filterMap (fun j => (lo.getD j none).map (fun w => (j, w)))
theorem am_as_mem {lo : List (Option Value)} {q : Nat × Value} : q ∈ am_as lo ↔ lo[q.1]? = some (some q.2) := by
  unfold am_as
  rw [List.mem_filterMap]
  constructor
  · rintro ⟨j, hj, h⟩
    rw [List.mem_range] at hj
    rw [List.getD_eq_getElem?_getD, List.getElem?_eq_getElem hj, Option.getD_some] at h
    cases hv : lo[j] with
    | none => rw [hv] at h; cases h
    | some w =>
      rw [hv] at h
      cases h
      rw [List.getElem?_eq_getElem hj, hv]
  · intro h
    have hj : q.1 < lo.length := (List.getElem?_eq_some_iff.mp h).1
    exact ⟨q.1, List.mem_range.mpr hj, by rw [List.getD_eq_getElem?_getD, h]; rfl⟩
/-! the locals: what is left of them at a place where roads meet -/
def am_le : List (Option Value) → List (Option Value) → Prop
  | [], _ => True
  | none :: a, _ :: b => am_le a b
  | none :: a, [] => am_le a []
  | some v :: a, x :: b => x = some v ∧ am_le a b
  | some _ :: _, [] => False
theorem am_le_nil : ∀ (a : List (Option Value)) (i : Nat) (v : Value), am_le a [] → a[i]? = some (some v) → False
  | [], i, v, _, h => by simp at h
  | none :: a, 0, v, _, h => by simp at h
  | none :: a, i + 1, v, hl, h => am_le_nil a i v hl (by simpa using h)
  | some _ :: _, _, _, hl, _ => hl
theorem am_le_at : ∀ (a b : List (Option Value)) (i : Nat) (v : Value), am_le a b → a[i]? = some (some v) → b[i]? = some (some v)
  | [], _, i, v, _, h => by simp at h
  | none :: a, [], i, v, hl, h => (am_le_nil (none :: a) i v hl h).elim
  | none :: a, _ :: b, 0, v, _, h => by simp at h
  | none :: a, _ :: b, i + 1, v, hl, h => by
    have := am_le_at a b i v hl (by simpa using h)
    simpa using this
  | some u :: a, [], i, v, hl, h => hl.elim
  | some u :: a, x :: b, 0, v, hl, h => by
    have h1 : u = v := by simpa using h
    subst h1
    simpa using hl.1
  | some u :: a, x :: b, i + 1, v, hl, h => by
    have := am_le_at a b i v hl.2 (by simpa using h)
    simpa using this
def am_ls (ls : Array Slot) (nL : Nat) (lo : List (Option Value)) : Prop := lv_has ls nL (am_as lo) ∧ ∀ (i : Nat) (v : Value), lo[i]? = some (some v) → v.category = 1
theorem am_ls.at {ls : Array Slot} {nL : Nat} {lo : List (Option Value)} (h : am_ls ls nL lo) {i : Nat} {v : Value} (hi : lo[i]? = some (some v)) : ls[i]? = some (.val v) :=
  h.1.2.2 (i, v) (am_as_mem.mpr hi)
theorem am_ls.put {ls ls' : Array Slot} {nL : Nat} {lo : List (Option Value)} {i : Nat} {v : Value} (h : am_ls ls nL lo) (hc : v.category = 1)
    (h' : lv_has ls' nL ((i, v) :: (am_as lo).filter (fun q => !(q.1 == i) && !(q.1 + 1 == i && q.2.category == 2)))) : am_ls ls' nL (lo.set i (some v)) := by
  have key : ∀ (j : Nat) (w : Value), (lo.set i (some v))[j]? = some (some w) → (j = i ∧ w = v) ∨ (j ≠ i ∧ lo[j]? = some (some w)) := by
    intro j w hj
    rw [List.getElem?_set] at hj
    by_cases e : i = j
    · rw [if_pos e] at hj
      by_cases e2 : i < lo.length
      · rw [if_pos e2] at hj
        exact Or.inl ⟨e.symm, (Option.some.inj (Option.some.inj hj)).symm⟩
      · rw [if_neg e2] at hj
        cases hj
    · rw [if_neg e] at hj
      exact Or.inr ⟨fun q => e q.symm, hj⟩
  refine ⟨⟨h'.1, h'.2.1, fun q hq => ?_⟩, fun j w hj => ?_⟩
  · rcases key q.1 q.2 (am_as_mem.mp hq) with ⟨e1, e2⟩ | ⟨e1, e2⟩
    · rw [e1, e2]
      exact h'.2.2 (i, v) List.mem_cons_self
    · refine h'.2.2 q (List.mem_cons_of_mem _ (List.mem_filter.mpr ⟨am_as_mem.mpr e2, ?_⟩))
      have h1 := h.2 q.1 q.2 e2
      simp [e1, h1]
  · rcases key j w hj with ⟨-, e2⟩ | ⟨-, e2⟩
    · rw [e2]; exact hc
    · exact h.2 j w e2
/-- less is known of the locals -/
theorem am_ls.sub {ls : Array Slot} {nL : Nat} {lo lo' : List (Option Value)} (h : am_ls ls nL lo) (hs : ∀ (i : Nat) (v : Value), lo'[i]? = some (some v) → lo[i]? = some (some v)) : am_ls ls nL lo' :=
  ⟨⟨h.1.1, h.1.2.1, fun q hq => h.1.2.2 q (am_as_mem.mpr (hs _ _ (am_as_mem.mp hq)))⟩, fun i v hv => h.2 i v (hs i v hv)⟩
theorem am_ls.entry (vs : List Value) {n : Nat} (hn : (lg_sl vs).length ≤ n) (hc : ∀ v ∈ vs, v.category = 1) : am_ls ((lg_sl vs ++ List.replicate (n - (lg_sl vs).length) Slot.unset).toArray) n (vs.map some) := by
  have hl := lv_entry vs hn
  have hA : ∀ (vs : List Value) (k : Nat), (∀ v ∈ vs, v.category = 1) → ∀ (i : Nat) (w : Value), vs[i]? = some w → (k + i, w) ∈ lv_args k vs := by
    intro vs
    induction vs with
    | nil => intro k _ i w h; simp at h
    | cons v vs ih =>
      intro k hc i w h
      have h1 : v.category = 1 := hc v List.mem_cons_self
      have h2 : lv_args k (v :: vs) = (k, v) :: lv_args (k + 1) vs := by
        show (k, v) :: lv_args (if v.category = 2 then k + 2 else k + 1) vs = _
        rw [if_neg (by omega)]
      rw [h2]
      cases i with
      | zero =>
        rw [List.getElem?_cons_zero] at h
        cases h
        exact List.mem_cons_self
      | succ i =>
        rw [List.getElem?_cons_succ] at h
        have := ih (k + 1) (fun v hv => hc v (List.mem_cons_of_mem _ hv)) i w h
        rw [show k + (i + 1) = k + 1 + i by omega]
        exact List.mem_cons_of_mem _ this
  have hmap : ∀ (i : Nat) (v : Value), (vs.map some)[i]? = some (some v) → vs[i]? = some v := by
    intro i v h
    rw [List.getElem?_map] at h
    cases hv : vs[i]? with
    | none => rw [hv] at h; cases h
    | some w => rw [hv] at h; cases h; rfl
  refine ⟨⟨hl.1, hl.2.1, fun q hq => ?_⟩, fun i v hv => hc v (List.mem_of_getElem? (hmap i v hv))⟩
  have h1 := hA vs 0 hc q.1 q.2 (hmap _ _ (am_as_mem.mp hq))
  rw [Nat.zero_add] at h1
  exact hl.2.2 q h1
/-! what a program does to a world; none: it would not be a good step -/
def am_fg (ci k a : Nat) (w : am_w) : Option Int32 := match w.2.1 a with
  | some (.inl c) => if c = ci then some (w.2.2.1 a k) else none
  | _ => none
def am_rg (ci k a : Nat) (w : am_w) : Option Nat := match w.2.1 a with
  | some (.inl c) => if c = ci then w.2.2.2 a k else none
  | _ => none
def am_wi (w : am_w) (a k : Nat) (x : Int32) : am_w := (w.1, w.2.1, am_up w.2.2.1 a k x, w.2.2.2)
def am_wr (w : am_w) (a k b : Nat) : am_w := (w.1, w.2.1, w.2.2.1, am_up w.2.2.2 a k (some b))
def am_fp (ci k a : Nat) (x : Int32) (w : am_w) : Option am_w := match w.2.1 a with
  | some (.inl c) => if c = ci then some (am_wi w a k x) else none
  | _ => none
def am_rp (ci k a b : Nat) (w : am_w) : Option am_w := match w.2.1 a with
  | some (.inl c) => if c = ci then some (am_wr w a k b) else none
  | _ => none
def am_al (a : Nat) (w : am_w) : Option Int32 := match w.2.1 a with
  | some (.inr (_, n)) => some (Int32.ofNat n)
  | _ => none
def am_ig (a : Nat) (i : Int32) (w : am_w) : Option Int32 := match w.2.1 a with
  | some (.inr (.int, n)) => if i < 0 ∨ n ≤ i.toNatClampNeg then none else some (w.2.2.1 a i.toNatClampNeg)
  | _ => none
def am_is (a : Nat) (i x : Int32) (w : am_w) : Option am_w := match w.2.1 a with
  | some (.inr (.int, n)) => if i < 0 ∨ n ≤ i.toNatClampNeg then none else some (am_wi w a i.toNatClampNeg x)
  | _ => none
def am_cg (a : Nat) (i : Int32) (w : am_w) : Option Int32 := match w.2.1 a with
  | some (.inr (.char, n)) => if i < 0 ∨ n ≤ i.toNatClampNeg then none else some (w.2.2.1 a i.toNatClampNeg)
  | _ => none
def am_cs (a : Nat) (i x : Int32) (w : am_w) : Option am_w := match w.2.1 a with
  | some (.inr (.char, n)) => if i < 0 ∨ n ≤ i.toNatClampNeg then none else some (am_wi w a i.toNatClampNeg x.toUInt32.toUInt16.toUInt32.toInt32)
  | _ => none
def am_lg (a : Nat) (i : Int32) (w : am_w) : Option Int32 := match w.2.1 a with
  | some (.inr (.long, n)) => if i < 0 ∨ n ≤ i.toNatClampNeg then none else some (w.2.2.1 a i.toNatClampNeg)
  | _ => none
def am_lp (a : Nat) (i x : Int32) (w : am_w) : Option am_w := match w.2.1 a with
  | some (.inr (.long, n)) => if i < 0 ∨ n ≤ i.toNatClampNeg then none else some (am_wi w a i.toNatClampNeg x)
  | _ => none
def am_ag (a : Nat) (i : Int32) (w : am_w) : Option Nat := match w.2.1 a with
  | some (.inr (.object _, n)) => if i < 0 ∨ n ≤ i.toNatClampNeg then none else w.2.2.2 a i.toNatClampNeg
  | _ => none
def am_as9 (K : String) (ci a : Nat) (i : Int32) (b : Nat) (w : am_w) : Option am_w := match w.2.1 a, w.2.1 b with
  | some (.inr (.object K9, n)), some (.inl c) => if K9 = K ∧ c = ci ∧ ¬ (i < 0 ∨ n ≤ i.toNatClampNeg) then some (am_wr w a i.toNatClampNeg b) else none
  | _, _ => none
/-- a call upon the object at b -/
def am_ob {α : Type} (ci b : Nat) (w : am_w) (f : Option α) : Option α := match w.2.1 b with
  | some (.inl c) => if c = ci then f else none
  | _ => none
theorem am_ob_of {α : Type} {ci b : Nat} {w : am_w} {f : Option α} {q : α} (h : am_ob ci b w f = some q) : w.2.1 b = some (.inl ci) ∧ f = some q := by
  unfold am_ob at h
  split at h
  · rename_i c hc
    split at h
    · rename_i e; subst e; exact ⟨hc, h⟩
    · cases h
  · cases h
def am_sh (sh : am_S) (q : Nat) (e : Nat ⊕ (FieldType × Nat)) : am_S := fun x => if x = q then some e else sh x
def am_z {α : Type} (f : Nat → Nat → α) (q : Nat) (v : α) : Nat → Nat → α := fun x j => if x = q then v else f x j
/-- a new cell at the heap's end -/
def am_nw (e : Nat ⊕ (FieldType × Nat)) (w : am_w) : am_w := (w.1 + 1, am_sh w.2.1 w.1 e, am_z w.2.2.1 w.1 0, am_z w.2.2.2 w.1 none)
/-! a good step's grounds -/
theorem am_fg_of {ci k a : Nat} {w : am_w} {x : Int32} (h : am_fg ci k a w = some x) : w.2.1 a = some (.inl ci) ∧ x = w.2.2.1 a k := by
  unfold am_fg at h
  split at h
  · rename_i c hc
    split at h
    · rename_i e; subst e; cases h; exact ⟨hc, rfl⟩
    · cases h
  · cases h
theorem am_rg_of {ci k a b : Nat} {w : am_w} (h : am_rg ci k a w = some b) : w.2.1 a = some (.inl ci) ∧ w.2.2.2 a k = some b := by
  unfold am_rg at h
  split at h
  · rename_i c hc
    split at h
    · rename_i e; subst e; exact ⟨hc, h⟩
    · cases h
  · cases h
theorem am_fp_of {ci k a : Nat} {w w' : am_w} {x : Int32} (h : am_fp ci k a x w = some w') : w.2.1 a = some (.inl ci) ∧ w' = am_wi w a k x := by
  unfold am_fp at h
  split at h
  · rename_i c hc
    split at h
    · rename_i e; subst e; cases h; exact ⟨hc, rfl⟩
    · cases h
  · cases h
theorem am_rp_of {ci k a b : Nat} {w w' : am_w} (h : am_rp ci k a b w = some w') : w.2.1 a = some (.inl ci) ∧ w' = am_wr w a k b := by
  unfold am_rp at h
  split at h
  · rename_i c hc
    split at h
    · rename_i e; subst e; cases h; exact ⟨hc, rfl⟩
    · cases h
  · cases h
theorem am_al_of {a : Nat} {w : am_w} {x : Int32} (h : am_al a w = some x) : ∃ (t : FieldType) (n : Nat), w.2.1 a = some (.inr (t, n)) ∧ x = Int32.ofNat n := by
  unfold am_al at h
  split at h
  · rename_i t n hc; cases h; exact ⟨t, n, hc, rfl⟩
  · cases h
theorem am_ig_of {a : Nat} {i x : Int32} {w : am_w} (h : am_ig a i w = some x) : ∃ n : Nat, w.2.1 a = some (.inr (.int, n)) ∧ vp_in i n ∧ x = w.2.2.1 a i.toNatClampNeg := by
  unfold am_ig at h
  split at h
  · rename_i n hc
    split at h
    · cases h
    · rename_i e; cases h; exact ⟨n, hc, e, rfl⟩
  · cases h
theorem am_is_of {a : Nat} {i x : Int32} {w w' : am_w} (h : am_is a i x w = some w') : ∃ n : Nat, w.2.1 a = some (.inr (.int, n)) ∧ vp_in i n ∧ w' = am_wi w a i.toNatClampNeg x := by
  unfold am_is at h
  split at h
  · rename_i n hc
    split at h
    · cases h
    · rename_i e; cases h; exact ⟨n, hc, e, rfl⟩
  · cases h
theorem am_cg_of {a : Nat} {i x : Int32} {w : am_w} (h : am_cg a i w = some x) : ∃ n : Nat, w.2.1 a = some (.inr (.char, n)) ∧ vp_in i n ∧ x = w.2.2.1 a i.toNatClampNeg := by
  unfold am_cg at h
  split at h
  · rename_i n hc
    split at h
    · cases h
    · rename_i e; cases h; exact ⟨n, hc, e, rfl⟩
  · cases h
theorem am_cs_of {a : Nat} {i x : Int32} {w w' : am_w} (h : am_cs a i x w = some w') : ∃ n : Nat, w.2.1 a = some (.inr (.char, n)) ∧ vp_in i n ∧ w' = am_wi w a i.toNatClampNeg x.toUInt32.toUInt16.toUInt32.toInt32 := by
  unfold am_cs at h
  split at h
  · rename_i n hc
    split at h
    · cases h
    · rename_i e; cases h; exact ⟨n, hc, e, rfl⟩
  · cases h
theorem am_lg_of {a : Nat} {i x : Int32} {w : am_w} (h : am_lg a i w = some x) : ∃ n : Nat, w.2.1 a = some (.inr (.long, n)) ∧ vp_in i n ∧ x = w.2.2.1 a i.toNatClampNeg := by
  unfold am_lg at h
  split at h
  · rename_i n hc
    split at h
    · cases h
    · rename_i e; cases h; exact ⟨n, hc, e, rfl⟩
  · cases h
theorem am_lp_of {a : Nat} {i x : Int32} {w w' : am_w} (h : am_lp a i x w = some w') : ∃ n : Nat, w.2.1 a = some (.inr (.long, n)) ∧ vp_in i n ∧ w' = am_wi w a i.toNatClampNeg x := by
  unfold am_lp at h
  split at h
  · rename_i n hc
    split at h
    · cases h
    · rename_i e; cases h; exact ⟨n, hc, e, rfl⟩
  · cases h
theorem am_ag_of {a b : Nat} {i : Int32} {w : am_w} (h : am_ag a i w = some b) : ∃ (n : Nat) (K : String), w.2.1 a = some (.inr (.object K, n)) ∧ vp_in i n ∧ w.2.2.2 a i.toNatClampNeg = some b := by
  unfold am_ag at h
  split at h
  · rename_i K n hc
    split at h
    · cases h
    · rename_i e; exact ⟨n, K, hc, e, h⟩
  · cases h
theorem am_as9_of {K : String} {ci a b : Nat} {i : Int32} {w w' : am_w} (h : am_as9 K ci a i b w = some w') : ∃ n : Nat, w.2.1 a = some (.inr (.object K, n)) ∧ w.2.1 b = some (.inl ci) ∧ vp_in i n ∧ w' = am_wr w a i.toNatClampNeg b := by
  unfold am_as9 at h
  split at h
  · rename_i K9 n c hc hb
    split at h
    · rename_i e; obtain ⟨e1, e2, e3⟩ := e; subst e1; subst e2; cases h; exact ⟨n, hc, hb, e3, rfl⟩
    · cases h
  · cases h
theorem am_bind {α β : Type} {o : Option α} {K : α → Option β} {r : β} (h : o.bind K = some r) : ∃ x, o = some x ∧ K x = some r := by
  cases o with
  | none => cases h
  | some x => exact ⟨x, rfl, h⟩
/-! what else every contract stands on: words that are no plain words of the tables; the statics that a throw reads -/
def am_Zw : List Cond := lw_tbl.filter Cond.tabsOnly
/-- the three exceptions of the class, by number -/
def am_X (k : Nat) : String := if k = 1 then "java/lang/IllegalArgumentException" else if k = 2 then "java/lang/IllegalStateException" else "java/lang/IndexOutOfBoundsException"
def am_NC (U : State) : Prop := ∀ i j : Nat, 1 ≤ i → i ≤ 3 → 1 ≤ j → j ≤ 3 → i ≠ j → va_Nc (am_X i) (am_X j) U
def am_Z (U : State) : Prop := va_AO "RoverMinutes$Activity" U ∧ va_Nw (.methodLinkNest "RoverMinutes$Plan" 15 ⟨"RoverMinutes$Activity", "<init>", "()V"⟩ "RoverMinutes") U ∧ (∀ w ∈ am_Zw, w.before #[] U = true) ∧ am_NC U
theorem am_Z.warm {s U : State} (hZ : am_Z s) (hW : s.WarmedH U.vm) : am_Z U :=
  ⟨va_AO.moved hW.alike hZ.1, va_Nw.warmM hW hZ.2.1, fun w h => Cond.tabsOnly_warm (args := #[]) (args' := #[]) (s := s) (T := U) hW w (List.mem_filter.mp h).2 (hZ.2.2.1 w h), fun i j h1 h2 h3 h4 h5 => (hZ.2.2.2 i j h1 h2 h3 h4 h5).moved hW.alike⟩
theorem am_Z.same {u U : State} (h : u.vm = U.vm) (hZ : am_Z u) : am_Z U := hZ.warm (by rw [← h]; exact State.WarmedH.refl u)
theorem am_Z.word {s : State} (hZ : am_Z s) {args : Array Value} {w : Cond} (h : w ∈ am_Zw) : w.before args s = true := by
  have h1 := Cond.tabsOnly_warm (args := #[]) (args' := args) (s := s) (T := s) (State.WarmedH.refl s) w (List.mem_filter.mp h).2 (hZ.2.2.1 w h)
  exact h1
/-- a static that holds a reference or null, in a cell outside the zone -/
def am_Y1 (C n d : String) (A : Nat → Prop) (U : State) (H : Heap) : Prop := ∃ (c : ClassId) (k : Class) (i : Nat) (f : Field) (a : Nat) (cell : Cell) (v : Value), U.vm.findClass C = some c ∧ U.fieldFound? C n d = some (c, k, i, f) ∧ f.isStatic = true ∧ k.statics = some a ∧ H[a]? = some cell ∧ cell.vm.isStatics = true ∧ cell.cls = c ∧ f.slot < cell.slots.size ∧ k.staticTypes[f.slot]? = some f.type ∧ cell.slots[f.slot]? = some v ∧ (v = .null ∨ ∃ t, v = .ref t) ∧ ¬ A a
theorem am_Y1.moved {C n d : String} {A : Nat → Prop} {u U : State} {H : Heap} (h : am_Y1 C n d A u H) (hvm : u.vm.Alike U.vm) : am_Y1 C n d A U H := by
  obtain ⟨c, k, i, f, a, cell, v, h1, h2, h3, h4, h5, h6, h7, h8, h9, hr⟩ := h
  obtain ⟨k', hi', he⟩ := State.fieldFound?_setVm hvm h2
  exact ⟨c, k', i, f, a, cell, v, by rw [hvm.findClass]; exact h1, hi', h3, by rw [he]; exact h4, h5, h6, h7, h8, by rw [he]; exact h9, hr⟩
theorem am_Y1.kept {C n d : String} {A : Nat → Prop} {U : State} {H H1 : Heap} (h : am_Y1 C n d A U H) (hq : ∀ a : Nat, a < H.size → ¬ A a → H1[a]? = H[a]?) : am_Y1 C n d A U H1 := by
  obtain ⟨c, k, i, f, a, cell, v, h1, h2, h3, h4, h5, h6, h7, h8, h9, h10, h11, h12⟩ := h
  exact ⟨c, k, i, f, a, cell, v, h1, h2, h3, h4, by rw [hq a (Array.getElem?_eq_some_iff.mp h5).1 h12]; exact h5, h6, h7, h8, h9, h10, h11, h12⟩
theorem am_Y1.lays {C n d : String} {A : Nat → Prop} {s : State} {args : Array Value} (h : am_Y1 C n d A s s.heap) : (Cond.laysStatic C n d).before args s = true := by
  obtain ⟨c, k, i, f, a, cell, v, h1, h2, h3, h4, h5, h6, h7, h8, h9, h10, h11, h12⟩ := h
  simp [Cond.before, Cond.holds, Cond.value, h1, h2, h3, h4, h5, h6, h7, h8, h9]
theorem am_Y1.isRef {C n d : String} {A : Nat → Prop} {s : State} {args : Array Value} (h : am_Y1 C n d A s s.heap) : (Cond.isRef (.static C n d)).before args s = true := by
  obtain ⟨c, k, i, f, a, cell, v, h1, h2, h3, h4, h5, h6, h7, h8, h9, h10, h11, h12⟩ := h
  have key : (Term.static C n d).eval args s none [] s = some v := by
    simp [Term.eval, State.fieldNamed?, h2, h3, h4, h5, h6, h10]
  rcases h11 with h | ⟨t, h⟩
  · simp [Cond.before, Cond.holds, Cond.value, key, h]
  · simp [Cond.before, Cond.holds, Cond.value, key, h]
theorem am_Y1.of {C n d : String} {A : Nat → Prop} {s : State} {args : Array Value} (hl : (Cond.laysStatic C n d).before args s = true) (h : (Cond.isRef (.static C n d)).before args s = true) (hA : ∀ a : Nat, a < s.heap.size → ¬ A a) : am_Y1 C n d A s s.heap := by
  obtain ⟨c, k, i, f, a, cell, hc, hi, hst, ha, hcell, hs, hcls, hlt, hty⟩ := Cond.laysStatic_spec hl
  cases hv : (Term.static C n d).eval args s none [] s with
  | none => simp [Cond.before, Cond.holds, Cond.value, hv] at h
  | some w =>
    obtain ⟨hst', a', cell', ha', hcell', -, hslot⟩ := Term.static_spec hi hv
    cases ha.symm.trans ha'
    cases hcell.symm.trans hcell'
    refine ⟨c, k, i, f, a, cell, w, hc, hi, hst, ha, hcell, hs, hcls, hlt, hty, hslot, ?_, hA a (Array.getElem?_eq_some_iff.mp hcell).1⟩
    simp only [Cond.before, Cond.holds, Cond.value, hv] at h
    cases w with
    | null => exact Or.inl rfl
    | ref t => exact Or.inr ⟨t, rfl⟩
    | _ => simp at h
/-- the one text constant: its String at D.1 1000, the bytes of it at D.1 1001 -/
def am_by : List Int32 := [69, 68, 72, 60, 42]
def am_T (D : va_G) (A : Nat → Prop) (U : State) (H : Heap) : Prop := vk_S 1 [5] [am_by] (fun _ => D.1 1000) (fun _ => D.1 1001) A U H ∧ va_Z "java/lang/String" "COMPACT_STRINGS" "Z" (.int 1) A U H
def am_Y (D : va_G) (A : Nat → Prop) (U : State) (H : Heap) : Prop := (am_Y1 "java/lang/Throwable" "UNASSIGNED_STACK" "[Ljava/lang/StackTraceElement;" A U H ∧ am_Y1 "java/lang/Throwable" "SUPPRESSED_SENTINEL" "Ljava/util/List;" A U H) ∧ vk_R "RoverMinutes$PlanReader" 64 "EDH<*" (D.1 1000) U ∧ am_T D A U H
theorem am_Y.warm {D : va_G} {A : Nat → Prop} {s U : State} {H : Heap} (h : am_Y D A s H) (hW : s.WarmedH U.vm) : am_Y D A U H := ⟨⟨h.1.1.moved hW.alike, h.1.2.moved hW.alike⟩, h.2.1.warm hW, h.2.2.1.moved hW.alike, va_Z.moved hW.alike h.2.2.2⟩
theorem am_Y.same {D : va_G} {A : Nat → Prop} {u U : State} {H : Heap} (h : am_Y D A u H) (hv : u.vm = U.vm) : am_Y D A U H := h.warm (by rw [← hv]; exact State.WarmedH.refl u)
theorem am_Y.kept {D : va_G} {A : Nat → Prop} {U : State} {H H1 : Heap} (h : am_Y D A U H) (hq : ∀ a : Nat, a < H.size → ¬ A a → H1[a]? = H[a]?) : am_Y D A U H1 := ⟨⟨h.1.1.kept hq, h.1.2.kept hq⟩, h.2.1, h.2.2.1.kept hq, h.2.2.2.kept hq⟩
def am_Yw : List Cond := [.isRef (.static "java/lang/Throwable" "UNASSIGNED_STACK" "[Ljava/lang/StackTraceElement;"), .isRef (.static "java/lang/Throwable" "SUPPRESSED_SENTINEL" "Ljava/util/List;"), .laysStatic "java/lang/Throwable" "UNASSIGNED_STACK" "[Ljava/lang/StackTraceElement;", .laysStatic "java/lang/Throwable" "SUPPRESSED_SENTINEL" "Ljava/util/List;"]
theorem am_Y.word {D : va_G} {A : Nat → Prop} {s : State} {args : Array Value} (h : am_Y D A s s.heap) : ∀ a ∈ am_Yw, a.before args s = true := by
  intro a ha
  simp only [am_Yw, List.mem_cons, List.not_mem_nil, or_false] at ha
  rcases ha with rfl | rfl | rfl | rfl
  · exact h.1.1.isRef
  · exact h.1.2.isRef
  · exact h.1.1.lays
  · exact h.1.2.lays
/-- what may have been written: nothing, or the world's zone -/
def am_F (A : Nat → Prop) (u : Bool) : Nat → Prop := fun q => u = true ∧ A q
/-! turns by fuel -/
def am_it {τ : Type} (b : τ) (F : τ → τ) : Nat → τ
  | 0 => b
  | n + 1 => F (am_it b F n)
theorem am_it_ind {τ : Type} {b : τ} {F : τ → τ} {P : τ → Prop} (h0 : P b) (h1 : ∀ t, P t → P (F t)) : ∀ n, P (am_it b F n)
  | 0 => h0
  | n + 1 => h1 _ (am_it_ind h0 h1 n)
theorem am_nn {α : Type} {r : α} (h : (none : Option α) = some r) : False := by cases h
def am_let {α β : Type} (x : α) (k : α → β) : β := k x
theorem am_let_of {α β : Type} {x : α} {k : α → Option β} {r : β} (h : am_let x k = some r) : ∃ y, y = x ∧ k y = some r := ⟨x, rfl, h⟩
theorem am_le_0 {b : List (Option Value)} : am_le [] b := trivial
theorem am_le_s {v : Value} {a b : List (Option Value)} (h : am_le a b) : am_le (some v :: a) (some v :: b) := ⟨rfl, h⟩
theorem am_le_n {x : Option Value} {a b : List (Option Value)} (h : am_le a b) : am_le (none :: a) (x :: b) := h
end
section
/-- what is fixed in a method's walk -/
def am_C (p : Program) (m : MethodId) (c : Code) (cc : ByteArray) (nL : Nat) (s : State) (args : Array Value) (Ts : List Cond) (own : String) (D : va_G) (cl : List vw_C) (A : Nat → Prop) : Prop := CallFix p m c cc nL s args Ts own ∧ va_K D cl [] s ∧ (∀ q, s.heap.size ≤ q → A q) ∧ (∀ w ∈ Ts, goodWord w = true) ∧ am_Z s ∧ am_Y D A s s.heap
/-- the walk at pc: from every heap that holds the world, with these locals; A: where the world lies, F: what may have been written -/
def am_V (p : Program) (l : Launch) (e : Env) (R : Room) (s : State) (m : MethodId) (args : Array Value) (below : List Frame) (meth : Method) (c : Code) (D : va_G) (cl : List vw_C) (ty : Nat → Nat → FieldType) (A F : Nat → Prop) (nL cells slots : Nat) (Q : State → Prop) (pc : Nat) (lo : List (Option Value)) (st : List Value) (w : am_w) : Prop :=
  ∀ (H : Heap) (locs : List Loc) (ls : Array Slot), am_rep D cl ty A s w H → va_S F s.heap H locs → am_ls ls nL lo → W p l e R s m args below meth c H locs cells slots Q (F0 m pc ls st)
section AMV
variable {p : Program} {l : Launch} {e : Env} {R : Room} {s : State} {m : MethodId} {args : Array Value} {below : List Frame} {meth : Method} {c : Code} {cells slots : Nat} {Q : State → Prop}
variable {cc : ByteArray} {own : String} {Ts : List Cond} {nL : Nat} {D : va_G} {cl : List vw_C} {ty : Nat → Nat → FieldType} {A F : Nat → Prop}
variable {pc : Nat} {lo : List (Option Value)} {st : List Value} {w : am_w}
theorem am_sub {lo1 : List (Option Value)} (hs : am_le lo1 lo) (k : am_V p l e R s m args below meth c D cl ty A F nL cells slots Q pc lo1 st w) : am_V p l e R s m args below meth c D cl ty A F nL cells slots Q pc lo st w := fun H locs ls hR hS hL => k H locs ls hR hS (hL.sub (fun i v h => am_le_at _ _ i v hs h))
theorem am_iconst (C : am_C p m c cc nL s args Ts own D cl A) {n : Int} {v : Int32} (hdg : decode cc pc = .ok (.iconst n, 1)) (hv : Int32.ofInt n = v) (k : am_V p l e R s m args below meth c D cl ty A F nL cells slots Q (pc + 1) lo (.int v :: st) w) : am_V p l e R s m args below meth c D cl ty A F nL cells slots Q pc lo st w := fun H locs ls hR hS hL => lv_iconst C.1.1 C.1.2.1 hdg hv (k H locs ls hR hS hL)
theorem am_bipush (C : am_C p m c cc nL s args Ts own D cl A) {n : Int} {v : Int32} (hdg : decode cc pc = .ok (.bipush n, 2)) (hv : (Int8.ofInt n).toInt32 = v) (k : am_V p l e R s m args below meth c D cl ty A F nL cells slots Q (pc + 2) lo (.int v :: st) w) : am_V p l e R s m args below meth c D cl ty A F nL cells slots Q pc lo st w := fun H locs ls hR hS hL => lv_bipush C.1.1 C.1.2.1 hdg hv (k H locs ls hR hS hL)
theorem am_sipush (C : am_C p m c cc nL s args Ts own D cl A) {n : Int} {v : Int32} (hdg : decode cc pc = .ok (.sipush n, 3)) (hv : (Int16.ofInt n).toInt32 = v) (k : am_V p l e R s m args below meth c D cl ty A F nL cells slots Q (pc + 3) lo (.int v :: st) w) : am_V p l e R s m args below meth c D cl ty A F nL cells slots Q pc lo st w := fun H locs ls hR hS hL => lv_sipush C.1.1 C.1.2.1 hdg hv (k H locs ls hR hS hL)
theorem am_lconst (C : am_C p m c cc nL s args Ts own D cl A) {n : Fin 2} {v : Int64} (hdg : decode cc pc = .ok (.lconst n, 1)) (hv : Int64.ofNat (n : Nat) = v) (k : am_V p l e R s m args below meth c D cl ty A F nL cells slots Q (pc + 1) lo (.long v :: st) w) : am_V p l e R s m args below meth c D cl ty A F nL cells slots Q pc lo st w := fun H locs ls hR hS hL => lv_lconst C.1.1 C.1.2.1 hdg hv (k H locs ls hR hS hL)
theorem am_i2l (C : am_C p m c cc nL s args Ts own D cl A) {x : Int32} {v : Int64} (hdg : decode cc pc = .ok (.i2l, 1)) (hv : x.toInt64 = v) (k : am_V p l e R s m args below meth c D cl ty A F nL cells slots Q (pc + 1) lo (.long v :: st) w) : am_V p l e R s m args below meth c D cl ty A F nL cells slots Q pc lo (.int x :: st) w := fun H locs ls hR hS hL => lv_i2l C.1.1 C.1.2.1 hdg hv (k H locs ls hR hS hL)
theorem am_lcmp (C : am_C p m c cc nL s args Ts own D cl A) {x y : Int64} (hdg : decode cc pc = .ok (.lcmp, 1)) (k : am_V p l e R s m args below meth c D cl ty A F nL cells slots Q (pc + 1) lo (.int (lg_cmp x y) :: st) w) : am_V p l e R s m args below meth c D cl ty A F nL cells slots Q pc lo (.long y :: .long x :: st) w := fun H locs ls hR hS hL => W.lcmp C.1.1 C.1.2.1 hdg (k H locs ls hR hS hL)
theorem am_iload_n (C : am_C p m c cc nL s args Ts own D cl A) {k9 : Fin 4} {i : Nat} {x : Int32} (hdg : decode cc pc = .ok (.iload_n k9, 1)) (hi9 : (k9 : Nat) = i) (hl : lo[i]? = some (some (.int x))) (k : am_V p l e R s m args below meth c D cl ty A F nL cells slots Q (pc + 1) lo (.int x :: st) w) : am_V p l e R s m args below meth c D cl ty A F nL cells slots Q pc lo st w := fun H locs ls hR hS hL => lv_iload_n C.1.1 C.1.2.1 hdg hi9 (hL.at hl) (k H locs ls hR hS hL)
theorem am_iload (C : am_C p m c cc nL s args Ts own D cl A) {i : Nat} {x : Int32} (hdg : decode cc pc = .ok (.iload i, 2)) (hl : lo[i]? = some (some (.int x))) (k : am_V p l e R s m args below meth c D cl ty A F nL cells slots Q (pc + 2) lo (.int x :: st) w) : am_V p l e R s m args below meth c D cl ty A F nL cells slots Q pc lo st w := fun H locs ls hR hS hL => lv_iload C.1.1 C.1.2.1 hdg (hL.at hl) (k H locs ls hR hS hL)
theorem am_istore_n (C : am_C p m c cc nL s args Ts own D cl A) {k9 : Fin 4} {i : Nat} {x : Int32} (hdg : decode cc pc = .ok (.istore_n k9, 1)) (hi9 : (k9 : Nat) = i) (hn : i < nL) {lo1 : List (Option Value)} (hlo : lo.set i (some (.int x)) = lo1) (k : am_V p l e R s m args below meth c D cl ty A F nL cells slots Q (pc + 1) lo1 st w) : am_V p l e R s m args below meth c D cl ty A F nL cells slots Q pc lo (.int x :: st) w := fun H locs ls hR hS hL => lv_istore_n C.1.1 C.1.2.1 hdg hi9 hL.1 hn rfl (fun ls' h' => k H locs ls' hR hS (hlo ▸ hL.put rfl h'))
theorem am_istore (C : am_C p m c cc nL s args Ts own D cl A) {i : Nat} {x : Int32} (hdg : decode cc pc = .ok (.istore i, 2)) (hn : i < nL) {lo1 : List (Option Value)} (hlo : lo.set i (some (.int x)) = lo1) (k : am_V p l e R s m args below meth c D cl ty A F nL cells slots Q (pc + 2) lo1 st w) : am_V p l e R s m args below meth c D cl ty A F nL cells slots Q pc lo (.int x :: st) w := fun H locs ls hR hS hL => lv_istore C.1.1 C.1.2.1 hdg hL.1 hn rfl (fun ls' h' => k H locs ls' hR hS (hlo ▸ hL.put rfl h'))
theorem am_aload_n (C : am_C p m c cc nL s args Ts own D cl A) {k9 : Fin 4} {i : Nat} {x : Nat} (hdg : decode cc pc = .ok (.aload_n k9, 1)) (hi9 : (k9 : Nat) = i) (hl : lo[i]? = some (some (.ref x))) (k : am_V p l e R s m args below meth c D cl ty A F nL cells slots Q (pc + 1) lo (.ref x :: st) w) : am_V p l e R s m args below meth c D cl ty A F nL cells slots Q pc lo st w := fun H locs ls hR hS hL => lv_aload_n C.1.1 C.1.2.1 hdg hi9 (hL.at hl) (k H locs ls hR hS hL)
theorem am_aload (C : am_C p m c cc nL s args Ts own D cl A) {i : Nat} {x : Nat} (hdg : decode cc pc = .ok (.aload i, 2)) (hl : lo[i]? = some (some (.ref x))) (k : am_V p l e R s m args below meth c D cl ty A F nL cells slots Q (pc + 2) lo (.ref x :: st) w) : am_V p l e R s m args below meth c D cl ty A F nL cells slots Q pc lo st w := fun H locs ls hR hS hL => lv_aload C.1.1 C.1.2.1 hdg (hL.at hl) (k H locs ls hR hS hL)
theorem am_astore_n (C : am_C p m c cc nL s args Ts own D cl A) {k9 : Fin 4} {i : Nat} {x : Nat} (hdg : decode cc pc = .ok (.astore_n k9, 1)) (hi9 : (k9 : Nat) = i) (hn : i < nL) {lo1 : List (Option Value)} (hlo : lo.set i (some (.ref x)) = lo1) (k : am_V p l e R s m args below meth c D cl ty A F nL cells slots Q (pc + 1) lo1 st w) : am_V p l e R s m args below meth c D cl ty A F nL cells slots Q pc lo (.ref x :: st) w := fun H locs ls hR hS hL => lv_astore_n C.1.1 C.1.2.1 hdg hi9 hL.1 hn rfl (fun ls' h' => k H locs ls' hR hS (hlo ▸ hL.put rfl h'))
theorem am_astore (C : am_C p m c cc nL s args Ts own D cl A) {i : Nat} {x : Nat} (hdg : decode cc pc = .ok (.astore i, 2)) (hn : i < nL) {lo1 : List (Option Value)} (hlo : lo.set i (some (.ref x)) = lo1) (k : am_V p l e R s m args below meth c D cl ty A F nL cells slots Q (pc + 2) lo1 st w) : am_V p l e R s m args below meth c D cl ty A F nL cells slots Q pc lo (.ref x :: st) w := fun H locs ls hR hS hL => lv_astore C.1.1 C.1.2.1 hdg hL.1 hn rfl (fun ls' h' => k H locs ls' hR hS (hlo ▸ hL.put rfl h'))
theorem am_iinc (C : am_C p m c cc nL s args Ts own D cl A) {i : Nat} {n : Int} {x y : Int32} (hdg : decode cc pc = .ok (.iinc i n, 3)) (hl : lo[i]? = some (some (.int x))) (hv : Int32.ofInt n = y) (hn : i < nL) {lo1 : List (Option Value)} (hlo : lo.set i (some (.int (x + y))) = lo1) (k : am_V p l e R s m args below meth c D cl ty A F nL cells slots Q (pc + 3) lo1 st w) : am_V p l e R s m args below meth c D cl ty A F nL cells slots Q pc lo st w := by
  intro H locs ls hR hS hL
  obtain ⟨kk, hk⟩ := List.getElem?_of_mem (am_as_mem (q := (i, Value.int x)).mpr hl)
  exact lv_iinc (k := kk) C.1.1 C.1.2.1 hdg hL.1 hk (congrArg (x + ·) hv) hn rfl (fun ls' h' => k H locs ls' hR hS (hlo ▸ hL.put rfl h'))
theorem am_iadd (C : am_C p m c cc nL s args Ts own D cl A) {x y : Int32} (hdg : decode cc pc = .ok (.iadd, 1)) (k : am_V p l e R s m args below meth c D cl ty A F nL cells slots Q (pc + 1) lo (.int (x + y) :: st) w) : am_V p l e R s m args below meth c D cl ty A F nL cells slots Q pc lo (.int y :: .int x :: st) w := fun H locs ls hR hS hL => lv_iadd C.1.1 C.1.2.1 hdg (k H locs ls hR hS hL)
theorem am_isub (C : am_C p m c cc nL s args Ts own D cl A) {x y : Int32} (hdg : decode cc pc = .ok (.isub, 1)) (k : am_V p l e R s m args below meth c D cl ty A F nL cells slots Q (pc + 1) lo (.int (x - y) :: st) w) : am_V p l e R s m args below meth c D cl ty A F nL cells slots Q pc lo (.int y :: .int x :: st) w := fun H locs ls hR hS hL => lv_isub C.1.1 C.1.2.1 hdg (k H locs ls hR hS hL)
theorem am_imul (C : am_C p m c cc nL s args Ts own D cl A) {x y : Int32} (hdg : decode cc pc = .ok (.imul, 1)) (k : am_V p l e R s m args below meth c D cl ty A F nL cells slots Q (pc + 1) lo (.int (x * y) :: st) w) : am_V p l e R s m args below meth c D cl ty A F nL cells slots Q pc lo (.int y :: .int x :: st) w := fun H locs ls hR hS hL => lv_imul C.1.1 C.1.2.1 hdg (k H locs ls hR hS hL)
theorem am_iand (C : am_C p m c cc nL s args Ts own D cl A) {x y : Int32} (hdg : decode cc pc = .ok (.iand, 1)) (k : am_V p l e R s m args below meth c D cl ty A F nL cells slots Q (pc + 1) lo (.int (x &&& y) :: st) w) : am_V p l e R s m args below meth c D cl ty A F nL cells slots Q pc lo (.int y :: .int x :: st) w := fun H locs ls hR hS hL => lv_iand C.1.1 C.1.2.1 hdg (k H locs ls hR hS hL)
theorem am_ior (C : am_C p m c cc nL s args Ts own D cl A) {x y : Int32} (hdg : decode cc pc = .ok (.ior, 1)) (k : am_V p l e R s m args below meth c D cl ty A F nL cells slots Q (pc + 1) lo (.int (x ||| y) :: st) w) : am_V p l e R s m args below meth c D cl ty A F nL cells slots Q pc lo (.int y :: .int x :: st) w := fun H locs ls hR hS hL => lv_ior C.1.1 C.1.2.1 hdg (k H locs ls hR hS hL)
theorem am_ixor (C : am_C p m c cc nL s args Ts own D cl A) {x y : Int32} (hdg : decode cc pc = .ok (.ixor, 1)) (k : am_V p l e R s m args below meth c D cl ty A F nL cells slots Q (pc + 1) lo (.int (x ^^^ y) :: st) w) : am_V p l e R s m args below meth c D cl ty A F nL cells slots Q pc lo (.int y :: .int x :: st) w := fun H locs ls hR hS hL => lv_ixor C.1.1 C.1.2.1 hdg (k H locs ls hR hS hL)
theorem am_ishl (C : am_C p m c cc nL s args Ts own D cl A) {x y : Int32} (hdg : decode cc pc = .ok (.ishl, 1)) (k : am_V p l e R s m args below meth c D cl ty A F nL cells slots Q (pc + 1) lo (.int (x <<< (y &&& 31)) :: st) w) : am_V p l e R s m args below meth c D cl ty A F nL cells slots Q pc lo (.int y :: .int x :: st) w := fun H locs ls hR hS hL => lv_ishl C.1.1 C.1.2.1 hdg (k H locs ls hR hS hL)
theorem am_ishr (C : am_C p m c cc nL s args Ts own D cl A) {x y : Int32} (hdg : decode cc pc = .ok (.ishr, 1)) (k : am_V p l e R s m args below meth c D cl ty A F nL cells slots Q (pc + 1) lo (.int (x >>> (y &&& 31)) :: st) w) : am_V p l e R s m args below meth c D cl ty A F nL cells slots Q pc lo (.int y :: .int x :: st) w := fun H locs ls hR hS hL => lv_ishr C.1.1 C.1.2.1 hdg (k H locs ls hR hS hL)
theorem am_idiv (C : am_C p m c cc nL s args Ts own D cl A) {x y : Int32} (hdg : decode cc pc = .ok (.idiv, 1)) (hne : ¬ y = 0) (k : am_V p l e R s m args below meth c D cl ty A F nL cells slots Q (pc + 1) lo (.int (x / y) :: st) w) : am_V p l e R s m args below meth c D cl ty A F nL cells slots Q pc lo (.int y :: .int x :: st) w := fun H locs ls hR hS hL => lv_idiv C.1.1 C.1.2.1 hdg hne (k H locs ls hR hS hL)
theorem am_irem (C : am_C p m c cc nL s args Ts own D cl A) {x y : Int32} (hdg : decode cc pc = .ok (.irem, 1)) (hne : ¬ y = 0) (k : am_V p l e R s m args below meth c D cl ty A F nL cells slots Q (pc + 1) lo (.int (x - x / y * y) :: st) w) : am_V p l e R s m args below meth c D cl ty A F nL cells slots Q pc lo (.int y :: .int x :: st) w := fun H locs ls hR hS hL => lv_irem C.1.1 C.1.2.1 hdg hne (k H locs ls hR hS hL)
theorem am_iremc (C : am_C p m c cc nL s args Ts own D cl A) {x y : Int32} {β : Type} {X : Option β} {r : β} (hdg : decode cc pc = .ok (.irem, 1)) (hX : (if y = 0 then none else X) = some r) (k : X = some r → am_V p l e R s m args below meth c D cl ty A F nL cells slots Q (pc + 1) lo (.int (x - x / y * y) :: st) w) : am_V p l e R s m args below meth c D cl ty A F nL cells slots Q pc lo (.int y :: .int x :: st) w := by
  by_cases h : y = 0
  · rw [if_pos h] at hX
    cases hX
  · exact am_irem C hdg h (k ((if_neg h).symm.trans hX))
theorem am_iushr (C : am_C p m c cc nL s args Ts own D cl A) {x y v : Int32} (hdg : decode cc pc = .ok (.iushr, 1)) (hv : (x.toUInt32 >>> (y.toUInt32 &&& Int32.toUInt32 31)).toInt32 = v) (k : am_V p l e R s m args below meth c D cl ty A F nL cells slots Q (pc + 1) lo (.int v :: st) w) : am_V p l e R s m args below meth c D cl ty A F nL cells slots Q pc lo (.int y :: .int x :: st) w := fun H locs ls hR hS hL => lv_iushr C.1.1 C.1.2.1 hdg hv (k H locs ls hR hS hL)
theorem am_ineg (C : am_C p m c cc nL s args Ts own D cl A) {x : Int32} (hdg : decode cc pc = .ok (.ineg, 1)) (k : am_V p l e R s m args below meth c D cl ty A F nL cells slots Q (pc + 1) lo (.int (-x) :: st) w) : am_V p l e R s m args below meth c D cl ty A F nL cells slots Q pc lo (.int x :: st) w := fun H locs ls hR hS hL => lv_ineg C.1.1 C.1.2.1 hdg (k H locs ls hR hS hL)
theorem am_i2c (C : am_C p m c cc nL s args Ts own D cl A) {x v : Int32} (hdg : decode cc pc = .ok (.i2c, 1)) (hv : (x.toUInt32 % 65536).toInt32 = v) (k : am_V p l e R s m args below meth c D cl ty A F nL cells slots Q (pc + 1) lo (.int v :: st) w) : am_V p l e R s m args below meth c D cl ty A F nL cells slots Q pc lo (.int x :: st) w := fun H locs ls hR hS hL => lv_i2c C.1.1 C.1.2.1 hdg hv (k H locs ls hR hS hL)
theorem am_i2b (C : am_C p m c cc nL s args Ts own D cl A) {x v : Int32} (hdg : decode cc pc = .ok (.i2b, 1)) (hv : x.toInt8.toInt32 = v) (k : am_V p l e R s m args below meth c D cl ty A F nL cells slots Q (pc + 1) lo (.int v :: st) w) : am_V p l e R s m args below meth c D cl ty A F nL cells slots Q pc lo (.int x :: st) w := fun H locs ls hR hS hL => lv_i2b C.1.1 C.1.2.1 hdg hv (k H locs ls hR hS hL)
theorem am_dup (C : am_C p m c cc nL s args Ts own D cl A) {va : Value} (hdg : decode cc pc = .ok (.dup, 1)) (hva : va.category = 1) (k : am_V p l e R s m args below meth c D cl ty A F nL cells slots Q (pc + 1) lo (va :: va :: st) w) : am_V p l e R s m args below meth c D cl ty A F nL cells slots Q pc lo (va :: st) w := fun H locs ls hR hS hL => lv_dup C.1.1 C.1.2.1 hdg hva (k H locs ls hR hS hL)
theorem am_pop (C : am_C p m c cc nL s args Ts own D cl A) {va : Value} (hdg : decode cc pc = .ok (.pop, 1)) (hva : va.category = 1) (k : am_V p l e R s m args below meth c D cl ty A F nL cells slots Q (pc + 1) lo st w) : am_V p l e R s m args below meth c D cl ty A F nL cells slots Q pc lo (va :: st) w := fun H locs ls hR hS hL => lv_pop C.1.1 C.1.2.1 hdg hva (k H locs ls hR hS hL)
theorem am_dup_x1 (C : am_C p m c cc nL s args Ts own D cl A) {va vb : Value} (hdg : decode cc pc = .ok (.dup_x1, 1)) (hva : va.category = 1) (hvb : vb.category = 1) (k : am_V p l e R s m args below meth c D cl ty A F nL cells slots Q (pc + 1) lo (va :: vb :: va :: st) w) : am_V p l e R s m args below meth c D cl ty A F nL cells slots Q pc lo (va :: vb :: st) w := fun H locs ls hR hS hL => lv_dup_x1 C.1.1 C.1.2.1 hdg hva hvb (k H locs ls hR hS hL)
theorem am_dup2 (C : am_C p m c cc nL s args Ts own D cl A) {va vb : Value} (hdg : decode cc pc = .ok (.dup2, 1)) (hva : va.category = 1) (hvb : vb.category = 1) (k : am_V p l e R s m args below meth c D cl ty A F nL cells slots Q (pc + 1) lo (va :: vb :: va :: vb :: st) w) : am_V p l e R s m args below meth c D cl ty A F nL cells slots Q pc lo (va :: vb :: st) w := fun H locs ls hR hS hL => lv_dup2_11 C.1.1 C.1.2.1 hdg hva hvb (k H locs ls hR hS hL)
theorem am_if_eq (C : am_C p m c cc nL s args Ts own D cl A) {x : Int32} {off : Int} {tgt : Nat} {α : Type} {X1 X2 r : α} (hdg : decode cc pc = .ok (.ifCond .eq off, 3)) (ht : (pc : Int) + off = (tgt : Int)) (hX : (if x = 0 then X1 else X2) = r) (kt : X1 = r → am_V p l e R s m args below meth c D cl ty A F nL cells slots Q tgt lo st w) (kf : X2 = r → am_V p l e R s m args below meth c D cl ty A F nL cells slots Q (pc + 3) lo st w) : am_V p l e R s m args below meth c D cl ty A F nL cells slots Q pc lo (.int x :: st) w := fun H locs ls hR hS hL => lv_if_eq C.1.1 C.1.2.1 hdg ht (fun h => kt ((if_pos h).symm.trans hX) H locs ls hR hS hL) (fun h => kf ((if_neg h).symm.trans hX) H locs ls hR hS hL)
theorem am_icmp_eq (C : am_C p m c cc nL s args Ts own D cl A) {x y : Int32} {off : Int} {tgt : Nat} {α : Type} {X1 X2 r : α} (hdg : decode cc pc = .ok (.if_icmp .eq off, 3)) (ht : (pc : Int) + off = (tgt : Int)) (hX : (if x = y then X1 else X2) = r) (kt : X1 = r → am_V p l e R s m args below meth c D cl ty A F nL cells slots Q tgt lo st w) (kf : X2 = r → am_V p l e R s m args below meth c D cl ty A F nL cells slots Q (pc + 3) lo st w) : am_V p l e R s m args below meth c D cl ty A F nL cells slots Q pc lo (.int y :: .int x :: st) w := fun H locs ls hR hS hL => lv_icmp_eq C.1.1 C.1.2.1 hdg ht (fun h => kt ((if_pos h).symm.trans hX) H locs ls hR hS hL) (fun h => kf ((if_neg h).symm.trans hX) H locs ls hR hS hL)
theorem am_if_ne (C : am_C p m c cc nL s args Ts own D cl A) {x : Int32} {off : Int} {tgt : Nat} {α : Type} {X1 X2 r : α} (hdg : decode cc pc = .ok (.ifCond .ne off, 3)) (ht : (pc : Int) + off = (tgt : Int)) (hX : (if x = 0 then X1 else X2) = r) (kt : X2 = r → am_V p l e R s m args below meth c D cl ty A F nL cells slots Q tgt lo st w) (kf : X1 = r → am_V p l e R s m args below meth c D cl ty A F nL cells slots Q (pc + 3) lo st w) : am_V p l e R s m args below meth c D cl ty A F nL cells slots Q pc lo (.int x :: st) w := fun H locs ls hR hS hL => lv_if_ne C.1.1 C.1.2.1 hdg ht (fun h => kt ((if_neg h).symm.trans hX) H locs ls hR hS hL) (fun h => kf ((if_pos h).symm.trans hX) H locs ls hR hS hL)
theorem am_icmp_ne (C : am_C p m c cc nL s args Ts own D cl A) {x y : Int32} {off : Int} {tgt : Nat} {α : Type} {X1 X2 r : α} (hdg : decode cc pc = .ok (.if_icmp .ne off, 3)) (ht : (pc : Int) + off = (tgt : Int)) (hX : (if x = y then X1 else X2) = r) (kt : X2 = r → am_V p l e R s m args below meth c D cl ty A F nL cells slots Q tgt lo st w) (kf : X1 = r → am_V p l e R s m args below meth c D cl ty A F nL cells slots Q (pc + 3) lo st w) : am_V p l e R s m args below meth c D cl ty A F nL cells slots Q pc lo (.int y :: .int x :: st) w := fun H locs ls hR hS hL => lv_icmp_ne C.1.1 C.1.2.1 hdg ht (fun h => kt ((if_neg h).symm.trans hX) H locs ls hR hS hL) (fun h => kf ((if_pos h).symm.trans hX) H locs ls hR hS hL)
theorem am_if_lt (C : am_C p m c cc nL s args Ts own D cl A) {x : Int32} {off : Int} {tgt : Nat} {α : Type} {X1 X2 r : α} (hdg : decode cc pc = .ok (.ifCond .lt off, 3)) (ht : (pc : Int) + off = (tgt : Int)) (hX : (if x < 0 then X1 else X2) = r) (kt : X1 = r → am_V p l e R s m args below meth c D cl ty A F nL cells slots Q tgt lo st w) (kf : X2 = r → am_V p l e R s m args below meth c D cl ty A F nL cells slots Q (pc + 3) lo st w) : am_V p l e R s m args below meth c D cl ty A F nL cells slots Q pc lo (.int x :: st) w := fun H locs ls hR hS hL => lv_if_lt C.1.1 C.1.2.1 hdg ht (fun h => kt ((if_pos h).symm.trans hX) H locs ls hR hS hL) (fun h => kf ((if_neg h).symm.trans hX) H locs ls hR hS hL)
theorem am_icmp_lt (C : am_C p m c cc nL s args Ts own D cl A) {x y : Int32} {off : Int} {tgt : Nat} {α : Type} {X1 X2 r : α} (hdg : decode cc pc = .ok (.if_icmp .lt off, 3)) (ht : (pc : Int) + off = (tgt : Int)) (hX : (if x < y then X1 else X2) = r) (kt : X1 = r → am_V p l e R s m args below meth c D cl ty A F nL cells slots Q tgt lo st w) (kf : X2 = r → am_V p l e R s m args below meth c D cl ty A F nL cells slots Q (pc + 3) lo st w) : am_V p l e R s m args below meth c D cl ty A F nL cells slots Q pc lo (.int y :: .int x :: st) w := fun H locs ls hR hS hL => lv_icmp_lt C.1.1 C.1.2.1 hdg ht (fun h => kt ((if_pos h).symm.trans hX) H locs ls hR hS hL) (fun h => kf ((if_neg h).symm.trans hX) H locs ls hR hS hL)
theorem am_if_ge (C : am_C p m c cc nL s args Ts own D cl A) {x : Int32} {off : Int} {tgt : Nat} {α : Type} {X1 X2 r : α} (hdg : decode cc pc = .ok (.ifCond .ge off, 3)) (ht : (pc : Int) + off = (tgt : Int)) (hX : (if 0 ≤ x then X1 else X2) = r) (kt : X1 = r → am_V p l e R s m args below meth c D cl ty A F nL cells slots Q tgt lo st w) (kf : X2 = r → am_V p l e R s m args below meth c D cl ty A F nL cells slots Q (pc + 3) lo st w) : am_V p l e R s m args below meth c D cl ty A F nL cells slots Q pc lo (.int x :: st) w := fun H locs ls hR hS hL => lv_if_ge C.1.1 C.1.2.1 hdg ht (fun h => kt ((if_pos h).symm.trans hX) H locs ls hR hS hL) (fun h => kf ((if_neg h).symm.trans hX) H locs ls hR hS hL)
theorem am_icmp_ge (C : am_C p m c cc nL s args Ts own D cl A) {x y : Int32} {off : Int} {tgt : Nat} {α : Type} {X1 X2 r : α} (hdg : decode cc pc = .ok (.if_icmp .ge off, 3)) (ht : (pc : Int) + off = (tgt : Int)) (hX : (if y ≤ x then X1 else X2) = r) (kt : X1 = r → am_V p l e R s m args below meth c D cl ty A F nL cells slots Q tgt lo st w) (kf : X2 = r → am_V p l e R s m args below meth c D cl ty A F nL cells slots Q (pc + 3) lo st w) : am_V p l e R s m args below meth c D cl ty A F nL cells slots Q pc lo (.int y :: .int x :: st) w := fun H locs ls hR hS hL => lv_icmp_ge C.1.1 C.1.2.1 hdg ht (fun h => kt ((if_pos h).symm.trans hX) H locs ls hR hS hL) (fun h => kf ((if_neg h).symm.trans hX) H locs ls hR hS hL)
theorem am_if_gt (C : am_C p m c cc nL s args Ts own D cl A) {x : Int32} {off : Int} {tgt : Nat} {α : Type} {X1 X2 r : α} (hdg : decode cc pc = .ok (.ifCond .gt off, 3)) (ht : (pc : Int) + off = (tgt : Int)) (hX : (if 0 < x then X1 else X2) = r) (kt : X1 = r → am_V p l e R s m args below meth c D cl ty A F nL cells slots Q tgt lo st w) (kf : X2 = r → am_V p l e R s m args below meth c D cl ty A F nL cells slots Q (pc + 3) lo st w) : am_V p l e R s m args below meth c D cl ty A F nL cells slots Q pc lo (.int x :: st) w := fun H locs ls hR hS hL => lv_if_gt C.1.1 C.1.2.1 hdg ht (fun h => kt ((if_pos h).symm.trans hX) H locs ls hR hS hL) (fun h => kf ((if_neg h).symm.trans hX) H locs ls hR hS hL)
theorem am_icmp_gt (C : am_C p m c cc nL s args Ts own D cl A) {x y : Int32} {off : Int} {tgt : Nat} {α : Type} {X1 X2 r : α} (hdg : decode cc pc = .ok (.if_icmp .gt off, 3)) (ht : (pc : Int) + off = (tgt : Int)) (hX : (if y < x then X1 else X2) = r) (kt : X1 = r → am_V p l e R s m args below meth c D cl ty A F nL cells slots Q tgt lo st w) (kf : X2 = r → am_V p l e R s m args below meth c D cl ty A F nL cells slots Q (pc + 3) lo st w) : am_V p l e R s m args below meth c D cl ty A F nL cells slots Q pc lo (.int y :: .int x :: st) w := fun H locs ls hR hS hL => lv_icmp_gt C.1.1 C.1.2.1 hdg ht (fun h => kt ((if_pos h).symm.trans hX) H locs ls hR hS hL) (fun h => kf ((if_neg h).symm.trans hX) H locs ls hR hS hL)
theorem am_if_le (C : am_C p m c cc nL s args Ts own D cl A) {x : Int32} {off : Int} {tgt : Nat} {α : Type} {X1 X2 r : α} (hdg : decode cc pc = .ok (.ifCond .le off, 3)) (ht : (pc : Int) + off = (tgt : Int)) (hX : (if x ≤ 0 then X1 else X2) = r) (kt : X1 = r → am_V p l e R s m args below meth c D cl ty A F nL cells slots Q tgt lo st w) (kf : X2 = r → am_V p l e R s m args below meth c D cl ty A F nL cells slots Q (pc + 3) lo st w) : am_V p l e R s m args below meth c D cl ty A F nL cells slots Q pc lo (.int x :: st) w := fun H locs ls hR hS hL => lv_if_le C.1.1 C.1.2.1 hdg ht (fun h => kt ((if_pos h).symm.trans hX) H locs ls hR hS hL) (fun h => kf ((if_neg h).symm.trans hX) H locs ls hR hS hL)
theorem am_icmp_le (C : am_C p m c cc nL s args Ts own D cl A) {x y : Int32} {off : Int} {tgt : Nat} {α : Type} {X1 X2 r : α} (hdg : decode cc pc = .ok (.if_icmp .le off, 3)) (ht : (pc : Int) + off = (tgt : Int)) (hX : (if x ≤ y then X1 else X2) = r) (kt : X1 = r → am_V p l e R s m args below meth c D cl ty A F nL cells slots Q tgt lo st w) (kf : X2 = r → am_V p l e R s m args below meth c D cl ty A F nL cells slots Q (pc + 3) lo st w) : am_V p l e R s m args below meth c D cl ty A F nL cells slots Q pc lo (.int y :: .int x :: st) w := fun H locs ls hR hS hL => lv_icmp_le C.1.1 C.1.2.1 hdg ht (fun h => kt ((if_pos h).symm.trans hX) H locs ls hR hS hL) (fun h => kf ((if_neg h).symm.trans hX) H locs ls hR hS hL)
theorem am_goto (C : am_C p m c cc nL s args Ts own D cl A) {off : Int} {tgt : Nat} (hdg : decode cc pc = .ok (.goto off, 3)) (ht : (pc : Int) + off = (tgt : Int)) (k : am_V p l e R s m args below meth c D cl ty A F nL cells slots Q tgt lo st w) : am_V p l e R s m args below meth c D cl ty A F nL cells slots Q pc lo st w := fun H locs ls hR hS hL => lv_goto C.1.1 C.1.2.1 hdg ht (k H locs ls hR hS hL)
theorem am_tableOut (C : am_C p m c cc nL s args Ts own D cl A) {dflt lo9 hi9 : Int} {offs : Array Int} {len : Nat} {x : Int32} {tgt : Nat} (hdg : decode cc pc = .ok (.tableswitch dflt lo9 hi9 offs, len)) (h : x.toInt < lo9 ∨ hi9 < x.toInt) (ht : (pc : Int) + dflt = (tgt : Int)) (k : am_V p l e R s m args below meth c D cl ty A F nL cells slots Q tgt lo st w) : am_V p l e R s m args below meth c D cl ty A F nL cells slots Q pc lo (.int x :: st) w := fun H locs ls hR hS hL => lv_tableOut C.1.1 C.1.2.1 hdg h ht (k H locs ls hR hS hL)
theorem am_tableIn (C : am_C p m c cc nL s args Ts own D cl A) {dflt lo9 hi9 : Int} {offs : Array Int} {len : Nat} {x : Int32} {off : Int} {tgt : Nat} (hdg : decode cc pc = .ok (.tableswitch dflt lo9 hi9 offs, len)) (h1 : ¬ x.toInt < lo9) (h2 : ¬ hi9 < x.toInt) (ho : offs[(x.toInt - lo9).toNat]? = some off) (ht : (pc : Int) + off = (tgt : Int)) (k : am_V p l e R s m args below meth c D cl ty A F nL cells slots Q tgt lo st w) : am_V p l e R s m args below meth c D cl ty A F nL cells slots Q pc lo (.int x :: st) w := fun H locs ls hR hS hL => lv_tableIn C.1.1 C.1.2.1 hdg h1 h2 ho ht (k H locs ls hR hS hL)
theorem am_mmax (C : am_C p m c cc nL s args Ts own D cl A) {index : Nat} {x y : Int32} (hlink : Cond.methodLink own index Lib.Math.max.name ∈ Ts) (hstat : Cond.static Lib.Math.max.name ∈ Ts) (hini : Cond.initialized "java/lang/Math" ∈ Ts) (hcode : Cond.code Lib.Math.max.name Lib.Math.max.code 2 (some .int) ∈ Ts) (hframes : 1 ≤ R.frames) (hlocals : (st.map fun v => v.category).sum + 13 ≤ R.locals) (hc : cells ≤ R.cells) (hs : slots ≤ R.slots) (hdg : decode cc pc = .ok (.invokestatic index, 3)) (k : am_V p l e R s m args below meth c D cl ty A F nL cells slots Q (pc + 3) lo (.int (if x < y then y else x) :: st) w) : am_V p l e R s m args below meth c D cl ty A F nL cells slots Q pc lo (.int y :: .int x :: st) w := fun H locs ls hR hS hL => va_mmax C.1.1 C.1.2.1 (C.1.2.2.1.trans hL.1.1.symm) C.1.2.2.2.1 (C.1.2.2.2.2 _ hlink) (C.1.2.2.2.2 _ hstat) (C.1.2.2.2.2 _ hini) (C.1.2.2.2.2 _ hcode) hframes hlocals hc hs hdg (k H locs ls hR hS hL)
theorem am_mmin (C : am_C p m c cc nL s args Ts own D cl A) {index : Nat} {x y : Int32} (hlink : Cond.methodLink own index Lib.Math.min.name ∈ Ts) (hstat : Cond.static Lib.Math.min.name ∈ Ts) (hini : Cond.initialized "java/lang/Math" ∈ Ts) (hcode : Cond.code Lib.Math.min.name Lib.Math.min.code 2 (some .int) ∈ Ts) (hframes : 1 ≤ R.frames) (hlocals : (st.map fun v => v.category).sum + 13 ≤ R.locals) (hc : cells ≤ R.cells) (hs : slots ≤ R.slots) (hdg : decode cc pc = .ok (.invokestatic index, 3)) (k : am_V p l e R s m args below meth c D cl ty A F nL cells slots Q (pc + 3) lo (.int (if y < x then y else x) :: st) w) : am_V p l e R s m args below meth c D cl ty A F nL cells slots Q pc lo (.int y :: .int x :: st) w := fun H locs ls hR hS hL => va_mmin C.1.1 C.1.2.1 (C.1.2.2.1.trans hL.1.1.symm) C.1.2.2.2.1 (C.1.2.2.2.2 _ hlink) (C.1.2.2.2.2 _ hstat) (C.1.2.2.2.2 _ hini) (C.1.2.2.2.2 _ hcode) hframes hlocals hc hs hdg (k H locs ls hR hS hL)
end AMV
end
section
section AMH
variable {p : Program} {l : Launch} {e : Env} {R : Room} {s : State} {m : MethodId} {args : Array Value} {below : List Frame} {meth : Method} {c : Code} {cells slots : Nat} {Q : State → Prop}
variable {cc : ByteArray} {own : String} {Ts : List Cond} {nL : Nat} {D : va_G} {cl : List vw_C} {ty : Nat → Nat → FieldType} {A F : Nat → Prop}
variable {pc : Nat} {lo : List (Option Value)} {st : List Value} {w : am_w} {a : Nat} {β : Type} {r : β}
/-- a switch, case by case -/
theorem am_tsw (C : am_C p m c cc nL s args Ts own D cl A) {dflt lo9 hi9 : Int} {offs : Array Int} {len : Nat} {x k : Int32} {off : Int} {tgt : Nat} {X1 X2 : β} (hdg : decode cc pc = .ok (.tableswitch dflt lo9 hi9 offs, len)) (h1 : ¬ k.toInt < lo9) (h2 : ¬ hi9 < k.toInt) (ho : offs[(k.toInt - lo9).toNat]? = some off) (ht : (pc : Int) + off = (tgt : Int)) (hX : (if x = k then X1 else X2) = r) (kt : X1 = r → am_V p l e R s m args below meth c D cl ty A F nL cells slots Q tgt lo st w) (kf : ¬ x = k → X2 = r → am_V p l e R s m args below meth c D cl ty A F nL cells slots Q pc lo (.int x :: st) w) : am_V p l e R s m args below meth c D cl ty A F nL cells slots Q pc lo (.int x :: st) w := by
  by_cases h : x = k
  · subst h
    exact am_tableIn C hdg h1 h2 ho ht (kt ((if_pos rfl).symm.trans hX))
  · exact kf h ((if_neg h).symm.trans hX)
theorem am_ne {x : Int32} {k : Int} (h : ¬ x = Int32.ofInt k) (hk : (Int32.ofInt k).toInt = k) : x.toInt ≠ k := fun q => h (Int32.toInt_inj.mp (q.trans hk.symm))
theorem am_cell.obj {hi : am_I} {hr : am_R} {H : Heap} {ci : Nat} {K : String} {T : u_T} {N : Nat} (h : am_cell D cl ty s hi hr H a (.inl ci)) (hc : cl[ci]? = some (K, T, N)) : t_OB a (D.1 ci) N (D.2 ci) H (fun k => am_v (ty ci k) (hi a k) (hr a k)) := by
  obtain ⟨r, h1, h2⟩ := h
  have hr : r = (K, T, N) := Option.some.inj (h1.symm.trans hc)
  subst hr
  exact h2
/-- getfield, any type -/
theorem am_getv (C : am_C p m c cc nL s args Ts own D cl A) {ref K : String} {T : u_T} {N ci index : Nat} (hin : ∀ w ∈ u_ws K T N, w ∈ Ts) (hsh : w.2.1 a = some (.inl ci)) (hc : cl[ci]? = some (K, T, N)) (k : Nat) (hk : k < N) (hlink : Cond.fieldLink own index ref (T k).2.1 (T k).2.2.1 ∈ Ts) (href : (T k).1 = ref) (hdg : decode cc pc = .ok (.getfield index, 3)) {v : Value} (hv : am_v (ty ci k) (w.2.2.1 a k) (w.2.2.2 a k) = v)
    (kk : am_V p l e R s m args below meth c D cl ty A F nL cells slots Q (pc + 3) lo (v :: st) w) : am_V p l e R s m args below meth c D cl ty A F nL cells slots Q pc lo (.ref a :: st) w := by
  intro H locs ls hR hS hL
  obtain ⟨⟨hexec, hb, hml, hown, hts⟩, hK, -, -⟩ := C
  obtain ⟨cell, q1, q2, q3, q4⟩ := (hR.2 a _ hsh).2.obj hc
  obtain ⟨hS2, hfc, kC, hkC, hkind⟩ := hK.1 ci _ hc
  obtain ⟨cf, kf, fi, f, hi9, hsl⟩ := hS2 k hk
  have hi9' : s.fieldFound? ref (T k).2.1 (T k).2.2.1 = some (cf, kf, fi, f) := by rw [← href]; exact hi9
  refine W.getf hexec hb hown (hts _ hlink) hi9' (u_facts hfc hkC (u_lays hts hin hk) hi9).1 q1 (by rw [q3]; exact fun h => by cases h) (v := v) ?_ rfl rfl hdg (kk H locs ls hR hS hL)
  have hsl' : f.slot = D.2 ci k := hsl
  rw [hsl', q4 k hk]
  exact congrArg some hv
theorem am_get (C : am_C p m c cc nL s args Ts own D cl A) {ref K : String} {T : u_T} {N ci index k : Nat} (hin : ∀ w ∈ u_ws K T N, w ∈ Ts) (hc : cl[ci]? = some (K, T, N)) (hk : k < N) (hlink : Cond.fieldLink own index ref (T k).2.1 (T k).2.2.1 ∈ Ts) (href : (T k).1 = ref) (hdg : decode cc pc = .ok (.getfield index, 3)) (hty : am_k (ty ci k) = 0) {β : Type} {K9 : Int32 → Option β} {r : β} (hX : (am_fg ci k a w).bind K9 = some r)
    (kk : ∀ x, K9 x = some r → am_V p l e R s m args below meth c D cl ty A F nL cells slots Q (pc + 3) lo (.int x :: st) w) : am_V p l e R s m args below meth c D cl ty A F nL cells slots Q pc lo (.ref a :: st) w := by
  obtain ⟨x, h1, h2⟩ := am_bind hX
  obtain ⟨h3, h4⟩ := am_fg_of h1
  exact am_getv C hin h3 hc k hk hlink href hdg (am_v_i hty) (h4 ▸ kk x h2)
theorem am_getr (C : am_C p m c cc nL s args Ts own D cl A) {ref K : String} {T : u_T} {N ci index k : Nat} (hin : ∀ w ∈ u_ws K T N, w ∈ Ts) (hc : cl[ci]? = some (K, T, N)) (hk : k < N) (hlink : Cond.fieldLink own index ref (T k).2.1 (T k).2.2.1 ∈ Ts) (href : (T k).1 = ref) (hdg : decode cc pc = .ok (.getfield index, 3)) (hty : am_k (ty ci k) = 1) {β : Type} {K9 : Nat → Option β} {r : β} (hX : (am_rg ci k a w).bind K9 = some r)
    (kk : ∀ b, K9 b = some r → am_V p l e R s m args below meth c D cl ty A F nL cells slots Q (pc + 3) lo (.ref b :: st) w) : am_V p l e R s m args below meth c D cl ty A F nL cells slots Q pc lo (.ref a :: st) w := by
  obtain ⟨x, h1, h2⟩ := am_bind hX
  obtain ⟨h3, h4⟩ := am_rg_of h1
  exact am_getv C hin h3 hc k hk hlink href hdg ((am_v_r hty).trans (by rw [h4]; rfl)) (kk x h2)
/-- the world behind a store into slot k of a -/
theorem am_rep.setObj {H H1 : Heap} {ci N : Nat} {K : String} {T : u_T} {w1 : am_w} (hR : am_rep D cl ty A s w H) (hsh : w.2.1 a = some (.inl ci)) (hc : cl[ci]? = some (K, T, N)) (hz : w1.1 = w.1) (hs : w1.2.1 = w.2.1)
    (hob : t_OB a (D.1 ci) N (D.2 ci) H1 (fun j => am_v (ty ci j) (w1.2.2.1 a j) (w1.2.2.2 a j))) (z : H1.size = H.size) (oq : ∀ q : Nat, q ≠ a → H1[q]? = H[q]?) (h1 : ∀ q j, q ≠ a → w1.2.2.1 q j = w.2.2.1 q j) (h2 : ∀ q j, q ≠ a → w1.2.2.2 q j = w.2.2.2 q j) : am_rep D cl ty A s w1 H1 := by
  refine ⟨(z.trans hR.1).trans hz.symm, fun q e9 he => ?_⟩
  rw [hs] at he
  refine ⟨(hR.2 q e9 he).1, ?_⟩
  by_cases hq : q = a
  · subst hq
    have : e9 = .inl ci := Option.some.inj (he.symm.trans hsh)
    subst this
    exact ⟨_, hc, hob⟩
  · exact (hR.2 q e9 he).2.kept (oq q hq) (fun j => h1 q j hq) (fun j => h2 q j hq)
/-- putfield of an int field -/
theorem am_put (C : am_C p m c cc nL s args Ts own D cl A) (hF : ∀ q, A q → F q) {ref K : String} {T : u_T} {N ci index k : Nat} (hin : ∀ w ∈ u_ws K T N, w ∈ Ts) (ty0 : Nat → FieldType) (hty0 : ∀ k, k < N → parseFieldDescriptor (T k).2.2.1 = some (ty0 k)) (hnm : ∀ a, a < N → ∀ b, b < N → a ≠ b → (T a).2.1 ≠ (T b).2.1) (hc : cl[ci]? = some (K, T, N)) (hk : k < N) (hlink : Cond.fieldLink own index ref (T k).2.1 (T k).2.2.1 ∈ Ts) (href : (T k).1 = ref) (hfin : (T k).2.2.2 = false) {t9 : FieldType} {x : Int32} (hd : parseFieldDescriptor (T k).2.2.1 = some t9) (hn : narrow t9 (.int x) = .int x) (hfit : fits t9 (.int x) = true) (hty : am_k (ty ci k) = 0) (hdg : decode cc pc = .ok (.putfield index, 3)) {β : Type} {K9 : am_w → Option β} {r : β} (hX : (am_fp ci k a x w).bind K9 = some r)
    (kk : ∀ w1, K9 w1 = some r → am_V p l e R s m args below meth c D cl ty A F nL cells slots Q (pc + 3) lo st w1) : am_V p l e R s m args below meth c D cl ty A F nL cells slots Q pc lo (.int x :: .ref a :: st) w := by
  obtain ⟨w1, hX1, hX2⟩ := am_bind hX
  obtain ⟨hsh, hw1⟩ := am_fp_of hX1
  intro H locs ls hR hS hL
  have hap := va_apart (own := own) C.1.2.2.2.2 hin ty0 hty0 hnm C.2.1 hc
  obtain ⟨⟨hexec, hb, hml, hown, hts⟩, hK, -, -⟩ := C
  obtain ⟨cell, q1, q2, q3, q4⟩ := (hR.2 a _ hsh).2.obj hc
  obtain ⟨hS2, hfc, kC, hkC, hkind⟩ := hK.1 ci _ hc
  obtain ⟨cf, kf, fi, f, hi9, hsl⟩ := hS2 k hk
  have hsl' : f.slot = D.2 ci k := hsl
  have hi9' : s.fieldFound? ref (T k).2.1 (T k).2.2.1 = some (cf, kf, fi, f) := by rw [← href]; exact hi9
  have hlay := hts _ (hin _ (u_in_lay hk))
  unfold u_lay at hlay
  rw [if_neg (by rw [hfin]; decide)] at hlay
  have hst := (u_facts hfc hkC (u_lays hts hin hk) hi9).1
  have h6 := u_store hfc hkC hkind hlay hi9 hd hn hfit
  refine W.putK hexec hb (f := f) ⟨hown, hts _ hlink, ⟨_, _, _, hi9'⟩, hst⟩ (by rw [q2]; exact h6) q1 q3 (by rw [hsl']; exact k2_hasslot (q4 k hk)) rfl rfl hdg fun H' e1 e2 e3 => ?_
  rw [hsl'] at e1 ⊢
  refine kk w1 hX2 H' _ ls (am_rep.setObj hR hsh hc (by rw [hw1]; rfl) (by rw [hw1]; rfl) ?_ e2 e3 (fun q j h => by rw [hw1]; exact am_up_na h) (fun q j h => by rw [hw1]; rfl)) (hS.put e2 e3 (hF a (hR.2 a _ hsh).1)) hL
  refine t_OB.to (V := updV (fun j => am_v (ty ci j) (w.2.2.1 a j) (w.2.2.2 a j)) k (.int x)) ⟨_, e1, q2, q3, t_set q4 hap hk _⟩ (fun j _ => ?_)
  rw [hw1]
  by_cases hj : j = k
  · subst hj
    simp [updV, am_wi, am_up, am_v, hty, va_rf]
  · simp [updV, am_wi, am_up, hj]
/-- putfield of a reference that is not null -/
theorem am_putr (C : am_C p m c cc nL s args Ts own D cl A) (hF : ∀ q, A q → F q) {ref K : String} {T : u_T} {N ci index k : Nat} (hin : ∀ w ∈ u_ws K T N, w ∈ Ts) (ty0 : Nat → FieldType) (hty0 : ∀ k, k < N → parseFieldDescriptor (T k).2.2.1 = some (ty0 k)) (hnm : ∀ a, a < N → ∀ b, b < N → a ≠ b → (T a).2.1 ≠ (T b).2.1) (hc : cl[ci]? = some (K, T, N)) (hk : k < N) (hlink : Cond.fieldLink own index ref (T k).2.1 (T k).2.2.1 ∈ Ts) (href : (T k).1 = ref) (hfin : (T k).2.2.2 = false) {t9 : FieldType} {x : Nat} (hd : parseFieldDescriptor (T k).2.2.1 = some t9) (hn : narrow t9 (.ref x) = .ref x) (hfit : fits t9 (.ref x) = true) (hty : am_k (ty ci k) = 1) (hdg : decode cc pc = .ok (.putfield index, 3)) {β : Type} {K9 : am_w → Option β} {r : β} (hX : (am_rp ci k a x w).bind K9 = some r)
    (kk : ∀ w1, K9 w1 = some r → am_V p l e R s m args below meth c D cl ty A F nL cells slots Q (pc + 3) lo st w1) : am_V p l e R s m args below meth c D cl ty A F nL cells slots Q pc lo (.ref x :: .ref a :: st) w := by
  obtain ⟨w1, hX1, hX2⟩ := am_bind hX
  obtain ⟨hsh, hw1⟩ := am_rp_of hX1
  intro H locs ls hR hS hL
  have hap := va_apart (own := own) C.1.2.2.2.2 hin ty0 hty0 hnm C.2.1 hc
  obtain ⟨⟨hexec, hb, hml, hown, hts⟩, hK, -, -⟩ := C
  obtain ⟨cell, q1, q2, q3, q4⟩ := (hR.2 a _ hsh).2.obj hc
  obtain ⟨hS2, hfc, kC, hkC, hkind⟩ := hK.1 ci _ hc
  obtain ⟨cf, kf, fi, f, hi9, hsl⟩ := hS2 k hk
  have hsl' : f.slot = D.2 ci k := hsl
  have hi9' : s.fieldFound? ref (T k).2.1 (T k).2.2.1 = some (cf, kf, fi, f) := by rw [← href]; exact hi9
  have hlay := hts _ (hin _ (u_in_lay hk))
  unfold u_lay at hlay
  rw [if_neg (by rw [hfin]; decide)] at hlay
  have hst := (u_facts hfc hkC (u_lays hts hin hk) hi9).1
  have h6 := u_store hfc hkC hkind hlay hi9 hd hn hfit
  refine W.putK hexec hb (f := f) ⟨hown, hts _ hlink, ⟨_, _, _, hi9'⟩, hst⟩ (by rw [q2]; exact h6) q1 q3 (by rw [hsl']; exact k2_hasslot (q4 k hk)) rfl rfl hdg fun H' e1 e2 e3 => ?_
  rw [hsl'] at e1 ⊢
  refine kk w1 hX2 H' _ ls (am_rep.setObj hR hsh hc (by rw [hw1]; rfl) (by rw [hw1]; rfl) ?_ e2 e3 (fun q j h => by rw [hw1]; rfl) (fun q j h => by rw [hw1]; exact am_up_na h)) (hS.put e2 e3 (hF a (hR.2 a _ hsh).1)) hL
  refine t_OB.to (V := updV (fun j => am_v (ty ci j) (w.2.2.1 a j) (w.2.2.2 a j)) k (.ref x)) ⟨_, e1, q2, q3, t_set q4 hap hk _⟩ (fun j _ => ?_)
  rw [hw1]
  by_cases hj : j = k
  · subst hj
    simp [updV, am_wr, am_up, am_v, hty, va_rf]
  · simp [updV, am_wr, am_up, hj]
/-- the array at a -/
theorem am_arr {H : Heap} {t : FieldType} {n : Nat} (hR : am_rep D cl ty A s w H) (hsh : w.2.1 a = some (.inr (t, n))) : ∃ cA : ClassId, H[a]? = some (arrV cA n (fun j => am_v t (w.2.2.1 a j) (w.2.2.2 a j))) ∧ ArrOfT s cA t ∧ va_RA s cA t := (hR.2 a _ hsh).2
theorem am_arlen (C : am_C p m c cc nL s args Ts own D cl A) (hdg : decode cc pc = .ok (.arraylength, 1)) {β : Type} {K9 : Int32 → Option β} {r : β} (hX : (am_al a w).bind K9 = some r)
    (kk : ∀ x, K9 x = some r → am_V p l e R s m args below meth c D cl ty A F nL cells slots Q (pc + 1) lo (.int x :: st) w) : am_V p l e R s m args below meth c D cl ty A F nL cells slots Q pc lo (.ref a :: st) w := by
  obtain ⟨x, h1, h2⟩ := am_bind hX
  obtain ⟨t, n, hsh, hv⟩ := am_al_of h1
  intro H locs ls hR hS hL
  obtain ⟨cA, q1, q2, q3⟩ := am_arr hR hsh
  exact W.alen C.1.1 C.1.2.1 q1 (q2 n _) (by rw [arrV_size]; exact hv.symm) rfl rfl hdg (kk x h2 H locs ls hR hS hL)
theorem am_rep.setArr {H H1 : Heap} {t : FieldType} {n i : Nat} {cA : ClassId} {w1 : am_w} {v : Value} (hR : am_rep D cl ty A s w H) (hsh : w.2.1 a = some (.inr (t, n))) (q2 : ArrOfT s cA t) (q3 : va_RA s cA t) (hz : w1.1 = w.1) (hs : w1.2.1 = w.2.1)
    (e1 : H1[a]? = some ((arrV cA n (fun j => am_v t (w.2.2.1 a j) (w.2.2.2 a j))).setSlot i v)) (hv : ∀ j, updV (fun j => am_v t (w.2.2.1 a j) (w.2.2.2 a j)) i v j = am_v t (w1.2.2.1 a j) (w1.2.2.2 a j)) (z : H1.size = H.size) (oq : ∀ q : Nat, q ≠ a → H1[q]? = H[q]?) (h1 : ∀ q j, q ≠ a → w1.2.2.1 q j = w.2.2.1 q j) (h2 : ∀ q j, q ≠ a → w1.2.2.2 q j = w.2.2.2 q j) : am_rep D cl ty A s w1 H1 := by
  refine ⟨(z.trans hR.1).trans hz.symm, fun q e9 he => ?_⟩
  rw [hs] at he
  refine ⟨(hR.2 q e9 he).1, ?_⟩
  by_cases hq : q = a
  · subst hq
    have : e9 = .inr (t, n) := Option.some.inj (he.symm.trans hsh)
    subst this
    refine ⟨cA, ?_, q2, q3⟩
    rw [e1, arrV_store]
    congr 2
    funext j
    exact hv j
  · exact (hR.2 q e9 he).2.kept (oq q hq) (fun j => h1 q j hq) (fun j => h2 q j hq)
theorem am_iald (C : am_C p m c cc nL s args Ts own D cl A) {i : Int32} (hdg : decode cc pc = .ok (.iaload, 1)) {β : Type} {K9 : Int32 → Option β} {r : β} (hX : (am_ig a i w).bind K9 = some r)
    (kk : ∀ x, K9 x = some r → am_V p l e R s m args below meth c D cl ty A F nL cells slots Q (pc + 1) lo (.int x :: st) w) : am_V p l e R s m args below meth c D cl ty A F nL cells slots Q pc lo (.int i :: .ref a :: st) w := by
  obtain ⟨x, h1, h2⟩ := am_bind hX
  obtain ⟨n, hsh, hin, hx⟩ := am_ig_of h1
  subst hx
  intro H locs ls hR hS hL
  obtain ⟨cA, q1, q2, q3⟩ := am_arr hR hsh
  have hlt : i.toNatClampNeg < n := Nat.not_le.mp fun q => hin (Or.inr q)
  exact W.iald C.1.1 C.1.2.1 q1 (q2 n _) (fun q => by cases q) (by rw [arrV_size]; exact hin) (by rw [arrV_read _ _ hlt]; rfl) rfl rfl hdg (kk _ h2 H locs ls hR hS hL)
theorem am_cald (C : am_C p m c cc nL s args Ts own D cl A) {i : Int32} (hdg : decode cc pc = .ok (.caload, 1)) {β : Type} {K9 : Int32 → Option β} {r : β} (hX : (am_cg a i w).bind K9 = some r)
    (kk : ∀ x, K9 x = some r → am_V p l e R s m args below meth c D cl ty A F nL cells slots Q (pc + 1) lo (.int x :: st) w) : am_V p l e R s m args below meth c D cl ty A F nL cells slots Q pc lo (.int i :: .ref a :: st) w := by
  obtain ⟨x, h1, h2⟩ := am_bind hX
  obtain ⟨n, hsh, hin, hx⟩ := am_cg_of h1
  subst hx
  intro H locs ls hR hS hL
  obtain ⟨cA, q1, q2, q3⟩ := am_arr hR hsh
  have hlt : i.toNatClampNeg < n := Nat.not_le.mp fun q => hin (Or.inr q)
  exact W.cald C.1.1 C.1.2.1 q1 (q2 n _) (fun q => by cases q) (by rw [arrV_size]; exact hin) (by rw [arrV_read _ _ hlt]; rfl) rfl rfl hdg (kk _ h2 H locs ls hR hS hL)
theorem am_lald (C : am_C p m c cc nL s args Ts own D cl A) {i : Int32} (hdg : decode cc pc = .ok (.laload, 1)) {β : Type} {K9 : Int32 → Option β} {r : β} (hX : (am_lg a i w).bind K9 = some r)
    (kk : ∀ x, K9 x = some r → am_V p l e R s m args below meth c D cl ty A F nL cells slots Q (pc + 1) lo (.long x.toInt64 :: st) w) : am_V p l e R s m args below meth c D cl ty A F nL cells slots Q pc lo (.int i :: .ref a :: st) w := by
  obtain ⟨x, h1, h2⟩ := am_bind hX
  obtain ⟨n, hsh, hin, hx⟩ := am_lg_of h1
  subst hx
  intro H locs ls hR hS hL
  obtain ⟨cA, q1, q2, q3⟩ := am_arr hR hsh
  have hlt : i.toNatClampNeg < n := Nat.not_le.mp fun q => hin (Or.inr q)
  exact W.lald C.1.1 C.1.2.1 q1 (q2 n _) (fun q => by cases q) (by rw [arrV_size]; exact hin) (by rw [arrV_read _ _ hlt]; rfl) rfl rfl hdg (kk _ h2 H locs ls hR hS hL)
theorem am_iast (C : am_C p m c cc nL s args Ts own D cl A) (hF : ∀ q, A q → F q) {i x : Int32} (hdg : decode cc pc = .ok (.iastore, 1)) {β : Type} {K9 : am_w → Option β} {r : β} (hX : (am_is a i x w).bind K9 = some r)
    (kk : ∀ w1, K9 w1 = some r → am_V p l e R s m args below meth c D cl ty A F nL cells slots Q (pc + 1) lo st w1) : am_V p l e R s m args below meth c D cl ty A F nL cells slots Q pc lo (.int x :: .int i :: .ref a :: st) w := by
  obtain ⟨w1, h1, h2⟩ := am_bind hX
  obtain ⟨n, hsh, hin, hw1⟩ := am_is_of h1
  intro H locs ls hR hS hL
  obtain ⟨cA, q1, q2, q3⟩ := am_arr hR hsh
  refine W.iast C.1.1 C.1.2.1 q1 (q2 n _) (fun q => by cases q) (by rw [arrV_size]; exact hin) rfl rfl hdg fun H1 e1 z oq => ?_
  refine kk w1 h2 H1 _ ls (am_rep.setArr hR hsh q2 q3 (by rw [hw1]; rfl) (by rw [hw1]; rfl) e1 (fun j => ?_) z oq (fun q j h => by rw [hw1]; exact am_up_na h) (fun q j h => by rw [hw1]; rfl)) (hS.put z oq (hF a (hR.2 a _ hsh).1)) hL
  rw [hw1]
  by_cases hj : j = i.toNatClampNeg
  · subst hj
    simp [updV, am_wi, am_up, am_v, am_k, narrow]
  · simp [updV, am_wi, am_up, hj]
theorem am_cast (C : am_C p m c cc nL s args Ts own D cl A) (hF : ∀ q, A q → F q) {i x : Int32} (hdg : decode cc pc = .ok (.castore, 1)) {β : Type} {K9 : am_w → Option β} {r : β} (hX : (am_cs a i x w).bind K9 = some r)
    (kk : ∀ w1, K9 w1 = some r → am_V p l e R s m args below meth c D cl ty A F nL cells slots Q (pc + 1) lo st w1) : am_V p l e R s m args below meth c D cl ty A F nL cells slots Q pc lo (.int x :: .int i :: .ref a :: st) w := by
  obtain ⟨w1, h1, h2⟩ := am_bind hX
  obtain ⟨n, hsh, hin, hw1⟩ := am_cs_of h1
  intro H locs ls hR hS hL
  obtain ⟨cA, q1, q2, q3⟩ := am_arr hR hsh
  refine W.cast C.1.1 C.1.2.1 q1 (q2 n _) (fun q => by cases q) (by rw [arrV_size]; exact hin) rfl rfl hdg fun H1 e1 z oq => ?_
  refine kk w1 h2 H1 _ ls (am_rep.setArr hR hsh q2 q3 (by rw [hw1]; rfl) (by rw [hw1]; rfl) e1 (fun j => ?_) z oq (fun q j h => by rw [hw1]; exact am_up_na h) (fun q j h => by rw [hw1]; rfl)) (hS.put z oq (hF a (hR.2 a _ hsh).1)) hL
  rw [hw1]
  by_cases hj : j = i.toNatClampNeg
  · subst hj
    simp [updV, am_wi, am_up, am_v, am_k, narrow]
  · simp [updV, am_wi, am_up, hj]
theorem am_last (C : am_C p m c cc nL s args Ts own D cl A) (hF : ∀ q, A q → F q) {i x : Int32} (hdg : decode cc pc = .ok (.lastore, 1)) {β : Type} {K9 : am_w → Option β} {r : β} (hX : (am_lp a i x w).bind K9 = some r)
    (kk : ∀ w1, K9 w1 = some r → am_V p l e R s m args below meth c D cl ty A F nL cells slots Q (pc + 1) lo st w1) : am_V p l e R s m args below meth c D cl ty A F nL cells slots Q pc lo (.long x.toInt64 :: .int i :: .ref a :: st) w := by
  obtain ⟨w1, h1, h2⟩ := am_bind hX
  obtain ⟨n, hsh, hin, hw1⟩ := am_lp_of h1
  intro H locs ls hR hS hL
  obtain ⟨cA, q1, q2, q3⟩ := am_arr hR hsh
  refine W.last C.1.1 C.1.2.1 q1 (q2 n _) (fun q => by cases q) (by rw [arrV_size]; exact hin) rfl rfl hdg fun H1 e1 z oq => ?_
  refine kk w1 h2 H1 _ ls (am_rep.setArr hR hsh q2 q3 (by rw [hw1]; rfl) (by rw [hw1]; rfl) e1 (fun j => ?_) z oq (fun q j h => by rw [hw1]; exact am_up_na h) (fun q j h => by rw [hw1]; rfl)) (hS.put z oq (hF a (hR.2 a _ hsh).1)) hL
  rw [hw1]
  by_cases hj : j = i.toNatClampNeg
  · subst hj
    simp [updV, am_wi, am_up, am_v, am_k, narrow]
  · simp [updV, am_wi, am_up, hj]
theorem am_aald (C : am_C p m c cc nL s args Ts own D cl A) {i : Int32} (hdg : decode cc pc = .ok (.aaload, 1)) {β : Type} {K9 : Nat → Option β} {r : β} (hX : (am_ag a i w).bind K9 = some r)
    (kk : ∀ b, K9 b = some r → am_V p l e R s m args below meth c D cl ty A F nL cells slots Q (pc + 1) lo (.ref b :: st) w) : am_V p l e R s m args below meth c D cl ty A F nL cells slots Q pc lo (.int i :: .ref a :: st) w := by
  obtain ⟨b, h1, h2⟩ := am_bind hX
  obtain ⟨n, K, hsh, hin, hb9⟩ := am_ag_of h1
  intro H locs ls hR hS hL
  obtain ⟨cA, q1, q2, q3⟩ := am_arr hR hsh
  have hlt : i.toNatClampNeg < n := Nat.not_le.mp fun q => hin (Or.inr q)
  exact W.aald (ty := .object K) C.1.1 C.1.2.1 q1 (q2 n _) rfl (fun q => by cases q) (by rw [arrV_size]; exact hin) (by rw [arrV_read _ _ hlt]; show some (va_rf (w.2.2.2 a i.toNatClampNeg)) = some (.ref b); rw [hb9]; rfl) rfl rfl hdg (kk b h2 H locs ls hR hS hL)
/-- putfield of a reference into a final field, in its constructor -/
theorem am_putrF (C : am_C p m c cc nL s args Ts own D cl A) (hF : ∀ q, A q → F q) {ref K : String} {T : u_T} {N ci index k : Nat} (hin : ∀ w ∈ u_ws K T N, w ∈ Ts) (ty0 : Nat → FieldType) (hty0 : ∀ k, k < N → parseFieldDescriptor (T k).2.2.1 = some (ty0 k)) (hnm : ∀ a, a < N → ∀ b, b < N → a ≠ b → (T a).2.1 ≠ (T b).2.1) (hc : cl[ci]? = some (K, T, N)) (hk : k < N) (hlink : Cond.fieldLink own index ref (T k).2.1 (T k).2.2.1 ∈ Ts) (href : (T k).1 = ref) (hfin : (T k).2.2.2 = true) (hdecl : (T k).1 = own) (hin2 : meth.name = "<init>") {t9 : FieldType} {x : Nat} (hd : parseFieldDescriptor (T k).2.2.1 = some t9) (hn : narrow t9 (.ref x) = .ref x) (hfit : fits t9 (.ref x) = true) (hty : am_k (ty ci k) = 1) (hdg : decode cc pc = .ok (.putfield index, 3)) {β : Type} {K9 : am_w → Option β} {r : β} (hX : (am_rp ci k a x w).bind K9 = some r)
    (kk : ∀ w1, K9 w1 = some r → am_V p l e R s m args below meth c D cl ty A F nL cells slots Q (pc + 3) lo st w1) : am_V p l e R s m args below meth c D cl ty A F nL cells slots Q pc lo (.ref x :: .ref a :: st) w := by
  obtain ⟨w1, hX1, hX2⟩ := am_bind hX
  obtain ⟨hsh, hw1⟩ := am_rp_of hX1
  intro H locs ls hR hS hL
  have hap := va_apart (own := own) C.1.2.2.2.2 hin ty0 hty0 hnm C.2.1 hc
  obtain ⟨⟨hexec, hb, hml, hown, hts⟩, hK, -, -⟩ := C
  obtain ⟨cell, q1, q2, q3, q4⟩ := (hR.2 a _ hsh).2.obj hc
  obtain ⟨hS2, hfc, kC, hkC, hkind⟩ := hK.1 ci _ hc
  obtain ⟨cf, kf, fi, f, hi9, hsl⟩ := hS2 k hk
  have hsl' : f.slot = D.2 ci k := hsl
  have hi9' : s.fieldFound? ref (T k).2.1 (T k).2.2.1 = some (cf, kf, fi, f) := by rw [← href]; exact hi9
  have hlay := hts _ (hin _ (u_in_lay hk))
  unfold u_lay at hlay
  rw [if_pos hfin] at hlay
  have hst := (u_facts hfc hkC (u_lays hts hin hk) hi9).1
  have hcf : m.cls = cf := by
    obtain ⟨_, _, c', _, _, _, -, -, hf', -, -, -, hown2, -⟩ := Cond.laysFinal_spec hlay
    have e1 : c' = cf := by have := hi9.symm.trans hf'; simp at this; exact this.1.symm
    rw [hdecl] at hown2
    rw [← e1]; exact Option.some.inj (hown.symm.trans hown2)
  have h6 := u_fits hfc hkC hkind (Or.inr hlay) hi9 hd hn hfit
  refine W.putFinK hexec hb hown (hts _ hlink) hi9' hst hcf hin2 (by rw [q2]; exact h6) q1 q3 (by rw [hsl']; exact k2_hasslot (q4 k hk)) rfl rfl hdg fun H' e1 e2 e3 => ?_
  rw [hsl'] at e1 ⊢
  refine kk w1 hX2 H' _ ls (am_rep.setObj hR hsh hc (by rw [hw1]; rfl) (by rw [hw1]; rfl) ?_ e2 e3 (fun q j h => by rw [hw1]; rfl) (fun q j h => by rw [hw1]; exact am_up_na h)) (hS.put e2 e3 (hF a (hR.2 a _ hsh).1)) hL
  refine t_OB.to (V := updV (fun j => am_v (ty ci j) (w.2.2.1 a j) (w.2.2.2 a j)) k (.ref x)) ⟨_, e1, q2, q3, t_set q4 hap hk _⟩ (fun j _ => ?_)
  rw [hw1]
  by_cases hj : j = k
  · subst hj
    simp [updV, am_wr, am_up, am_v, hty, va_rf]
  · simp [updV, am_wr, am_up, hj]
theorem am_aast (C : am_C p m c cc nL s args Ts own D cl A) (hF : ∀ q, A q → F q) {K : String} {T : u_T} {N ci : Nat} {v : Nat} {i : Int32} (hc : cl[ci]? = some (K, T, N)) (hdg : decode cc pc = .ok (.aastore, 1)) {β : Type} {K9 : am_w → Option β} {r : β} (hX : (am_as9 K ci a i v w).bind K9 = some r)
    (kk : ∀ w1, K9 w1 = some r → am_V p l e R s m args below meth c D cl ty A F nL cells slots Q (pc + 1) lo st w1) : am_V p l e R s m args below meth c D cl ty A F nL cells slots Q pc lo (.ref v :: .int i :: .ref a :: st) w := by
  obtain ⟨w1, hX1, hX2⟩ := am_bind hX
  obtain ⟨n, hsh, hshv, hin, hw1⟩ := am_as9_of hX1
  intro H locs ls hR hS hL
  have hlt : i.toNatClampNeg < n := Nat.not_le.mp fun q => hin (Or.inr q)
  have h0 : ¬ i < 0 := fun q => hin (Or.inl q)
  obtain ⟨cA, q1, q2, q3⟩ := am_arr hR hsh
  obtain ⟨cellV, g1, g2, g3, -⟩ := (hR.2 v _ hshv).2.obj hc
  have hcls := (C.2.1.1 ci _ hc).2
  obtain ⟨kA, comp, k1, k2, k3, k4⟩ := q3
  have hcomp : comp = D.1 ci := Option.some.inj (k3.symm.trans hcls.1)
  subst hcomp
  obtain ⟨kC, hkC, -⟩ := hcls.2
  refine W.aast C.1.1 C.1.2.1 q1 (fun q h => by cases h) (fun h => by cases h) k1 k2 rfl hkC ⟨h0, by show _ < (arrV _ _ _).slots.size; rw [arrV_size]; exact hlt⟩ g1 (fun q h => by rw [g3] at h; cases h) (by rw [g2]; exact hkC) (by rw [g2]; exact va_assign hcls) rfl rfl hdg fun H1 e1 z oq => ?_
  refine kk w1 hX2 H1 _ ls (am_rep.setArr hR hsh q2 ⟨kA, _, k1, k2, k3, k4⟩ (by rw [hw1]; rfl) (by rw [hw1]; rfl) e1 (fun j => ?_) z oq (fun q j h => by rw [hw1]; rfl) (fun q j h => by rw [hw1]; exact am_up_na h)) (hS.put z oq (hF a (hR.2 a _ hsh).1)) hL
  rw [hw1]
  by_cases hj : j = i.toNatClampNeg
  · subst hj
    simp [updV, am_wr, am_up, am_v, am_k, va_rf]
  · simp [updV, am_wr, am_up, hj]
theorem am_objInit (C : am_C p m c cc nL s args Ts own D cl A) {idx : Nat} (hlink : Cond.methodLink own idx Lib.objectInit ∈ Ts) (hinst : Cond.instanceMethod Lib.objectInit ∈ Ts) (hcode : Cond.code Lib.objectInit ⟨#[0xb1]⟩ 1 none ∈ Ts) (hd : decode cc pc = .ok (.invokespecial idx, 3)) (hframes : 1 ≤ R.frames) (hlocals : (st.map fun v => v.category).sum + 12 ≤ R.locals)
    (kk : am_V p l e R s m args below meth c D cl ty A F nL cells slots Q (pc + 3) lo st w) : am_V p l e R s m args below meth c D cl ty A F nL cells slots Q pc lo (.ref a :: st) w := fun H locs ls hR hS hL =>
  W.objInit C.1.1 C.1.2.1 C.1.2.2.2.1 (C.1.2.2.2.2 _ hlink) (C.1.2.2.2.2 _ hinst) (C.1.2.2.2.2 _ hcode) rfl (hL.1.1.trans C.1.2.2.1.symm) rfl hd hframes (by show 2 * 0 + _ + 12 ≤ _; omega) (kk H locs ls hR hS hL)
end AMH
end
section
section AMC
variable {p : Program} {l : Launch} {e : Env} {R : Room} {s : State} {m : MethodId} {args : Array Value} {below : List Frame} {meth : Method} {c : Code} {cells slots : Nat} {Q : State → Prop}
variable {cc : ByteArray} {own : String} {Ts : List Cond} {nL : Nat} {D : va_G} {cl : List vw_C} {ty : Nat → Nat → FieldType} {A F : Nat → Prop}
variable {pc : Nat} {lo : List (Option Value)} {st : List Value} {w : am_w} {a : Nat}
/-- a contract's start: these arguments, this world -/
def am_P (D : va_G) (cl : List vw_C) (ty : Nat → Nat → FieldType) (A : Nat → Prop) (av : List Value) (w : am_w) : Array Value → State → Prop :=
  va_Pc av (fun U => am_rep D cl ty A U w U.heap ∧ va_K D cl [] U ∧ (∀ q, U.heap.size ≤ q → A q) ∧ am_Z U ∧ am_Y D A U U.heap)
/-- its end: the answer and the world behind it -/
def am_Q (D : va_G) (cl : List vw_C) (ty : Nat → Nat → FieldType) (A G : Nat → Prop) (post : Option Value → am_w → Prop) : Array Value → State → Outcome → State → Prop := fun _ st o t =>
  (∃ (v : Option Value) (w : am_w), o = .returned v ∧ post v w ∧ am_rep D cl ty A t w t.heap) ∧ va_F G st t
abbrev am_Met (l : Launch) (D : va_G) (cl : List vw_C) (ty : Nat → Nat → FieldType) (A G : Nat → Prop) (y : MethodName) (ws : List Cond) (rm : Room) (av : List Value) (w : am_w) (post : Option Value → am_w → Prop) (mc ms : Nat) : Prop :=
  Met l y ws rm (am_P D cl ty A av w) (am_Q D cl ty A G post) mc ms G
theorem am_blind {av : List Value} : FrameBlind (am_P D cl ty A av w) := fun a9 U g mk q =>
  ⟨q.1, am_rep.moved (u := U) (U := U.calling g mk a9) (Vm.Alike.refl U.vm) q.2.1, va_K.moved (u := U) (U := U.calling g mk a9) (Vm.Alike.refl U.vm) q.2.2.1, q.2.2.2.1, am_Z.same (u := U) (U := U.calling g mk a9) rfl q.2.2.2.2.1, am_Y.same (u := U) (U := U.calling g mk a9) q.2.2.2.2.2 rfl⟩
/-- what a call's start asks, out of the world at hand -/
theorem am_start (C : am_C p m c cc nL s args Ts own D cl A) (hFA : ∀ q, F q → A q) {H : Heap} {locs : List Loc} (hR : am_rep D cl ty A s w H) (hS : va_S F s.heap H locs) {av : List Value} {U : State} (hU : U.heap = H) (hW : s.WarmedH U.vm) : am_P D cl ty A av w av.toArray U :=
  ⟨rfl, by rw [hU]; exact hR.moved hW.alike, va_K.moved hW.alike C.2.1, fun q hq => C.2.2.1 q (Nat.le_trans hS.1 (by rw [← hU]; exact hq)), C.2.2.2.2.1.warm hW, by rw [hU]; exact (C.2.2.2.2.2.kept (fun a h1 h2 => hS.2.1 a h1 (fun z => h2 (hFA a z)))).warm hW⟩
/-- behind a call: whatever the contract says of answer and world -/
theorem am_goon {G : Nat → Prop} {mc ms : Nat} {H : Heap} {locs : List Loc} {ls : Array Slot} {st0 rest : List Value} {post : Option Value → am_w → Prop} {a9 : Array Value}
    (hr9 : va_Run p l e R s m args below meth c H locs cells slots mc ms (F0 m pc ls st0) rest (am_Q D cl ty A G post a9) G) (hG : ∀ q, G q → F q) (hS : va_S F s.heap H locs) (hL : am_ls ls nL lo)
    (kk : ∀ (v : Option Value) (w1 : am_w), post v w1 → am_V p l e R s m args below meth c D cl ty A F nL (cells + mc) (slots + ms) Q (pc + 3) lo (v.toList ++ rest) w1) : W p l e R s m args below meth c H locs cells slots Q (F0 m pc ls st0) := by
  intro T hT X
  obtain ⟨v, st₀, t, T', L, h0, X', hL', e1, e2, ⟨⟨v', w', hv, hp, hrep⟩, hz, hk⟩, go⟩ := hr9 T hT X
  cases hv
  rw [h0] at hz hk
  have hal : t.vm.Alike s.vm := by rw [← e2]; exact X'.warmed.alike.symm
  obtain ⟨t2, a1, b1⟩ := kk v w' hp T'.heap (locs ++ L) ls (by rw [e1]; exact hrep.moved hal)
    ⟨Nat.le_trans hS.1 (by rw [e1]; exact hz), fun q h1 h2 => by rw [e1, hk q (Nat.lt_of_lt_of_le h1 hS.1) (fun z => h2 (hG q z))]; exact hS.2.1 q h1 h2, fun q hq => (List.mem_append.mp hq).elim (fun h => hS.2.2 q h) (fun h => hG _ (hL' q h))⟩ hL T' rfl X'
  exact ⟨t2, go t2 a1, b1⟩
/-- the words of a call, out of one list of good words -/
theorem am_good {Tw ws : List Cond} (hall : ∀ w ∈ Tw, goodWord w = true) (h : ∀ w ∈ ws, w ∈ Tw) : GoodIn Tw ws := fun w hw => ⟨h w hw, good_of_word (hall w (h w hw))⟩
theorem am_goodV {Tw : List Cond} {own9 K : String} {index maxL : Nat} {y : MethodName} {bytes : ByteArray} {ret : Option FieldType} (hall : ∀ w ∈ Tw, goodWord w = true) (h1 : Cond.methodLink own9 index y ∈ Tw) (h2 : Cond.instanceMethod y ∈ Tw) (h3 : Cond.selects K y y ∈ Tw) (h4 : Cond.initialized K ∈ Tw) (h5 : Cond.code y bytes maxL ret ∈ Tw) : GoodIn Tw (wsV own9 index K y (Cond.code y bytes maxL ret :: Tw)) := by
  refine am_good hall (fun w hw => ?_)
  simp only [wsV, List.cons_append, List.nil_append, List.mem_cons] at hw
  rcases hw with rfl | rfl | rfl | rfl | rfl | hw
  · exact h1
  · exact h2
  · exact h3
  · exact h4
  · exact h5
  · exact hw
theorem am_goodS {Tw : List Cond} {own9 : String} {index maxL : Nat} {y : MethodName} {bytes : ByteArray} {ret : Option FieldType} (hall : ∀ w ∈ Tw, goodWord w = true) (h1 : Cond.methodLink own9 index y ∈ Tw) (h2 : Cond.static y ∈ Tw) (h4 : Cond.initialized y.cls ∈ Tw) (h5 : Cond.code y bytes maxL ret ∈ Tw) : GoodIn Tw (va_wsS own9 index y (Cond.code y bytes maxL ret :: Tw)) := by
  refine am_good hall (fun w hw => ?_)
  simp only [va_wsS, List.cons_append, List.nil_append, List.mem_cons] at hw
  rcases hw with rfl | rfl | rfl | rfl | hw
  · exact h1
  · exact h2
  · exact h4
  · exact h5
  · exact hw
theorem am_goodI {Tw : List Cond} {y : MethodName} {bytes : ByteArray} {maxL : Nat} {ret : Option FieldType} (hall : ∀ w ∈ Tw, goodWord w = true) (h5 : Cond.code y bytes maxL ret ∈ Tw) : GoodIn Tw (Cond.code y bytes maxL ret :: Tw) := by
  refine am_good hall (fun w hw => ?_)
  rcases List.mem_cons.mp hw with rfl | hw
  · exact h5
  · exact hw
/-- the forms of an end: an int, nothing -/
def am_ri (r : Int32 × am_w) : Option Value → am_w → Prop := fun v w => v = some (.int r.1) ∧ w = r.2
def am_rv (r : Int32 × am_w) : Option Value → am_w → Prop := fun v w => v = none ∧ w = r.2
theorem am_callVi (C : am_C p m c cc nL s args Ts own D cl A) (hFA : ∀ q, F q → A q) {G : Nat → Prop} (hG9 : ∀ q, G q → F q) {y : MethodName} {rm : Room} {As : List Value} {mc ms index n N ci b maxL : Nat} {K : String} {T : u_T} {bytes : ByteArray} {rt : FieldType} {f : Option (Int32 × am_w)} {β : Type} {K9 : Int32 × am_w → Option β} {r : β}
    (hM : ∀ q, f = some q → am_Met l D cl ty A G y (Cond.code y bytes maxL (some rt) :: Ts) rm (.ref b :: As) w (am_ri q) mc ms) (m1 : Cond.methodLink own index y ∈ Ts) (i1 : Cond.instanceMethod y ∈ Ts) (s1 : Cond.selects K y y ∈ Ts) (n1 : Cond.initialized K ∈ Ts) (c1 : Cond.code y bytes maxL (some rt) ∈ Ts) (hrc : rm.cells = mc) (hrs : rm.slots = ms)
    (hd : y.cls = K ∧ y.cls ≠ "java/lang/invoke/MethodHandle" ∧ y.cls ≠ "java/lang/invoke/VarHandle" ∧ (parseMethodDescriptor y.desc).map (fun d => d.parameters.length) = some n) (hRm : rm.frames + 1 ≤ R.frames ∧ 8 + (maxL + 11) + rm.locals ≤ R.locals)
    (hc : cl[ci]? = some (K, T, N)) (hn : As.length = n) (hcat : (st.map fun v => v.category).sum ≤ 8) (hdg : decode cc pc = .ok (.invokevirtual index, 3)) (hf : cells + mc ≤ R.cells ∧ slots + ms ≤ R.slots) {cells1 slots1 : Nat} (hc1 : cells + mc = cells1) (hs1 : slots + ms = slots1) {st0 : List Value} (hst : st0 = As.reverse ++ .ref b :: st) (hX : (am_ob ci b w f).bind K9 = some r) (kk : ∀ q : Int32 × am_w, K9 q = some r → am_V p l e R s m args below meth c D cl ty A F nL cells1 slots1 Q (pc + 3) lo (.int q.1 :: st) q.2) : am_V p l e R s m args below meth c D cl ty A F nL cells slots Q pc lo st0 w := by
  obtain ⟨q, hX0, hX2⟩ := am_bind hX
  obtain ⟨hsh, hX1⟩ := am_ob_of hX0
  subst hst
  subst hc1
  subst hs1
  intro H locs ls hR hS hL
  have hrecv : ∃ cellB : Cell, H[b]? = some cellB ∧ cellB.vm.isStatics = false ∧ s.vm.findClass K = some cellB.cls := by
    obtain ⟨cell, q1, q2, q3, -⟩ := (hR.2 b _ hsh).2.obj hc
    exact ⟨cell, q1, by rw [q3]; rfl, by rw [q2]; exact (C.2.1.1 ci _ hc).2.1⟩
  exact am_goon (va_runV (As := As) (rest := st) C.1 (hM q hX1) (cwV n C.1.2.2.2.2 (am_goodV C.2.2.2.1 m1 i1 s1 n1 c1) rfl hrc hrs hd hRm) ⟨am_blind, hrecv, fun U hU hW => am_start C hFA hR hS hU hW⟩ rfl hn hL.1.1 rfl (lv_room hcat) hdg hf) hG9 hS hL (fun v w1 h => by obtain ⟨h1, h2⟩ := h; subst h1; subst h2; exact kk q hX2)
theorem am_callVv (C : am_C p m c cc nL s args Ts own D cl A) (hFA : ∀ q, F q → A q) {G : Nat → Prop} (hG9 : ∀ q, G q → F q) {y : MethodName} {rm : Room} {As : List Value} {mc ms index n N ci b maxL : Nat} {K : String} {T : u_T} {bytes : ByteArray} {f : Option (Int32 × am_w)} {β : Type} {K9 : Int32 × am_w → Option β} {r : β}
    (hM : ∀ q, f = some q → am_Met l D cl ty A G y (Cond.code y bytes maxL none :: Ts) rm (.ref b :: As) w (am_rv q) mc ms) (m1 : Cond.methodLink own index y ∈ Ts) (i1 : Cond.instanceMethod y ∈ Ts) (s1 : Cond.selects K y y ∈ Ts) (n1 : Cond.initialized K ∈ Ts) (c1 : Cond.code y bytes maxL none ∈ Ts) (hrc : rm.cells = mc) (hrs : rm.slots = ms)
    (hd : y.cls = K ∧ y.cls ≠ "java/lang/invoke/MethodHandle" ∧ y.cls ≠ "java/lang/invoke/VarHandle" ∧ (parseMethodDescriptor y.desc).map (fun d => d.parameters.length) = some n) (hRm : rm.frames + 1 ≤ R.frames ∧ 8 + (maxL + 11) + rm.locals ≤ R.locals)
    (hc : cl[ci]? = some (K, T, N)) (hn : As.length = n) (hcat : (st.map fun v => v.category).sum ≤ 8) (hdg : decode cc pc = .ok (.invokevirtual index, 3)) (hf : cells + mc ≤ R.cells ∧ slots + ms ≤ R.slots) {cells1 slots1 : Nat} (hc1 : cells + mc = cells1) (hs1 : slots + ms = slots1) {st0 : List Value} (hst : st0 = As.reverse ++ .ref b :: st) (hX : (am_ob ci b w f).bind K9 = some r) (kk : ∀ q : Int32 × am_w, K9 q = some r → am_V p l e R s m args below meth c D cl ty A F nL cells1 slots1 Q (pc + 3) lo st q.2) : am_V p l e R s m args below meth c D cl ty A F nL cells slots Q pc lo st0 w := by
  obtain ⟨q, hX0, hX2⟩ := am_bind hX
  obtain ⟨hsh, hX1⟩ := am_ob_of hX0
  subst hst
  subst hc1
  subst hs1
  intro H locs ls hR hS hL
  have hrecv : ∃ cellB : Cell, H[b]? = some cellB ∧ cellB.vm.isStatics = false ∧ s.vm.findClass K = some cellB.cls := by
    obtain ⟨cell, q1, q2, q3, -⟩ := (hR.2 b _ hsh).2.obj hc
    exact ⟨cell, q1, by rw [q3]; rfl, by rw [q2]; exact (C.2.1.1 ci _ hc).2.1⟩
  exact am_goon (va_runV (As := As) (rest := st) C.1 (hM q hX1) (cwV n C.1.2.2.2.2 (am_goodV C.2.2.2.1 m1 i1 s1 n1 c1) rfl hrc hrs hd hRm) ⟨am_blind, hrecv, fun U hU hW => am_start C hFA hR hS hU hW⟩ rfl hn hL.1.1 rfl (lv_room hcat) hdg hf) hG9 hS hL (fun v w1 h => by obtain ⟨h1, h2⟩ := h; subst h1; subst h2; exact kk q hX2)
theorem am_callSi (C : am_C p m c cc nL s args Ts own D cl A) (hFA : ∀ q, F q → A q) {G : Nat → Prop} (hG9 : ∀ q, G q → F q) {y : MethodName} {rm : Room} {As : List Value} {mc ms index n maxL : Nat} {bytes : ByteArray} {rt : FieldType} {f : Option (Int32 × am_w)} {β : Type} {K9 : Int32 × am_w → Option β} {r : β}
    (hM : ∀ q, f = some q → am_Met l D cl ty A G y (Cond.code y bytes maxL (some rt) :: Ts) rm As w (am_ri q) mc ms) (m1 : Cond.methodLink own index y ∈ Ts) (t1 : Cond.static y ∈ Ts) (n1 : Cond.initialized y.cls ∈ Ts) (c1 : Cond.code y bytes maxL (some rt) ∈ Ts) (hrc : rm.cells = mc) (hrs : rm.slots = ms)
    (hd : y.cls ≠ "java/lang/invoke/MethodHandle" ∧ y.cls ≠ "java/lang/invoke/VarHandle" ∧ (parseMethodDescriptor y.desc).map (fun d => d.parameters.length) = some n) (hRm : rm.frames + 1 ≤ R.frames ∧ 8 + (maxL + 11) + rm.locals ≤ R.locals)
    (hn : As.length = n) (hcat : (st.map fun v => v.category).sum ≤ 8) (hdg : decode cc pc = .ok (.invokestatic index, 3)) (hf : cells + mc ≤ R.cells ∧ slots + ms ≤ R.slots) {cells1 slots1 : Nat} (hc1 : cells + mc = cells1) (hs1 : slots + ms = slots1) {st0 : List Value} (hst : st0 = As.reverse ++ st) (hX : f.bind K9 = some r) (kk : ∀ q : Int32 × am_w, K9 q = some r → am_V p l e R s m args below meth c D cl ty A F nL cells1 slots1 Q (pc + 3) lo (.int q.1 :: st) q.2) : am_V p l e R s m args below meth c D cl ty A F nL cells slots Q pc lo st0 w := by
  obtain ⟨q, hX1, hX2⟩ := am_bind hX
  subst hst
  subst hc1
  subst hs1
  intro H locs ls hR hS hL
  exact am_goon (va_runS (As := As) (rest := st) C.1 (hM q hX1) (va_cwS n C.1.2.2.2.2 (am_goodS C.2.2.2.1 m1 t1 n1 c1) rfl hrc hrs hd hRm) ⟨am_blind, fun U hU hW => am_start C hFA hR hS hU hW⟩ rfl hn hL.1.1 rfl (lv_room hcat) hdg hf) hG9 hS hL (fun v w1 h => by obtain ⟨h1, h2⟩ := h; subst h1; subst h2; exact kk q hX2)
theorem am_callSv (C : am_C p m c cc nL s args Ts own D cl A) (hFA : ∀ q, F q → A q) {G : Nat → Prop} (hG9 : ∀ q, G q → F q) {y : MethodName} {rm : Room} {As : List Value} {mc ms index n maxL : Nat} {bytes : ByteArray} {f : Option (Int32 × am_w)} {β : Type} {K9 : Int32 × am_w → Option β} {r : β}
    (hM : ∀ q, f = some q → am_Met l D cl ty A G y (Cond.code y bytes maxL none :: Ts) rm As w (am_rv q) mc ms) (m1 : Cond.methodLink own index y ∈ Ts) (t1 : Cond.static y ∈ Ts) (n1 : Cond.initialized y.cls ∈ Ts) (c1 : Cond.code y bytes maxL none ∈ Ts) (hrc : rm.cells = mc) (hrs : rm.slots = ms)
    (hd : y.cls ≠ "java/lang/invoke/MethodHandle" ∧ y.cls ≠ "java/lang/invoke/VarHandle" ∧ (parseMethodDescriptor y.desc).map (fun d => d.parameters.length) = some n) (hRm : rm.frames + 1 ≤ R.frames ∧ 8 + (maxL + 11) + rm.locals ≤ R.locals)
    (hn : As.length = n) (hcat : (st.map fun v => v.category).sum ≤ 8) (hdg : decode cc pc = .ok (.invokestatic index, 3)) (hf : cells + mc ≤ R.cells ∧ slots + ms ≤ R.slots) {cells1 slots1 : Nat} (hc1 : cells + mc = cells1) (hs1 : slots + ms = slots1) {st0 : List Value} (hst : st0 = As.reverse ++ st) (hX : f.bind K9 = some r) (kk : ∀ q : Int32 × am_w, K9 q = some r → am_V p l e R s m args below meth c D cl ty A F nL cells1 slots1 Q (pc + 3) lo st q.2) : am_V p l e R s m args below meth c D cl ty A F nL cells slots Q pc lo st0 w := by
  obtain ⟨q, hX1, hX2⟩ := am_bind hX
  subst hst
  subst hc1
  subst hs1
  intro H locs ls hR hS hL
  exact am_goon (va_runS (As := As) (rest := st) C.1 (hM q hX1) (va_cwS n C.1.2.2.2.2 (am_goodS C.2.2.2.1 m1 t1 n1 c1) rfl hrc hrs hd hRm) ⟨am_blind, fun U hU hW => am_start C hFA hR hS hU hW⟩ rfl hn hL.1.1 rfl (lv_room hcat) hdg hf) hG9 hS hL (fun v w1 h => by obtain ⟨h1, h2⟩ := h; subst h1; subst h2; exact kk q hX2)
theorem am_callI (C : am_C p m c cc nL s args Ts own D cl A) (hFA : ∀ q, F q → A q) {G : Nat → Prop} (hG9 : ∀ q, G q → F q) {y : MethodName} {rm : Room} {As : List Value} {mc ms index n b maxL : Nat} {bytes : ByteArray} {f : Option (Int32 × am_w)} {β : Type} {K9 : Int32 × am_w → Option β} {r : β}
    (hM : ∀ q, f = some q → am_Met l D cl ty A G y (Cond.code y bytes maxL none :: Ts) rm (.ref b :: As) w (am_rv q) mc ms) (c1 : Cond.code y bytes maxL none ∈ Ts) (hrc : rm.cells = mc) (hrs : rm.slots = ms) (hini : Cond.initialized y.cls ∈ Ts) (hl : Cond.methodLink own index y ∈ Ts) (hin : Cond.instanceMethod y ∈ Ts) (hy1 : y.name = "<init>")
    (hd : y.cls ≠ "java/lang/invoke/MethodHandle" ∧ y.cls ≠ "java/lang/invoke/VarHandle" ∧ (parseMethodDescriptor y.desc).map (fun d => d.parameters.length) = some n) (hRm : rm.frames + 1 ≤ R.frames ∧ 8 + (maxL + 11) + rm.locals ≤ R.locals)
    (hn : As.length = n) (hcat : (st.map fun v => v.category).sum ≤ 8) (hdg : decode cc pc = .ok (.invokespecial index, 3)) (hf : cells + mc ≤ R.cells ∧ slots + ms ≤ R.slots) {cells1 slots1 : Nat} (hc1 : cells + mc = cells1) (hs1 : slots + ms = slots1) {st0 : List Value} (hst : st0 = As.reverse ++ .ref b :: st) (hX : f.bind K9 = some r) (kk : ∀ q : Int32 × am_w, K9 q = some r → am_V p l e R s m args below meth c D cl ty A F nL cells1 slots1 Q (pc + 3) lo st q.2) : am_V p l e R s m args below meth c D cl ty A F nL cells slots Q pc lo st0 w := by
  obtain ⟨q, hX1, hX2⟩ := am_bind hX
  subst hst
  subst hc1
  subst hs1
  intro H locs ls hR hS hL
  exact am_goon (va_runI (As := As) (rest := st) C.1 (hM q hX1) (cwI n C.1.2.2.2.2 (am_goodI C.2.2.2.1 c1) rfl hrc hrs (C.1.2.2.2.2 _ hini) (C.1.2.2.2.2 _ hl) (C.1.2.2.2.2 _ hin) hy1 hd hRm) ⟨am_blind, fun U hU hW => am_start C hFA hR hS hU hW⟩ rfl hn hL.1.1 rfl (lv_room hcat) hdg hf) hG9 hS hL (fun v w1 h => by obtain ⟨h1, h2⟩ := h; subst h1; subst h2; exact kk q hX2)
theorem am_callIN (C : am_C p m c cc nL s args Ts own D cl A) (hFA : ∀ q, F q → A q) {G : Nat → Prop} (hG9 : ∀ q, G q → F q) {y : MethodName} {rm : Room} {As : List Value} {mc ms index n b maxL : Nat} {bytes : ByteArray} {f : Option (Int32 × am_w)} {β : Type} {K9 : Int32 × am_w → Option β} {r : β}
    (hM : ∀ q, f = some q → am_Met l D cl ty A G y (Cond.code y bytes maxL none :: Ts) rm (.ref b :: As) w (am_rv q) mc ms) (c1 : Cond.code y bytes maxL none ∈ Ts) (hrc : rm.cells = mc) (hrs : rm.slots = ms) (hini : Cond.initialized y.cls ∈ Ts) (host : String) (hl : va_Nw (.methodLinkNest own index y host) s) (hin : Cond.instanceMethod y ∈ Ts) (hy1 : y.name = "<init>")
    (hd : y.cls ≠ "java/lang/invoke/MethodHandle" ∧ y.cls ≠ "java/lang/invoke/VarHandle" ∧ (parseMethodDescriptor y.desc).map (fun d => d.parameters.length) = some n) (hRm : rm.frames + 1 ≤ R.frames ∧ 8 + (maxL + 11) + rm.locals ≤ R.locals)
    (hn : As.length = n) (hcat : (st.map fun v => v.category).sum ≤ 8) (hdg : decode cc pc = .ok (.invokespecial index, 3)) (hf : cells + mc ≤ R.cells ∧ slots + ms ≤ R.slots) {cells1 slots1 : Nat} (hc1 : cells + mc = cells1) (hs1 : slots + ms = slots1) {st0 : List Value} (hst : st0 = As.reverse ++ .ref b :: st) (hX : f.bind K9 = some r) (kk : ∀ q : Int32 × am_w, K9 q = some r → am_V p l e R s m args below meth c D cl ty A F nL cells1 slots1 Q (pc + 3) lo st q.2) : am_V p l e R s m args below meth c D cl ty A F nL cells slots Q pc lo st0 w := by
  obtain ⟨q, hX1, hX2⟩ := am_bind hX
  subst hst
  subst hc1
  subst hs1
  intro H locs ls hR hS hL
  exact am_goon (va_runIN (As := As) (rest := st) C.1 (hM q hX1) (⟨va_cnB n C.1.2.2.2.2 (am_goodI C.2.2.2.1 c1) rfl hrc hrs hl (C.1.2.2.2.2 _ hini) hd hRm, hy1, C.1.2.2.2.2 _ hin⟩) ⟨am_blind, fun U hU hW => am_start C hFA hR hS hU hW⟩ rfl hn hL.1.1 rfl (lv_room hcat) hdg hf) hG9 hS hL (fun v w1 h => by obtain ⟨h1, h2⟩ := h; subst h1; subst h2; exact kk q hX2)
theorem am_widen {k n : Nat} (h1 : cells ≤ k) (h2 : slots ≤ n) (kk : am_V p l e R s m args below meth c D cl ty A F nL k n Q pc lo st w) : am_V p l e R s m args below meth c D cl ty A F nL cells slots Q pc lo st w :=
  fun H locs ls hR hS hL => W.widen h1 h2 (kk H locs ls hR hS hL)
/-! the ends -/
theorem am_iret (C : am_C p m c cc nL s args Ts own D cl A) {r : Int32 × am_w} {mc ms : Nat} {v : Int32} {t9 : FieldType} (hr9 : meth.sig.returnType = some t9) (hlocks : meth.locks = false) (hdg : decode cc pc = .ok (.ireturn, 1)) (hn : narrow t9 (.int v) = .int v) (h1 : cells ≤ mc) (h2 : slots ≤ ms) (hX : some (v, w) = some r) :
    am_V p l e R s m args below meth c D cl ty A F nL cells slots (MQ below (am_Q D cl ty A F (am_ri r)) args s mc ms F) pc lo [.int v] w := by
  cases hX
  exact am_widen h1 h2 (fun H locs ls hR hS hL => W.zret C.1.1 C.1.2.1 hr9 hn (fun t ht hW => ⟨⟨_, _, rfl, ⟨rfl, rfl⟩, by rw [ht]; exact hR.moved hW.alike⟩, hS.F ht⟩) hS.2.2 hdg hlocks)
theorem am_n0 : narrow .boolean (.int 0) = .int 0 := rfl
theorem am_n1 : narrow .boolean (.int 1) = .int 1 := rfl
theorem am_zret (C : am_C p m c cc nL s args Ts own D cl A) {r : Int32 × am_w} {mc ms : Nat} {v : Int32} (hr9 : meth.sig.returnType = some .boolean) (hlocks : meth.locks = false) (hdg : decode cc pc = .ok (.ireturn, 1)) (h1 : cells ≤ mc) (h2 : slots ≤ ms) (hX : (if v &&& 1 = v then some (v, w) else none) = some r) :
    am_V p l e R s m args below meth c D cl ty A F nL cells slots (MQ below (am_Q D cl ty A F (am_ri r)) args s mc ms F) pc lo [.int v] w := by
  by_cases h : v &&& 1 = v
  · exact am_iret C hr9 hlocks hdg (by show Value.int (v &&& 1) = .int v; rw [h]) h1 h2 ((if_pos h).symm.trans hX)
  · rw [if_neg h] at hX
    cases hX
/-- more may have been written -/
theorem am_grow {F1 : Nat → Prop} (h : ∀ q, F q → F1 q) (k : am_V p l e R s m args below meth c D cl ty A F1 nL cells slots Q pc lo st w) : am_V p l e R s m args below meth c D cl ty A F nL cells slots Q pc lo st w :=
  fun H locs ls hR hS hL => k H locs ls hR ⟨hS.1, fun q h1 h2 => hS.2.1 q h1 (fun z => h2 (h q z)), fun q hq => h _ (hS.2.2 q hq)⟩ hL
theorem am_vret (C : am_C p m c cc nL s args Ts own D cl A) {r : Int32 × am_w} {mc ms : Nat} (hr9 : meth.sig.returnType = none) (hlocks : meth.locks = false) (hdg : decode cc pc = .ok (.return_, 1)) (h1 : cells ≤ mc) (h2 : slots ≤ ms) (hX : some ((0 : Int32), w) = some r) :
    am_V p l e R s m args below meth c D cl ty A F nL cells slots (MQ below (am_Q D cl ty A F (am_rv r)) args s mc ms F) pc lo [] w := by
  cases hX
  exact am_widen h1 h2 (fun H locs ls hR hS hL => W.vret C.1.1 C.1.2.1 hr9 (fun t ht hW => ⟨⟨_, _, rfl, ⟨rfl, rfl⟩, by rw [ht]; exact hR.moved hW.alike⟩, hS.F ht⟩) hS.2.2 hdg hlocks)
theorem am_pad {lo0 : List (Option Value)} {k i : Nat} {v : Value} (h : (lo0 ++ List.replicate k none)[i]? = some (some v)) : lo0[i]? = some (some v) := by
  by_cases hl : i < lo0.length
  · rwa [List.getElem?_append_left hl] at h
  · rw [List.getElem?_append_right (by omega)] at h
    have := List.eq_of_mem_replicate (List.mem_of_getElem? h)
    cases this
/-- a contract out of a walk from its entry -/
theorem am_ofV {y : MethodName} {Tw : List Cond} {rm : Room} {maxL mc ms : Nat} {ret : Option FieldType} {av : List Value} {post : Option Value → am_w → Prop}
    (hy : plainName y.cls = true) (hall : ∀ w ∈ Tw, goodWord w = true) (hlen : (lg_sl av).length ≤ maxL) (hcat : ∀ v ∈ av, v.category = 1)
    (body : ∀ (p : Program) (e : Env) (s : State) (m : MethodId) (below : List Frame) (meth : Method) (c : Code), am_C p m c cc maxL s av.toArray Tw y.cls D cl A → meth.sig.returnType = ret → meth.locks = false → meth.name = y.name →
      am_V p l e rm s m av.toArray below meth c D cl ty A F maxL 0 0 (MQ below (am_Q D cl ty A F post) av.toArray s mc ms F) 0 (av.map some ++ List.replicate (maxL - av.length) none) [] w) : am_Met l D cl ty A F y (Cond.code y cc maxL ret :: Tw) rm av w post mc ms := by
  refine Met.ofW (ws := Cond.code y cc maxL ret :: Tw) hy rfl ?_
  intro p e s m args below meth c s₁ B hml hv
  obtain ⟨rfl, hrep, hK, hA, hZ, hY⟩ := hv
  rw [lg_entry_eq]
  exact body p e s m below meth c ⟨⟨B.exec, B.bytes, hml, findClass_of_methodNamed B.named, fun w h9 => atoms_spec (ws := Cond.code y cc maxL ret :: Tw) B.pre w (List.mem_cons_of_mem _ h9)⟩, hK, hA, hall, hZ, hY⟩ B.returns B.notSynchronized (name_of_methodNamed B.named B.method).1 s.heap [] _ hrep va_S.rf ((am_ls.entry av hlen hcat).sub (fun i v h => am_pad h))
/-- the same for a method of the JDK -/
theorem am_ofVF {y : MethodName} {Tw : List Cond} {rm : Room} {maxL mc ms : Nat} {ret : Option FieldType} {av : List Value} {post : Option Value → am_w → Prop}
    (hy : plainFor y = true) (hall : ∀ w ∈ Tw, goodWord w = true) (hlen : (lg_sl av).length ≤ maxL) (hcat : ∀ v ∈ av, v.category = 1)
    (body : ∀ (p : Program) (e : Env) (s : State) (m : MethodId) (below : List Frame) (meth : Method) (c : Code), am_C p m c cc maxL s av.toArray Tw y.cls D cl A → meth.sig.returnType = ret → meth.locks = false → meth.name = y.name →
      am_V p l e rm s m av.toArray below meth c D cl ty A F maxL 0 0 (MQ below (am_Q D cl ty A F post) av.toArray s mc ms F) 0 (av.map some ++ List.replicate (maxL - av.length) none) [] w) : am_Met l D cl ty A F y (Cond.code y cc maxL ret :: Tw) rm av w post mc ms := by
  refine va_MetF (ws := Cond.code y cc maxL ret :: Tw) hy rfl ?_
  intro p e s m args below meth c s₁ B hml hv
  obtain ⟨rfl, hrep, hK, hA, hZ, hY⟩ := hv
  rw [lg_entry_eq]
  exact body p e s m below meth c ⟨⟨B.exec, B.bytes, hml, findClass_of_methodNamed B.named, fun w h9 => atoms_spec (ws := Cond.code y cc maxL ret :: Tw) B.pre w (List.mem_cons_of_mem _ h9)⟩, hK, hA, hall, hZ, hY⟩ B.returns B.notSynchronized (name_of_methodNamed B.named B.method).1 s.heap [] _ hrep va_S.rf ((am_ls.entry av hlen hcat).sub (fun i v h => am_pad h))
/-! what is made: at the heap's end -/
theorem am_rep.made {H H1 : Heap} {e9 : Nat ⊕ (FieldType × Nat)} (hR : am_rep D cl ty A s w H) (hA : A w.1) (z1 : H1.size = w.1 + 1) (o1 : ∀ q, q < w.1 → H1[q]? = H[q]?) (hc : am_cell D cl ty s (am_z w.2.2.1 w.1 0) (am_z w.2.2.2 w.1 none) H1 w.1 e9) : am_rep D cl ty A s (am_nw e9 w) H1 := by
  refine ⟨z1, fun q e1 he => ?_⟩
  by_cases hq : q = w.1
  · subst hq
    have h1 : e9 = e1 := by simpa [am_nw, am_sh] using he
    subst h1
    exact ⟨hA, hc⟩
  · have h1 : w.2.1 q = some e1 := by simpa [am_nw, am_sh, hq] using he
    have h2 := hR.2 q e1 h1
    have h3 : q < w.1 := by have := h2.2.lt; rw [hR.1] at this; exact this
    exact ⟨h2.1, h2.2.kept (o1 q h3) (fun j => by simp [am_nw, am_z, hq]) (fun j => by simp [am_nw, am_z, hq])⟩
theorem am_made_S {H H1 : Heap} {locs : List Loc} {z : Nat} (hS : va_S F s.heap H locs) (hz : H.size = z) (z1 : H1.size = z + 1) (o1 : ∀ q, q < z → H1[q]? = H[q]?) : va_S F s.heap H1 locs :=
  ⟨Nat.le_trans hS.1 (by omega), fun q h1 h2 => (o1 q (by have := hS.1; omega)).trans (hS.2.1 q h1 h2), hS.2.2⟩
theorem am_new (C : am_C p m c cc nL s args Ts own D cl A) {K : String} {T : u_T} {N ci index : Nat} (hin : ∀ w ∈ u_ws K T N, w ∈ Ts) (hty0 : ∀ k, k < N → parseFieldDescriptor (T k).2.2.1 = some (ty ci k)) (hdf : ∀ k, k < N → defaultValue (ty ci k) = am_v (ty ci k) 0 none)
    (hcl : Cond.classLink own index K ∈ Ts) (hinst : Cond.instantiable K N ∈ Ts) (hini : Cond.initialized K ∈ Ts) (hc : cl[ci]? = some (K, T, N)) (hcells : cells + 1 ≤ R.cells) (hslots : slots + N ≤ R.slots) (hdg : decode cc pc = .ok (.new index, 3))
    (kk : am_V p l e R s m args below meth c D cl ty A F nL (cells + 1) (slots + N) Q (pc + 3) lo (.ref w.1 :: st) (am_nw (.inl ci) w)) : am_V p l e R s m args below meth c D cl ty A F nL cells slots Q pc lo st w := by
  intro H locs ls hR hS hL
  have hts := C.1.2.2.2.2
  have hKn := C.2.1.1 ci _ hc
  have hle : s.heap.size ≤ w.1 := by rw [← hR.1]; exact hS.1
  refine W.newcK C.1.1 C.1.2.1 C.1.2.2.2.1 (hts _ hcl) (hts _ hinst) (hts _ hini) rfl hdg hcells hslots hKn.2.1 hR.1 fun H1 kC hkC e1 z1 o1 => ?_
  refine kk H1 locs ls (hR.made (C.2.2.1 w.1 hle) z1 o1 ⟨_, hc, (u_born (ty ci) hts hin hKn hkC e1 hty0).to (fun k hk => ?_)⟩) (am_made_S hS hR.1 z1 o1) hL
  rw [hdf k hk]
  simp [am_z]
theorem am_newa (C : am_C p m c cc nL s args Ts own D cl A) {atype : ArrayType} {t9 : FieldType} (harr : Cond.arrayClass (newarray.typeOf atype) ∈ Ts) (hty9 : newarray.typeOf atype = t9) (hdf : defaultValue t9 = am_v t9 0 none) {n : Int32} {N : Nat} (hn : ¬ n < 0) (hN : n.toNatClampNeg = N) (hbytes : N * componentBytes t9 ≤ 536870912) (hcells : cells + 1 ≤ R.cells) (hslots : slots + N ≤ R.slots) (hdg : decode cc pc = .ok (.newarray atype, 2))
    (kk : am_V p l e R s m args below meth c D cl ty A F nL (cells + 1) (slots + N) Q (pc + 2) lo (.ref w.1 :: st) (am_nw (.inr (t9, N)) w)) : am_V p l e R s m args below meth c D cl ty A F nL cells slots Q pc lo (.int n :: st) w := by
  subst hty9
  intro H locs ls hR hS hL
  have hle : s.heap.size ≤ w.1 := by rw [← hR.1]; exact hS.1
  refine va_newaK C.1.1 C.1.2.1 (C.1.2.2.2.2 _ harr) rfl hdg rfl hn hN hbytes hcells hslots hR.1 fun H1 cA e1 z1 o1 hAr hNm => ?_
  refine kk H1 locs ls (hR.made (C.2.2.1 w.1 hle) z1 o1 ⟨cA, ?_, hAr, by cases atype <;> exact hNm⟩) (am_made_S hS hR.1 z1 o1) hL
  rw [e1]
  congr 2
  funext j
  rw [hdf]
  simp [am_z]
theorem am_newq (C : am_C p m c cc nL s args Ts own D cl A) {K : String} {index : Nat} (hcl : Cond.classLink own index K ∈ Ts) (hover : va_AO K s) {n : Int32} {N : Nat} (hn : ¬ n < 0) (hN : n.toNatClampNeg = N) (hbytes : N * 4 ≤ 536870912) (hcells : cells + 1 ≤ R.cells) (hslots : slots + N ≤ R.slots) (hdg : decode cc pc = .ok (.anewarray index, 3))
    (kk : am_V p l e R s m args below meth c D cl ty A F nL (cells + 1) (slots + N) Q (pc + 3) lo (.ref w.1 :: st) (am_nw (.inr (.object K, N)) w)) : am_V p l e R s m args below meth c D cl ty A F nL cells slots Q pc lo (.int n :: st) w := by
  subst hN
  intro H locs ls hR hS hL
  have hle : s.heap.size ≤ w.1 := by rw [← hR.1]; exact hS.1
  refine W.anew C.1.1 C.1.2.1 C.1.2.2.2.1 (C.1.2.2.2.2 _ hcl) (va_AO.use hover) rfl hdg rfl hn hbytes hcells hslots fun cA kA comp f1 f2 f3 f4 => ?_
  generalize hH1 : H.push ({ cls := cA, slots := Array.replicate n.toNatClampNeg .null, vm := .none } : Cell) = H1
  have z1 : H1.size = w.1 + 1 := by rw [← hH1, Array.size_push, hR.1]
  have e1 : H1[w.1]? = some (arrV cA n.toNatClampNeg (fun _ => .null)) := by rw [← hH1, ← hR.1, Array.getElem?_push_size, ← arrV_new]
  have o1 : ∀ q : Nat, q < w.1 → H1[q]? = H[q]? := fun q hq => by rw [← hH1, Array.getElem?_push, if_neg (by rw [hR.1]; exact Nat.ne_of_lt hq)]
  have hAr : ArrOfT s cA (.object K) := fun N z => ⟨(fun k h => by cases h), kA, f2, comp, f3⟩
  have e0 : (F0 m pc ls (Value.int n :: st)).pc = pc := rfl
  rw [hR.1]
  refine kk H1 locs ls (hR.made (C.2.2.1 w.1 hle) z1 o1 ⟨cA, ?_, hAr, kA, comp, f2, f3, f4, f1⟩) (am_made_S hS hR.1 z1 o1) hL
  rw [e1]
  congr 2
  funext j
  simp [am_z, am_v, am_k, va_rf]
end AMC
end
section
section AMT
variable {p : Program} {l : Launch} {e : Env} {R : Room} {s : State} {m : MethodId} {args : Array Value} {below : List Frame} {meth : Method} {c : Code} {cells slots : Nat} {Q : State → Prop}
variable {cc : ByteArray} {own : String} {Ts : List Cond} {nL : Nat} {D : va_G} {cl : List vw_C} {ty : Nat → Nat → FieldType} {A F : Nat → Prop}
variable {pc : Nat} {lo : List (Option Value)} {st : List Value} {w : am_w} {a : Nat}
/-- the world behind a throw: a cell more, which is no part of it -/
def am_th (w : am_w) : am_w := (w.1 + 1, w.2)
/-- an end that answers (number 0) or throws -/
def am_Qt (D : va_G) (cl : List vw_C) (ty : Nat → Nat → FieldType) (A G : Nat → Prop) (q : Option Value × Nat × am_w) : Array Value → State → Outcome → State → Prop := fun _ st o t =>
  (((q.2.1 = 0 ∧ o = .returned q.1) ∨ (¬ q.2.1 = 0 ∧ ∃ (a : Addr) (ce : Cell), o = .threw a ∧ t.heap[a]? = some ce ∧ ce.vm.isStatics = false ∧ t.vm.findClass (am_X q.2.1) = some ce.cls)) ∧ am_rep D cl ty A t q.2.2 t.heap) ∧ va_F G st t
def am_E (s t : State) (L : List Loc) (k n : Nat) : Prop := s.WarmedH t.vm ∧ s.sameButNew ({ t with vm := s.vm } : State) L k n
def am_MQt (below : List Frame) (Qc : Array Value → State → Outcome → State → Prop) (a : Array Value) (s : State) (mc ms : Nat) (free : Addr → Prop) : State → Prop := fun t =>
  ∃ o, t.status = .running ∧ Ended t below o ∧ Qc a s o t ∧ ∃ L, am_E s t L mc ms ∧ ∀ q ∈ L, free q.base
def am_Mett (l : Launch) (D : va_G) (cl : List vw_C) (ty : Nat → Nat → FieldType) (A G : Nat → Prop) (y : MethodName) (ws : List Cond) (rm : Room) (av : List Value) (w : am_w) (q : Option Value × Nat × am_w) (mc ms : Nat) : Prop :=
  MetFree l y (headSpec ws rm) (am_P D cl ty A av w) (fun _ _ _ _ _ => True) (fun a st o t => am_Qt D cl ty A G q a st o t ∧ ∃ L, am_E st t L mc ms ∧ ∀ x ∈ L, G x.base)
def am_ti (r : Int32 × Nat × am_w) : Option Value × Nat × am_w := (some (.int r.1), r.2)
def am_tv (r : Int32 × Nat × am_w) : Option Value × Nat × am_w := (none, r.2)
theorem am_ti_of {x : Int32} {k : Nat} {w : am_w} {r : Int32 × Nat × am_w} (h : some (x, k, w) = some r) : (some (.int x), k, w) = am_ti r := by cases h; rfl
theorem am_tv_of {x : Int32} {k : Nat} {w : am_w} {r : Int32 × Nat × am_w} (h : some (x, k, w) = some r) : ((none : Option Value), k, w) = am_tv r := by cases h; rfl
theorem am_mono {H : Heap} {locs : List Loc} {Q1 : State → Prop} {g : JFrame} (h : ∀ t, Q1 t → Q t) (k : W p l e R s m args below meth c H locs cells slots Q1 g) : W p l e R s m args below meth c H locs cells slots Q g := fun T hT X =>
  let ⟨t, a, b⟩ := k T hT X
  ⟨t, a, h t b⟩
theorem am_MQ_t {Qc : Array Value → State → Outcome → State → Prop} {mc ms : Nat} (t : State) (h : MQ below Qc args s mc ms F t) : am_MQt below Qc args s mc ms F t := by
  obtain ⟨o, h1, h2, h3, L, hF, hL⟩ := h
  exact ⟨o, h1, h2, h3, L, hF.2, hL⟩
theorem am_irett (C : am_C p m c cc nL s args Ts own D cl A) {r : Int32 × Nat × am_w} {mc ms : Nat} {v : Int32} {t9 : FieldType} (hr9 : meth.sig.returnType = some t9) (hlocks : meth.locks = false) (hdg : decode cc pc = .ok (.ireturn, 1)) (hn : narrow t9 (.int v) = .int v) (h1 : cells ≤ mc) (h2 : slots ≤ ms) (hX : some (v, 0, w) = some r) :
    am_V p l e R s m args below meth c D cl ty A F nL cells slots (am_MQt below (am_Qt D cl ty A F (am_ti r)) args s mc ms F) pc lo [.int v] w := by
  cases hX
  exact am_widen h1 h2 (fun H locs ls hR hS hL => am_mono (fun t h => am_MQ_t t h) (W.zret C.1.1 C.1.2.1 hr9 hn (fun t ht hW => ⟨⟨Or.inl ⟨rfl, rfl⟩, by rw [ht]; exact hR.moved hW.alike⟩, hS.F ht⟩) hS.2.2 hdg hlocks))
theorem am_zrett (C : am_C p m c cc nL s args Ts own D cl A) {r : Int32 × Nat × am_w} {mc ms : Nat} {v : Int32} (hr9 : meth.sig.returnType = some .boolean) (hlocks : meth.locks = false) (hdg : decode cc pc = .ok (.ireturn, 1)) (h1 : cells ≤ mc) (h2 : slots ≤ ms) (hX : (if v &&& 1 = v then some (v, 0, w) else none) = some r) :
    am_V p l e R s m args below meth c D cl ty A F nL cells slots (am_MQt below (am_Qt D cl ty A F (am_ti r)) args s mc ms F) pc lo [.int v] w := by
  by_cases h : v &&& 1 = v
  · exact am_irett C hr9 hlocks hdg (by show Value.int (v &&& 1) = .int v; rw [h]) h1 h2 ((if_pos h).symm.trans hX)
  · rw [if_neg h] at hX
    cases hX
theorem am_vrett (C : am_C p m c cc nL s args Ts own D cl A) {r : Int32 × Nat × am_w} {mc ms : Nat} (hr9 : meth.sig.returnType = none) (hlocks : meth.locks = false) (hdg : decode cc pc = .ok (.return_, 1)) (h1 : cells ≤ mc) (h2 : slots ≤ ms) (hX : some ((0 : Int32), 0, w) = some r) :
    am_V p l e R s m args below meth c D cl ty A F nL cells slots (am_MQt below (am_Qt D cl ty A F (am_tv r)) args s mc ms F) pc lo [] w := by
  cases hX
  exact am_widen h1 h2 (fun H locs ls hR hS hL => am_mono (fun t h => am_MQ_t t h) (W.vret C.1.1 C.1.2.1 hr9 (fun t ht hW => ⟨⟨Or.inl ⟨rfl, rfl⟩, by rw [ht]; exact hR.moved hW.alike⟩, hS.F ht⟩) hS.2.2 hdg hlocks))
/-- a contract that answers or throws, out of a walk from its entry -/
theorem am_ofVt {y : MethodName} {Tw : List Cond} {rm : Room} {maxL mc ms : Nat} {ret : Option FieldType} {av : List Value} {q : Option Value × Nat × am_w} {F0 : Nat → Prop}
    (hy : plainName y.cls = true) (hall : ∀ w ∈ Tw, goodWord w = true) (hlen : (lg_sl av).length ≤ maxL) (hcat : ∀ v ∈ av, v.category = 1)
    (body : ∀ (p : Program) (e : Env) (s : State) (m : MethodId) (below : List Frame) (meth : Method) (c : Code), am_C p m c cc maxL s av.toArray Tw y.cls D cl A → meth.sig.returnType = ret → meth.locks = false → meth.name = y.name → c.exceptionTable.toList = [] →
      am_V p l e rm s m av.toArray below meth c D cl ty A F0 maxL 0 0 (am_MQt below (am_Qt D cl ty A F q) av.toArray s mc ms F) 0 (av.map some ++ List.replicate (maxL - av.length) none) [] w) : am_Mett l D cl ty A F y (Cond.code y cc maxL ret :: Tw) rm av w q mc ms := by
  refine MetFree.of_bodyS (code := cc) (maxLocals := maxL) (ret := ret) hy ?_ ?_
  · intro args s m h hn
    obtain ⟨meth, c, h1, h2, h3, h4, h5, h6, -, -⟩ := Cond.code_spec hn (atoms_spec (ws := Cond.code y cc maxL ret :: Tw) h _ List.mem_cons_self)
    exact ⟨meth, c, h1, h2, h3, h4, h5, h6⟩
  · intro p e s m args below meth c s₁ B hml hv _
    obtain ⟨rfl, hrep, hK, hA, hZ, hY⟩ := hv
    have hh0 : s₁.heap = s.heap := by rw [B.state]; rfl
    have hex : c.exceptionTable.toList = [] := by
      obtain ⟨meth', c', h1, h2, -, -, -, -, h7, -⟩ := Cond.code_spec B.named (atoms_spec (ws := Cond.code y cc maxL ret :: Tw) B.pre _ List.mem_cons_self)
      have X := Stand.of_body B
      have e1 : meth' = meth := Option.some.inj (h1.symm.trans X.method)
      subst e1
      have e2 : c' = c := Option.some.inj (h2.symm.trans X.code)
      subst e2
      simpa using h7
    have hw := body p e s m below meth c ⟨⟨B.exec, B.bytes, hml, findClass_of_methodNamed B.named, fun w h9 => atoms_spec (ws := Cond.code y cc maxL ret :: Tw) B.pre w (List.mem_cons_of_mem _ h9)⟩, hK, hA, hall, hZ, hY⟩ B.returns B.notSynchronized (name_of_methodNamed B.named B.method).1 hex s.heap [] _ hrep va_S.rf ((am_ls.entry av hlen hcat).sub (fun i v h => am_pad h))
    rw [← lg_entry_eq] at hw
    obtain ⟨t, a1, o, b1, b2, b3⟩ := hw s₁ hh0 (Stand.of_body B)
    exact ⟨t, o, a1, b1, b2, b3⟩
abbrev am_names : List String := ["java/lang/RuntimeException", "java/lang/Exception"]
def am_OA (own : String) (ic k : Nat) : Prop := ∀ a ∈ Bundle.ownAtoms0 own ic (am_X k) am_names, a ∈ am_Zw ∨ a ∈ am_Yw
theorem am_X_fit (k : Nat) : Bundle.fit (am_X k) = true := by
  unfold am_X
  split
  · decide
  · split <;> decide
-- new, dup, the constructor, athrow
set_option maxHeartbeats 4000000 in
theorem am_throw (C : am_C p m c cc nL s args Ts own D cl A) (hl : l.stackTraces = false) (hlk : meth.locks = false) (hex : c.exceptionTable.toList = []) {k index ic : Nat} (hk : ¬ k = 0) (hcl : Cond.classLink own index (am_X k) ∈ Ts) (hinst : Cond.instantiable (am_X k) 6 ∈ Ts) (hini : Cond.initialized (am_X k) ∈ Ts) (hoa : am_OA own ic k)
    (hd0 : decode cc pc = .ok (.new index, 3)) (hd3 : decode cc (pc + 3) = .ok (.dup, 1)) (hd4 : decode cc (pc + 3 + 1) = .ok (.invokespecial ic, 3)) (hd7 : decode cc (pc + 3 + 1 + 3) = .ok (.athrow, 1)) (hfr : 5 < R.frames) (hlo : (st.map fun v => v.category).sum + 90 ≤ R.locals) (hcells : 0 + 1 ≤ R.cells) (hslots : 0 + 6 ≤ R.slots) (u : Bool) {r : Option Value × Nat × am_w} {v9 : Option Value} (hX : (v9, k, am_th w) = r) :
    am_V p l e R s m args below meth c D cl ty A (am_F A false) nL 0 0 (am_MQt below (am_Qt D cl ty A (am_F A u) r) args s 1 6 (am_F A u)) pc lo st w := by
  subst hX
  intro H locs ls hR hS hL
  have hts := C.1.2.2.2.2
  have hno : locs = [] := by
    cases locs with
    | nil => rfl
    | cons x xs => exact absurd (hS.2.2 x List.mem_cons_self).1 (by decide)
  subst hno
  obtain ⟨cX, kX, hfX, hkX, -⟩ := Cond.instantiable_spec (hts _ hinst)
  have hle : s.heap.size ≤ w.1 := by rw [← hR.1]; exact hS.1
  refine W.newcK C.1.1 C.1.2.1 C.1.2.2.2.1 (hts _ hcl) (hts _ hinst) (hts _ hini) rfl hd0 hcells hslots hfX hR.1 fun H1 kC hkC e1 z1 o1 => ?_
  refine lv_dup C.1.1 C.1.2.1 hd3 rfl ?_
  intro T hT XS
  have htr : e.platform.stackTraces = false := by rw [XS.admits.platform]; exact hl
  have hat : ∀ a ∈ Bundle.ownAtoms0 own ic (am_X k) am_names, a.before args s = true := by
    intro a ha
    rcases hoa a ha with h | h
    · exact C.2.2.2.2.1.word h
    · exact C.2.2.2.2.2.word a h
  obtain ⟨U, hst, hrun, hend, hW, hsame, ce, hce, hoc⟩ := XS.ctorThrow0 (cls := am_X k) (names := am_names) (a := w.1) (g := F0 m (pc + 3 + 1) ls (.ref w.1 :: .ref w.1 :: st)) (rest := st) C.1.1 htr C.1.2.2.2.1 (am_X_fit k) (by decide) hat (fun x hx => by cases hx) hfX hkC (by rw [hT]; exact e1) hle rfl (hL.1.1.trans C.1.2.2.1.symm) rfl rfl rfl (by rw [C.1.2.1]; exact hd4) (by rw [C.1.2.1]; exact hd7) (fun x hx => by rw [hex] at hx; cases hx) (by show 2 + 3 < R.frames; exact hfr) (by
    show 2 * 0 + ((Value.ref w.1 :: st).map fun v => v.category).sum + (13 * (2 + 1) + 41) ≤ R.locals
    simp only [List.map_cons, List.sum_cons]
    show 2 * 0 + (1 + _) + (13 * (2 + 1) + 41) ≤ R.locals
    omega) hlk
  have hw1 : w.1 = s.heap.size := by
    have h1 := XS.heapSize
    rw [hT, z1] at h1
    omega
  have hU1 : s.heap.size ≤ U.heap.size := hsame.2.1
  have hU2 : U.heap.size ≤ s.heap.size + (0 + 1) := hsame.2.2.1
  have hlt : w.1 < U.heap.size := (Array.getElem?_eq_some_iff.mp hce).1
  have hold : ∀ q, q < s.heap.size → U.heap[q]? = s.heap[q]? := by
    intro q hq
    obtain ⟨c', h1, h2, h3, h4⟩ := hsame.2.2.2.2.2 q _ (Array.getElem?_eq_getElem hq)
    have h5 : c'.slots = (s.heap[q]).slots := Array.ext_getElem? (fun i => h4 i (by simp))
    have h6 : U.heap[q]? = some c' := h1
    rw [h6, h2, h5, Array.getElem?_eq_getElem hq]
  refine ⟨U, hst, .threw w.1, hrun, hend, ⟨⟨Or.inr ⟨hk, w.1, ce, rfl, hce, by rw [hoc.vm]; rfl, ?_⟩, ?_, fun a e9 he => ?_⟩, hU1, fun q h1 _ => hold q h1⟩, [], ⟨hW, hsame⟩, fun q hq => by cases hq⟩
  · have h1 := hoc.cls
    rw [← h1]
    exact hW.alike.findClass _ _
  · show U.heap.size = w.1 + 1
    omega
  · have h2 := hR.2 a e9 he
    have h3 : a < H.size := h2.2.lt
    rw [hR.1, hw1] at h3
    refine ⟨h2.1, (h2.2.kept (H1 := U.heap) ?_ (fun _ => rfl) (fun _ => rfl)).moved hW.alike⟩
    rw [hold a h3, hS.2.1 a h3 (fun z => absurd z.1 (by decide))]
end AMT
end
section
/-! the programs' steps at a world whose parts are known -/
section FL
variable {z : Nat} {sh : am_S} {hi : am_I} {hr : am_R} {a b ci k n j : Nat} {x : Int32}
theorem fl_fg (h : sh a = some (.inl ci)) : am_fg ci k a (z, sh, hi, hr) = some (hi a k) := by simp [am_fg, h]
theorem fl_rg (h : sh a = some (.inl ci)) (hb : hr a k = some b) : am_rg ci k a (z, sh, hi, hr) = some b := by simp [am_rg, h, hb]
theorem fl_fp (h : sh a = some (.inl ci)) : am_fp ci k a x (z, sh, hi, hr) = some (z, sh, am_up hi a k x, hr) := by simp [am_fp, h, am_wi]
theorem fl_rp (h : sh a = some (.inl ci)) : am_rp ci k a b (z, sh, hi, hr) = some (z, sh, hi, am_up hr a k (some b)) := by simp [am_rp, h, am_wr]
theorem fl_ob {α : Type} {f : Option α} (h : sh b = some (.inl ci)) : am_ob ci b (z, sh, hi, hr) f = f := by simp [am_ob, h]
theorem fl_al {t : FieldType} (h : sh a = some (.inr (t, n))) : am_al a (z, sh, hi, hr) = some (nI n) := by simp [am_al, h, nI]
theorem fl_nin (h : j < n) (hn : n < 2 ^ 31) : ¬ (nI j < 0 ∨ n ≤ (nI j).toNatClampNeg) := nI_in h hn
theorem fl_ig (h : sh a = some (.inr (.int, n))) (hj : j < n) (hn : n < 2 ^ 31) : am_ig a (nI j) (z, sh, hi, hr) = some (hi a j) := by
  simp only [am_ig, h]
  rw [if_neg (fl_nin hj hn), nI_clamp (by omega)]
theorem fl_is (h : sh a = some (.inr (.int, n))) (hj : j < n) (hn : n < 2 ^ 31) : am_is a (nI j) x (z, sh, hi, hr) = some (z, sh, am_up hi a j x, hr) := by
  simp only [am_is, h]
  rw [if_neg (fl_nin hj hn), nI_clamp (by omega)]
  rfl
theorem fl_cg (h : sh a = some (.inr (.char, n))) (hj : j < n) (hn : n < 2 ^ 31) : am_cg a (nI j) (z, sh, hi, hr) = some (hi a j) := by
  simp only [am_cg, h]
  rw [if_neg (fl_nin hj hn), nI_clamp (by omega)]
theorem fl_cs (h : sh a = some (.inr (.char, n))) (hj : j < n) (hn : n < 2 ^ 31) : am_cs a (nI j) x (z, sh, hi, hr) = some (z, sh, am_up hi a j x.toUInt32.toUInt16.toUInt32.toInt32, hr) := by
  simp only [am_cs, h]
  rw [if_neg (fl_nin hj hn), nI_clamp (by omega)]
  rfl
theorem fl_ag {K : String} (h : sh a = some (.inr (.object K, n))) (hj : j < n) (hn : n < 2 ^ 31) (hb : hr a j = some b) : am_ag a (nI j) (z, sh, hi, hr) = some b := by
  simp only [am_ag, h]
  rw [if_neg (fl_nin hj hn), nI_clamp (by omega), hb]
theorem fl_lg (h : sh a = some (.inr (.long, n))) (hj : j < n) (hn : n < 2 ^ 31) : am_lg a (nI j) (z, sh, hi, hr) = some (hi a j) := by
  simp only [am_lg, h]
  rw [if_neg (fl_nin hj hn), nI_clamp (by omega)]
theorem fl_lp (h : sh a = some (.inr (.long, n))) (hj : j < n) (hn : n < 2 ^ 31) : am_lp a (nI j) x (z, sh, hi, hr) = some (z, sh, am_up hi a j x, hr) := by
  simp only [am_lp, h]
  rw [if_neg (fl_nin hj hn), nI_clamp (by omega)]
  rfl
end FL
end
section
theorem df_Rm : ∀ k, k < 10 → defaultValue (t_Rm k) = am_v (t_Rm k) 0 none := fun k hk => match k, hk with
  | 0, _ => rfl
  | 1, _ => rfl
  | 2, _ => rfl
  | 3, _ => rfl
  | 4, _ => rfl
  | 5, _ => rfl
  | 6, _ => rfl
  | 7, _ => rfl
  | 8, _ => rfl
  | 9, _ => rfl
  | k + 10, h => absurd h (by omega)
theorem df_Line : ∀ k, k < 2 → defaultValue (t_Line k) = am_v (t_Line k) 0 none := fun k hk => match k, hk with
  | 0, _ => rfl
  | 1, _ => rfl
  | k + 2, h => absurd h (by omega)
theorem df_PlanReader : ∀ k, k < 2 → defaultValue (t_PlanReader k) = am_v (t_PlanReader k) 0 none := fun k hk => match k, hk with
  | 0, _ => rfl
  | 1, _ => rfl
  | k + 2, h => absurd h (by omega)
theorem df_Supply : ∀ k, k < 7 → defaultValue (t_Supply k) = am_v (t_Supply k) 0 none := fun k hk => match k, hk with
  | 0, _ => rfl
  | 1, _ => rfl
  | 2, _ => rfl
  | 3, _ => rfl
  | 4, _ => rfl
  | 5, _ => rfl
  | 6, _ => rfl
  | k + 7, h => absurd h (by omega)
theorem df_Envelope : ∀ k, k < 4 → defaultValue (t_Envelope k) = am_v (t_Envelope k) 0 none := fun k hk => match k, hk with
  | 0, _ => rfl
  | 1, _ => rfl
  | 2, _ => rfl
  | 3, _ => rfl
  | k + 4, h => absurd h (by omega)
theorem df_Plan : ∀ k, k < 2 → defaultValue (t_Plan k) = am_v (t_Plan k) 0 none := fun k hk => match k, hk with
  | 0, _ => rfl
  | 1, _ => rfl
  | k + 2, h => absurd h (by omega)
theorem df_Activity : ∀ k, k < 19 → defaultValue (t_Activity k) = am_v (t_Activity k) 0 none := fun k hk => match k, hk with
  | 0, _ => rfl
  | 1, _ => rfl
  | 2, _ => rfl
  | 3, _ => rfl
  | 4, _ => rfl
  | 5, _ => rfl
  | 6, _ => rfl
  | 7, _ => rfl
  | 8, _ => rfl
  | 9, _ => rfl
  | 10, _ => rfl
  | 11, _ => rfl
  | 12, _ => rfl
  | 13, _ => rfl
  | 14, _ => rfl
  | 15, _ => rfl
  | 16, _ => rfl
  | 17, _ => rfl
  | 18, _ => rfl
  | k + 19, h => absurd h (by omega)
theorem df_Mo : ∀ k, k < 31 → defaultValue (t_Mo k) = am_v (t_Mo k) 0 none := fun k hk => match k, hk with
  | 0, _ => rfl
  | 1, _ => rfl
  | 2, _ => rfl
  | 3, _ => rfl
  | 4, _ => rfl
  | 5, _ => rfl
  | 6, _ => rfl
  | 7, _ => rfl
  | 8, _ => rfl
  | 9, _ => rfl
  | 10, _ => rfl
  | 11, _ => rfl
  | 12, _ => rfl
  | 13, _ => rfl
  | 14, _ => rfl
  | 15, _ => rfl
  | 16, _ => rfl
  | 17, _ => rfl
  | 18, _ => rfl
  | 19, _ => rfl
  | 20, _ => rfl
  | 21, _ => rfl
  | 22, _ => rfl
  | 23, _ => rfl
  | 24, _ => rfl
  | 25, _ => rfl
  | 26, _ => rfl
  | 27, _ => rfl
  | 28, _ => rfl
  | 29, _ => rfl
  | 30, _ => rfl
  | k + 31, h => absurd h (by omega)
end
section
/-! the words of a throw -/
def am_OAb (own : String) (ic k : Nat) : Bool := (Bundle.ownAtoms0 own ic (am_X k) am_names).all (fun a => (decide (a ∈ lw_tbl) && a.tabsOnly) || decide (a ∈ am_Yw))
theorem am_OA_of {own : String} {ic k : Nat} (h : am_OAb own ic k = true) : am_OA own ic k := by
  intro a ha
  have h1 := List.all_eq_true.mp h a ha
  simp only [Bool.or_eq_true, Bool.and_eq_true, decide_eq_true_eq] at h1
  rcases h1 with ⟨h1, h2⟩ | h1
  · exact Or.inl (List.mem_filter.mpr ⟨h1, h2⟩)
  · exact Or.inr h1
theorem oa_Rm_1 : am_OA "RoverMinutes" 63 1 := am_OA_of (by decide +kernel)
theorem oa_Rm_2 : am_OA "RoverMinutes" 73 2 := am_OA_of (by decide +kernel)
theorem oa_Rm_3 : am_OA "RoverMinutes" 129 3 := am_OA_of (by decide +kernel)
end
section
section AMS
variable {p : Program} {l : Launch} {e : Env} {R : Room} {s : State} {m : MethodId} {args : Array Value} {below : List Frame} {meth : Method} {c : Code} {cells slots : Nat} {Q : State → Prop}
variable {cc : ByteArray} {own : String} {Ts : List Cond} {nL : Nat} {D : va_G} {cl : List vw_C} {ty : Nat → Nat → FieldType} {A F : Nat → Prop}
variable {pc : Nat} {lo : List (Option Value)} {st : List Value} {w : am_w}
/-! the text constant -/
theorem am_zone {H0 H : Heap} {locs : List Loc} (hFA : ∀ q, F q → A q) (h : va_S F H0 H locs) : va_S A H0 H locs := ⟨h.1, fun q h1 h2 => h.2.1 q h1 (fun z => h2 (hFA q z)), fun q hq => hFA _ (h.2.2 q hq)⟩
theorem am_ldcK (C : am_C p m c cc nL s args Ts own D cl A) (how : own = "RoverMinutes$PlanReader") (hdg : decode cc pc = .ok (.ldc 64, 2)) (k : am_V p l e R s m args below meth c D cl ty A F nL cells slots Q (pc + 2) lo (.ref (D.1 1000) :: st) w) : am_V p l e R s m args below meth c D cl ty A F nL cells slots Q pc lo st w := fun H locs ls hR hS hL =>
  va_ldcS C.1.1 C.1.2.1 C.1.2.2.2.1 (by rw [how]; exact C.2.2.2.2.2.2.1) hdg (k H locs ls hR hS hL)
theorem am_getKv (C : am_C p m c cc nL s args Ts own D cl A) (hFA : ∀ q, F q → A q) {index : Nat} (hlink : Cond.fieldLink own index "java/lang/String" "value" "[B" ∈ Ts) (hdg : decode cc pc = .ok (.getfield index, 3)) (k : am_V p l e R s m args below meth c D cl ty A F nL cells slots Q (pc + 3) lo (.ref (D.1 1001) :: st) w) : am_V p l e R s m args below meth c D cl ty A F nL cells slots Q pc lo (.ref (D.1 1000) :: st) w := fun H locs ls hR hS hL =>
  vk_getf C.1.1 C.1.2.1 (C.2.2.2.2.2.2.2.1.1 0 (by decide)).2.2.1 (am_zone hFA hS) C.1.2.2.2.1 (C.1.2.2.2.2 _ hlink) (fun _ h => h) hdg (k H locs ls hR hS hL)
theorem am_getKc (C : am_C p m c cc nL s args Ts own D cl A) (hFA : ∀ q, F q → A q) {index : Nat} (hlink : Cond.fieldLink own index "java/lang/String" "coder" "B" ∈ Ts) (hdg : decode cc pc = .ok (.getfield index, 3)) (k : am_V p l e R s m args below meth c D cl ty A F nL cells slots Q (pc + 3) lo (.int 0 :: st) w) : am_V p l e R s m args below meth c D cl ty A F nL cells slots Q pc lo (.ref (D.1 1000) :: st) w := fun H locs ls hR hS hL =>
  vk_getf C.1.1 C.1.2.1 (C.2.2.2.2.2.2.2.1.1 0 (by decide)).2.1 (am_zone hFA hS) C.1.2.2.2.1 (C.1.2.2.2.2 _ hlink) (fun _ h => h) hdg (k H locs ls hR hS hL)
theorem am_getsK (C : am_C p m c cc nL s args Ts own D cl A) (hFA : ∀ q, F q → A q) {index : Nat} (hlink : Cond.fieldLink own index "java/lang/String" "COMPACT_STRINGS" "Z" ∈ Ts) (hdg : decode cc pc = .ok (.getstatic index, 3)) (k : am_V p l e R s m args below meth c D cl ty A F nL cells slots Q (pc + 3) lo (.int 1 :: st) w) : am_V p l e R s m args below meth c D cl ty A F nL cells slots Q pc lo st w := fun H locs ls hR hS hL =>
  va_gets C.1.1 C.1.2.1 C.2.2.2.2.2.2.2.2 (am_zone hFA hS) C.1.2.2.2.1 (C.1.2.2.2.2 _ hlink) (fun _ h => h) hdg (k H locs ls hR hS hL)
theorem am_alenK (C : am_C p m c cc nL s args Ts own D cl A) (hFA : ∀ q, F q → A q) (hdg : decode cc pc = .ok (.arraylength, 1)) (k : am_V p l e R s m args below meth c D cl ty A F nL cells slots Q (pc + 1) lo (.int 5 :: st) w) : am_V p l e R s m args below meth c D cl ty A F nL cells slots Q pc lo (.ref (D.1 1001) :: st) w := fun H locs ls hR hS hL =>
  va_tlen C.1.1 C.1.2.1 (C.2.2.2.2.2.2.2.1.1 0 (by decide)).2.2.2 (am_zone hFA hS) (v := 5) (by decide) hdg (k H locs ls hR hS hL)
def am_bg (i : Int32) : Option Int32 := if i < 0 ∨ 5 ≤ i.toNatClampNeg then none else some (am_by.getD i.toNatClampNeg 0)
theorem am_baldK (C : am_C p m c cc nL s args Ts own D cl A) (hFA : ∀ q, F q → A q) {i : Int32} (hdg : decode cc pc = .ok (.baload, 1)) {β : Type} {K9 : Int32 → Option β} {r : β} (hX : (am_bg i).bind K9 = some r) (k : ∀ x, K9 x = some r → am_V p l e R s m args below meth c D cl ty A F nL cells slots Q (pc + 1) lo (.int x :: st) w) : am_V p l e R s m args below meth c D cl ty A F nL cells slots Q pc lo (.int i :: .ref (D.1 1001) :: st) w := by
  obtain ⟨x, h1, h2⟩ := am_bind hX
  unfold am_bg at h1
  split at h1
  · cases h1
  · rename_i hin
    cases h1
    exact fun H locs ls hR hS hL => va_tb C.1.1 C.1.2.1 (C.2.2.2.2.2.2.2.1.1 0 (by decide)).2.2.2 (am_zone hFA hS) hin rfl hdg (k _ h2 H locs ls hR hS hL)
theorem am_callK (C : am_C p m c cc nL s args Ts own D cl A) (hFA : ∀ q, F q → A q) {G : Nat → Prop} (hG9 : ∀ q, G q → F q) {y : MethodName} {rm : Room} {As : List Value} {mc ms index n maxL : Nat} {bytes : ByteArray} {rt : FieldType} {f : Option (Int32 × am_w)} {β : Type} {K9 : Int32 × am_w → Option β} {r : β}
    (hM : ∀ q, f = some q → am_Met l D cl ty A G y (Cond.code y bytes maxL (some rt) :: Ts) rm (.ref (D.1 1000) :: As) w (am_ri q) mc ms) (m1 : Cond.methodLink own index y ∈ Ts) (i1 : Cond.instanceMethod y ∈ Ts) (s1 : Cond.selects "java/lang/String" y y ∈ Ts) (n1 : Cond.initialized "java/lang/String" ∈ Ts) (c1 : Cond.code y bytes maxL (some rt) ∈ Ts) (hrc : rm.cells = mc) (hrs : rm.slots = ms)
    (hd : y.cls = "java/lang/String" ∧ y.cls ≠ "java/lang/invoke/MethodHandle" ∧ y.cls ≠ "java/lang/invoke/VarHandle" ∧ (parseMethodDescriptor y.desc).map (fun d => d.parameters.length) = some n) (hRm : rm.frames + 1 ≤ R.frames ∧ 8 + (maxL + 11) + rm.locals ≤ R.locals)
    (hn : As.length = n) (hcat : (st.map fun v => v.category).sum ≤ 8) (hdg : decode cc pc = .ok (.invokevirtual index, 3)) (hf : cells + mc ≤ R.cells ∧ slots + ms ≤ R.slots) {cells1 slots1 : Nat} (hc1 : cells + mc = cells1) (hs1 : slots + ms = slots1) {st0 : List Value} (hst : st0 = As.reverse ++ .ref (D.1 1000) :: st) (hX : f.bind K9 = some r) (kk : ∀ q : Int32 × am_w, K9 q = some r → am_V p l e R s m args below meth c D cl ty A F nL cells1 slots1 Q (pc + 3) lo (.int q.1 :: st) q.2) : am_V p l e R s m args below meth c D cl ty A F nL cells slots Q pc lo st0 w := by
  obtain ⟨q, hX1, hX2⟩ := am_bind hX
  subst hst
  subst hc1
  subst hs1
  intro H locs ls hR hS hL
  have hrecv := vk_recv (i := 0) C.2.2.2.2.2.2.2.1 (by decide) (am_zone hFA hS)
  exact am_goon (va_runV (As := As) (rest := st) C.1 (hM q hX1) (cwV n C.1.2.2.2.2 (am_goodV C.2.2.2.1 m1 i1 s1 n1 c1) rfl hrc hrs hd hRm) ⟨am_blind, hrecv, fun U hU hW => am_start C hFA hR hS hU hW⟩ rfl hn hL.1.1 rfl (lv_room hcat) hdg hf) hG9 hS hL (fun v w1 h => by obtain ⟨h1, h2⟩ := h; subst h1; subst h2; exact kk q hX2)
end AMS
end
section
abbrev b_Str_coder : ByteArray := prog_17_method_152_code
abbrev y_Str_coder : MethodName := ⟨"java/lang/String", "coder", "()B"⟩
theorem d_Str_coder_0 : decode b_Str_coder 0 = .ok (.getstatic 38, 3) := by decide +kernel
theorem d_Str_coder_3 : decode b_Str_coder 3 = .ok (.ifCond .eq 10, 3) := by decide +kernel
theorem d_Str_coder_6 : decode b_Str_coder 6 = .ok (.aload_n 0, 1) := by decide +kernel
theorem d_Str_coder_7 : decode b_Str_coder 7 = .ok (.getfield 15, 3) := by decide +kernel
theorem d_Str_coder_10 : decode b_Str_coder 10 = .ok (.goto 4, 3) := by decide +kernel
theorem d_Str_coder_13 : decode b_Str_coder 13 = .ok (.iconst 1, 1) := by decide +kernel
theorem d_Str_coder_14 : decode b_Str_coder 14 = .ok (.ireturn, 1) := by decide +kernel
abbrev b_Str_isLatin1 : ByteArray := prog_17_method_154_code
abbrev y_Str_isLatin1 : MethodName := ⟨"java/lang/String", "isLatin1", "()Z"⟩
theorem d_Str_isLatin1_0 : decode b_Str_isLatin1 0 = .ok (.getstatic 38, 3) := by decide +kernel
theorem d_Str_isLatin1_3 : decode b_Str_isLatin1 3 = .ok (.ifCond .eq 14, 3) := by decide +kernel
theorem d_Str_isLatin1_6 : decode b_Str_isLatin1 6 = .ok (.aload_n 0, 1) := by decide +kernel
theorem d_Str_isLatin1_7 : decode b_Str_isLatin1 7 = .ok (.getfield 15, 3) := by decide +kernel
theorem d_Str_isLatin1_10 : decode b_Str_isLatin1 10 = .ok (.ifCond .ne 7, 3) := by decide +kernel
theorem d_Str_isLatin1_13 : decode b_Str_isLatin1 13 = .ok (.iconst 1, 1) := by decide +kernel
theorem d_Str_isLatin1_14 : decode b_Str_isLatin1 14 = .ok (.goto 4, 3) := by decide +kernel
theorem d_Str_isLatin1_17 : decode b_Str_isLatin1 17 = .ok (.iconst 0, 1) := by decide +kernel
theorem d_Str_isLatin1_18 : decode b_Str_isLatin1 18 = .ok (.ireturn, 1) := by decide +kernel
abbrev b_Str_length : ByteArray := prog_17_method_54_code
abbrev y_Str_length : MethodName := ⟨"java/lang/String", "length", "()I"⟩
theorem d_Str_length_0 : decode b_Str_length 0 = .ok (.aload_n 0, 1) := by decide +kernel
theorem d_Str_length_1 : decode b_Str_length 1 = .ok (.getfield 9, 3) := by decide +kernel
theorem d_Str_length_4 : decode b_Str_length 4 = .ok (.arraylength, 1) := by decide +kernel
theorem d_Str_length_5 : decode b_Str_length 5 = .ok (.aload_n 0, 1) := by decide +kernel
theorem d_Str_length_6 : decode b_Str_length 6 = .ok (.invokevirtual 335, 3) := by decide +kernel
theorem d_Str_length_9 : decode b_Str_length 9 = .ok (.ishr, 1) := by decide +kernel
theorem d_Str_length_10 : decode b_Str_length 10 = .ok (.ireturn, 1) := by decide +kernel
abbrev b_Lat_canEncode : ByteArray := prog_18_method_4_code
abbrev y_Lat_canEncode : MethodName := ⟨"java/lang/StringLatin1", "canEncode", "(I)Z"⟩
theorem d_Lat_canEncode_0 : decode b_Lat_canEncode 0 = .ok (.iload_n 0, 1) := by decide +kernel
theorem d_Lat_canEncode_1 : decode b_Lat_canEncode 1 = .ok (.ifCond .lt 14, 3) := by decide +kernel
theorem d_Lat_canEncode_4 : decode b_Lat_canEncode 4 = .ok (.iload_n 0, 1) := by decide +kernel
theorem d_Lat_canEncode_5 : decode b_Lat_canEncode 5 = .ok (.sipush 255, 3) := by decide +kernel
theorem d_Lat_canEncode_8 : decode b_Lat_canEncode 8 = .ok (.if_icmp .gt 7, 3) := by decide +kernel
theorem d_Lat_canEncode_11 : decode b_Lat_canEncode 11 = .ok (.iconst 1, 1) := by decide +kernel
theorem d_Lat_canEncode_12 : decode b_Lat_canEncode 12 = .ok (.goto 4, 3) := by decide +kernel
theorem d_Lat_canEncode_15 : decode b_Lat_canEncode 15 = .ok (.iconst 0, 1) := by decide +kernel
theorem d_Lat_canEncode_16 : decode b_Lat_canEncode 16 = .ok (.ireturn, 1) := by decide +kernel
abbrev b_Lat_indexOfChar : ByteArray := prog_18_method_23_code
abbrev y_Lat_indexOfChar : MethodName := ⟨"java/lang/StringLatin1", "indexOfChar", "([BIII)I"⟩
theorem d_Lat_indexOfChar_0 : decode b_Lat_indexOfChar 0 = .ok (.iload_n 1, 1) := by decide +kernel
theorem d_Lat_indexOfChar_1 : decode b_Lat_indexOfChar 1 = .ok (.i2b, 1) := by decide +kernel
theorem d_Lat_indexOfChar_2 : decode b_Lat_indexOfChar 2 = .ok (.istore 4, 2) := by decide +kernel
theorem d_Lat_indexOfChar_4 : decode b_Lat_indexOfChar 4 = .ok (.iload_n 2, 1) := by decide +kernel
theorem d_Lat_indexOfChar_5 : decode b_Lat_indexOfChar 5 = .ok (.istore 5, 2) := by decide +kernel
theorem d_Lat_indexOfChar_7 : decode b_Lat_indexOfChar 7 = .ok (.iload 5, 2) := by decide +kernel
theorem d_Lat_indexOfChar_9 : decode b_Lat_indexOfChar 9 = .ok (.iload_n 3, 1) := by decide +kernel
theorem d_Lat_indexOfChar_10 : decode b_Lat_indexOfChar 10 = .ok (.if_icmp .ge 21, 3) := by decide +kernel
theorem d_Lat_indexOfChar_13 : decode b_Lat_indexOfChar 13 = .ok (.aload_n 0, 1) := by decide +kernel
theorem d_Lat_indexOfChar_14 : decode b_Lat_indexOfChar 14 = .ok (.iload 5, 2) := by decide +kernel
theorem d_Lat_indexOfChar_16 : decode b_Lat_indexOfChar 16 = .ok (.baload, 1) := by decide +kernel
theorem d_Lat_indexOfChar_17 : decode b_Lat_indexOfChar 17 = .ok (.iload 4, 2) := by decide +kernel
theorem d_Lat_indexOfChar_19 : decode b_Lat_indexOfChar 19 = .ok (.if_icmp .ne 6, 3) := by decide +kernel
theorem d_Lat_indexOfChar_22 : decode b_Lat_indexOfChar 22 = .ok (.iload 5, 2) := by decide +kernel
theorem d_Lat_indexOfChar_24 : decode b_Lat_indexOfChar 24 = .ok (.ireturn, 1) := by decide +kernel
theorem d_Lat_indexOfChar_25 : decode b_Lat_indexOfChar 25 = .ok (.iinc 5 1, 3) := by decide +kernel
theorem d_Lat_indexOfChar_28 : decode b_Lat_indexOfChar 28 = .ok (.goto (-21), 3) := by decide +kernel
theorem d_Lat_indexOfChar_31 : decode b_Lat_indexOfChar 31 = .ok (.iconst (-1), 1) := by decide +kernel
theorem d_Lat_indexOfChar_32 : decode b_Lat_indexOfChar 32 = .ok (.ireturn, 1) := by decide +kernel
abbrev b_Lat_indexOf : ByteArray := prog_18_method_22_code
abbrev y_Lat_indexOf : MethodName := ⟨"java/lang/StringLatin1", "indexOf", "([BIII)I"⟩
theorem d_Lat_indexOf_0 : decode b_Lat_indexOf 0 = .ok (.iload_n 1, 1) := by decide +kernel
theorem d_Lat_indexOf_1 : decode b_Lat_indexOf 1 = .ok (.invokestatic 88, 3) := by decide +kernel
theorem d_Lat_indexOf_4 : decode b_Lat_indexOf 4 = .ok (.ifCond .ne 5, 3) := by decide +kernel
theorem d_Lat_indexOf_7 : decode b_Lat_indexOf 7 = .ok (.iconst (-1), 1) := by decide +kernel
theorem d_Lat_indexOf_8 : decode b_Lat_indexOf 8 = .ok (.ireturn, 1) := by decide +kernel
theorem d_Lat_indexOf_9 : decode b_Lat_indexOf 9 = .ok (.iload_n 2, 1) := by decide +kernel
theorem d_Lat_indexOf_10 : decode b_Lat_indexOf 10 = .ok (.iconst 0, 1) := by decide +kernel
theorem d_Lat_indexOf_11 : decode b_Lat_indexOf 11 = .ok (.invokestatic 92, 3) := by decide +kernel
theorem d_Lat_indexOf_14 : decode b_Lat_indexOf 14 = .ok (.istore_n 2, 1) := by decide +kernel
theorem d_Lat_indexOf_15 : decode b_Lat_indexOf 15 = .ok (.iload_n 3, 1) := by decide +kernel
theorem d_Lat_indexOf_16 : decode b_Lat_indexOf 16 = .ok (.aload_n 0, 1) := by decide +kernel
theorem d_Lat_indexOf_17 : decode b_Lat_indexOf 17 = .ok (.arraylength, 1) := by decide +kernel
theorem d_Lat_indexOf_18 : decode b_Lat_indexOf 18 = .ok (.invokestatic 38, 3) := by decide +kernel
theorem d_Lat_indexOf_21 : decode b_Lat_indexOf 21 = .ok (.istore_n 3, 1) := by decide +kernel
theorem d_Lat_indexOf_22 : decode b_Lat_indexOf 22 = .ok (.iload_n 2, 1) := by decide +kernel
theorem d_Lat_indexOf_23 : decode b_Lat_indexOf 23 = .ok (.iload_n 3, 1) := by decide +kernel
theorem d_Lat_indexOf_24 : decode b_Lat_indexOf 24 = .ok (.if_icmp .lt 5, 3) := by decide +kernel
theorem d_Lat_indexOf_27 : decode b_Lat_indexOf 27 = .ok (.iconst (-1), 1) := by decide +kernel
theorem d_Lat_indexOf_28 : decode b_Lat_indexOf 28 = .ok (.ireturn, 1) := by decide +kernel
theorem d_Lat_indexOf_29 : decode b_Lat_indexOf 29 = .ok (.aload_n 0, 1) := by decide +kernel
theorem d_Lat_indexOf_30 : decode b_Lat_indexOf 30 = .ok (.iload_n 1, 1) := by decide +kernel
theorem d_Lat_indexOf_31 : decode b_Lat_indexOf 31 = .ok (.iload_n 2, 1) := by decide +kernel
theorem d_Lat_indexOf_32 : decode b_Lat_indexOf 32 = .ok (.iload_n 3, 1) := by decide +kernel
theorem d_Lat_indexOf_33 : decode b_Lat_indexOf 33 = .ok (.invokestatic 95, 3) := by decide +kernel
theorem d_Lat_indexOf_36 : decode b_Lat_indexOf 36 = .ok (.ireturn, 1) := by decide +kernel
abbrev b_Str_indexOf2 : ByteArray := prog_17_method_80_code
abbrev y_Str_indexOf2 : MethodName := ⟨"java/lang/String", "indexOf", "(II)I"⟩
theorem d_Str_indexOf2_0 : decode b_Str_indexOf2 0 = .ok (.aload_n 0, 1) := by decide +kernel
theorem d_Str_indexOf2_1 : decode b_Str_indexOf2 1 = .ok (.invokevirtual 492, 3) := by decide +kernel
theorem d_Str_indexOf2_4 : decode b_Str_indexOf2 4 = .ok (.ifCond .eq 19, 3) := by decide +kernel
theorem d_Str_indexOf2_7 : decode b_Str_indexOf2 7 = .ok (.aload_n 0, 1) := by decide +kernel
theorem d_Str_indexOf2_8 : decode b_Str_indexOf2 8 = .ok (.getfield 9, 3) := by decide +kernel
theorem d_Str_indexOf2_11 : decode b_Str_indexOf2 11 = .ok (.iload_n 1, 1) := by decide +kernel
theorem d_Str_indexOf2_12 : decode b_Str_indexOf2 12 = .ok (.iload_n 2, 1) := by decide +kernel
theorem d_Str_indexOf2_13 : decode b_Str_indexOf2 13 = .ok (.aload_n 0, 1) := by decide +kernel
theorem d_Str_indexOf2_14 : decode b_Str_indexOf2 14 = .ok (.invokevirtual 505, 3) := by decide +kernel
theorem d_Str_indexOf2_17 : decode b_Str_indexOf2 17 = .ok (.invokestatic 637, 3) := by decide +kernel
theorem d_Str_indexOf2_20 : decode b_Str_indexOf2 20 = .ok (.goto 16, 3) := by decide +kernel
theorem d_Str_indexOf2_23 : decode b_Str_indexOf2 23 = .ok (.aload_n 0, 1) := by decide +kernel
theorem d_Str_indexOf2_24 : decode b_Str_indexOf2 24 = .ok (.getfield 9, 3) := by decide +kernel
theorem d_Str_indexOf2_27 : decode b_Str_indexOf2 27 = .ok (.iload_n 1, 1) := by decide +kernel
theorem d_Str_indexOf2_28 : decode b_Str_indexOf2 28 = .ok (.iload_n 2, 1) := by decide +kernel
theorem d_Str_indexOf2_29 : decode b_Str_indexOf2 29 = .ok (.aload_n 0, 1) := by decide +kernel
theorem d_Str_indexOf2_30 : decode b_Str_indexOf2 30 = .ok (.invokevirtual 505, 3) := by decide +kernel
theorem d_Str_indexOf2_33 : decode b_Str_indexOf2 33 = .ok (.invokestatic 640, 3) := by decide +kernel
theorem d_Str_indexOf2_36 : decode b_Str_indexOf2 36 = .ok (.ireturn, 1) := by decide +kernel
abbrev b_Str_indexOf : ByteArray := prog_17_method_79_code
abbrev y_Str_indexOf : MethodName := ⟨"java/lang/String", "indexOf", "(I)I"⟩
theorem d_Str_indexOf_0 : decode b_Str_indexOf 0 = .ok (.aload_n 0, 1) := by decide +kernel
theorem d_Str_indexOf_1 : decode b_Str_indexOf 1 = .ok (.iload_n 1, 1) := by decide +kernel
theorem d_Str_indexOf_2 : decode b_Str_indexOf 2 = .ok (.iconst 0, 1) := by decide +kernel
theorem d_Str_indexOf_3 : decode b_Str_indexOf 3 = .ok (.invokevirtual 633, 3) := by decide +kernel
theorem d_Str_indexOf_6 : decode b_Str_indexOf 6 = .ok (.ireturn, 1) := by decide +kernel
end
section
/-! a throw that is caught: the rows of a table, one behind another -/
def am_sel (pl : Platform) (s₀ : State) (d : ClassId) (pc : Nat) (thrown : ClassId) (h : Nat) : List ExceptionTableEntry → Prop
  | [] => False
  | x :: t => (covers x pc = true ∧ x.catchType ≠ 0 ∧ ∃ c, s₀.vm.ClassLinks pl d x.catchType c ∧ ((s₀.vm.assignable thrown c = true ∧ h = x.handlerPc) ∨ (s₀.vm.assignable thrown c = false ∧ am_sel pl s₀ d pc thrown h t))) ∨ (covers x pc = false ∧ am_sel pl s₀ d pc thrown h t)
theorem am_go {e : Env} {x : ExceptionTableEntry} {t : List ExceptionTableEntry} {c : ClassId} {cell : Cell} {f : JFrame} {a : Addr} {Q : Handler → Pre} {E : CtlPost} {d : Bool} {acts : List Action} {S : State} (hx : covers x f.pc = true) (h0 : x.catchType ≠ 0) (hl : S.vm.ClassLinks e.platform f.method.cls x.catchType c) (hcell : S.heap[a]? = some cell) (hobj : ∀ k, cell.vm ≠ .statics k) (hk : ∃ k, S.vm.classes[cell.cls]? = some k) (hc : ∃ k, S.vm.classes[c]? = some k) :
    wp (findHandler.go f a (x :: t)) Q E e d acts S ↔ if S.vm.assignable cell.cls c = true then Q (.found x.handlerPc) d acts (S.setVm (S.vm.noted f.method.cls x.catchType (.cls c))) else wp (findHandler.go f a t) Q E e d acts (S.setVm (S.vm.noted f.method.cls x.catchType (.cls c))) := by
  simp only [covers] at hx
  obtain ⟨ha, ht⟩ := (resolveClass_links e.toSetting hl).op (op := VmOp.resolveClass f.method.cls x.catchType) rfl
  have hal : S.vm.Alike (S.vm.noted f.method.cls x.catchType (.cls c)) := (Vm.Alike.refl S.vm).noted _ _ _
  obtain ⟨k1, hk1⟩ := hk
  obtain ⟨k2, hk2⟩ := hc
  obtain ⟨k1', hk1', -⟩ := hal.2.2 _ _ hk1
  obtain ⟨k2', hk2', -⟩ := hal.2.2 _ _ hk2
  have hsame : (S.vm.noted f.method.cls x.catchType (.cls c)).assignable cell.cls c = S.vm.assignable cell.cls c := by rw [hal.assignable]
  cases hfit : S.vm.assignable cell.cls c
  · rw [hfit] at hsame
    simp [findHandler.go, hx, h0, ha, ht, hcell, hobj, hk1', hk2', hsame, VmOp.dirties, VmOp.acts]
  · rw [hfit] at hsame
    simp [findHandler.go, hx, h0, ha, ht, hcell, hobj, hk1', hk2', hsame, VmOp.dirties, VmOp.acts]
theorem am_finds {e : Env} {s₀ : State} {f : JFrame} {a : Addr} {cell : Cell} {h : Nat} (hobj : ∀ k, cell.vm ≠ .statics k) (hk0 : ∃ k, s₀.vm.classes[cell.cls]? = some k) :
    ∀ (rows : List ExceptionTableEntry) (S : State), s₀.WarmedH S.vm → S.heap[a]? = some cell → am_sel e.platform s₀ f.method.cls f.pc cell.cls h rows →
      ∃ vm', s₀.WarmedH vm' ∧ ∀ (Q : Handler → Pre) (E : CtlPost) (d : Bool) (acts : List Action), wp (findHandler.go f a rows) Q E e d acts S ↔ Q (.found h) d acts (S.setVm vm') := by
  intro rows
  induction rows with
  | nil => intro S _ _ hs; exact hs.elim
  | cons x t ih =>
    intro S hW hcell hs
    rcases hs with ⟨hx, h0, c, hl, hor⟩ | ⟨hx, hs⟩
    · obtain ⟨dk, _, _, kt, hd, _, _, _, _, hkt, _, hopen⟩ := hl.here
      obtain ⟨k0, hk0⟩ := hk0
      obtain ⟨k0', hk0', -⟩ := hW.alike.2.2 _ _ hk0
      obtain ⟨kt', hkt', -⟩ := hW.alike.2.2 _ _ hkt
      have hW1 := hW.noted hd hopen (State.rightAt_cls hl)
      have hsm : S.vm.assignable cell.cls c = s₀.vm.assignable cell.cls c := by rw [hW.alike.assignable]
      rcases hor with ⟨hfit, rfl⟩ | ⟨hno, hrest⟩
      · exact ⟨_, hW1, fun Q E d acts => by rw [am_go hx h0 (hW.classLinks hl) hcell hobj ⟨k0', hk0'⟩ ⟨kt', hkt'⟩, if_pos (by rw [hsm]; exact hfit)]⟩
      · obtain ⟨vm', hW', hq⟩ := ih (S.setVm (S.vm.noted f.method.cls x.catchType (.cls c))) hW1 hcell hrest
        exact ⟨vm', hW', fun Q E d acts => by
          rw [am_go hx h0 (hW.classLinks hl) hcell hobj ⟨k0', hk0'⟩ ⟨kt', hkt'⟩, if_neg (by rw [hsm, hno]; decide)]
          exact hq Q E d acts⟩
    · obtain ⟨vm', hW', hq⟩ := ih S hW hcell hs
      exact ⟨vm', hW', fun Q E d acts => (Jvm.W.findHandler_go_skip hx).trans (hq Q E d acts)⟩
section AMK
variable {p : Program} {l : Launch} {e : Env} {R : Room} {s : State} {m : MethodId} {args : Array Value} {below : List Frame} {meth : Method} {c : Code} {T : State} {locs : List Loc} {cells slots : Nat}
theorem am_caught (X : Stand p l e R s m args below meth c T locs cells slots) (a : Addr) {g : JFrame} (hg : g.method = m) {cell : Cell} (hcell : T.heap[a]? = some cell) (hobj : cell.vm.isStatics = false) (hk0 : ∃ k, s.vm.classes[cell.cls]? = some k) {h : Nat} (hsel : am_sel e.platform s m.cls g.pc cell.cls h c.exceptionTable.toList) :
    ∃ vm', Stand p l e R s m args below meth c (T.setVm vm') locs cells slots ∧ ∀ target, Steps p.tables e below ((T.setVm vm').setTop { g with pc := h, stack := [.ref a] }) target → Steps p.tables e below ((T.setTop g).pushFrame (.throwing a)) target := by
  subst hg
  obtain ⟨vm', hW', hq⟩ := am_finds (e := e) (f := g) (a := a) (VmData.ne_statics_of hobj) hk0 c.exceptionTable.toList ((T.setTop g).pushFrame (.throwing a)) X.warmed hcell hsel
  have hf : ∀ (Q : Handler → Pre) (E : CtlPost) (d : Bool) (acts : List Action), wp (findHandler g a) Q E e d acts ((T.setTop g).pushFrame (.throwing a)) ↔ Q (.found h) d acts (((T.setTop g).pushFrame (.throwing a)).setVm vm') :=
    fun Q E d acts => (Jvm.W.findHandler_eq (s := (T.setTop g).pushFrame (.throwing a)) (meth := meth) (code := c) X.method' X.code).trans (hq Q E d acts)
  refine ⟨vm', X.noted hW', fun target hrest => ?_⟩
  obtain ⟨hgo, hw⟩ := X.here.throwing a
  refine Steps.head hgo hw ?_
  have hstep : (stepThrowing e ((T.setTop g).pushFrame (.throwing a)) a (.java g :: T.frames.tail)).1 = (((T.setTop g).pushFrame (.throwing a)).setVm vm').setFrames (.java { g with pc := h, stack := [.ref a] } :: T.frames.tail) := by
    simp only [stepThrowing, searchFrame, vmDo]
    generalize hr : Sem.go _ e false [] _ = res
    obtain ⟨as, rfl, ha⟩ := Sem.eq_ok_of hr (a := Handler.found h) (s' := ((T.setTop g).pushFrame (.throwing a)).setVm vm') (acts' := []) (by simp [hf])
    rfl
  rw [stepThread_throwing (frames_entered X.here.top _), hstep]
  obtain ⟨g₀, hg⟩ := Option.isSome_iff_exists.mp X.here.top
  obtain ⟨r, hr⟩ := State.topJava?_eq_some.mp hg
  have hr' : (T.setVm vm').frames = .java g₀ :: r := hr
  rw [State.setTop_of_frames _ hr'] at hrest
  have e1 : (((T.setTop g).pushFrame (.throwing a)).setVm vm').setFrames (.java { g with pc := h, stack := [.ref a] } :: T.frames.tail) = (T.setVm vm').setFrames (.java { g with pc := h, stack := [.ref a] } :: T.frames.tail) := by
    rw [State.pushFrame, State.setTop_of_frames _ hr, State.setFrames_setFrames]
    have h1 : ∀ F : List Frame, (T.setFrames F).setVm vm' = (T.setVm vm').setFrames F := fun _ => rfl
    rw [h1, State.setFrames_setFrames]
  rw [e1, hr, List.tail_cons]
  exact hrest
end AMK
end
section
section AML
variable {p : Program} {l : Launch} {e : Env} {R : Room} {s : State} {m : MethodId} {args : Array Value} {below : List Frame} {meth : Method} {c : Code} {cells slots : Nat} {Q : State → Prop}
variable {cc : ByteArray} {own : String} {Ts : List Cond} {nL : Nat} {D : va_G} {cl : List vw_C} {ty : Nat → Nat → FieldType} {A F : Nat → Prop}
variable {pc : Nat} {lo : List (Option Value)} {st : List Value} {w : am_w}
/-- where it answers, a contract that answers or throws is a contract -/
theorem am_Mett.met {G : Nat → Prop} {y : MethodName} {ws : List Cond} {rm : Room} {av : List Value} {q : Option Value × Nat × am_w} {mc ms : Nat} (h : am_Mett l D cl ty A G y ws rm av w q mc ms) (h0 : q.2.1 = 0) : am_Met l D cl ty A G y ws rm av w (fun v w1 => v = q.1 ∧ w1 = q.2.2) mc ms := by
  intro p e ha hc hk s m args below hf happ hP hK
  obtain ⟨n, o, h1, h2, h3, ⟨⟨hcase, hrep⟩, hF⟩, L, hE, hL⟩ := h p e ha hc hk s m args below hf happ hP hK
  rcases hcase with ⟨-, ho⟩ | ⟨hn, -⟩
  · exact ⟨n, o, h1, h2, h3, ⟨⟨_, _, ho, ⟨rfl, rfl⟩, hrep⟩, hF⟩, L, ⟨⟨_, ho⟩, hE⟩, hL⟩
  · exact absurd h0 hn
/-- where it throws: out of the callee, with the note over the caller's frame -/
theorem am_throwsV {T : State} {locs : List Loc} (X : Stand p l e R s m args below meth c T locs cells slots) (hexec : p.tables.exec = Jvm.exec) {K : String} {index : Nat} {y : MethodName} {bytes : ByteArray} {maxL : Nat} {ret : Option FieldType} {ws : List Cond} {rm : Room} {G : Nat → Prop} {As : List Value} {b : Addr} {q : Option Value × Nat × am_w} {mc ms : Nat}
    (hM : am_Mett l D cl ty A G y ws rm (.ref b :: As) w q mc ms) (hq : ¬ q.2.1 = 0) (hrc : rm.cells = mc) (hrs : rm.slots = ms) (hfr : rm.frames + 1 ≤ R.frames) (hlo : 8 + (maxL + 11) + rm.locals ≤ R.locals) (hws : ∀ w ∈ ws, ∀ (a' : Array Value) (U : State), s.WarmedH U.vm → w.before a' U = true) (hcw : Cond.code y bytes maxL ret ∈ ws)
    (hown : s.vm.findClass own = some m.cls) (hlink : (Cond.methodLink own index y).before args s = true) (hinst : (Cond.instanceMethod y).before args s = true) (hsel : (Cond.selects K y y).before args s = true) (hcode : (Cond.code y bytes maxL ret).before args s = true) (hini : ∀ (a' : Array Value) (U : State), s.WarmedH U.vm → (Cond.initialized y.cls).before a' U = true) (hy : y.cls ≠ "java/lang/invoke/MethodHandle" ∧ y.cls ≠ "java/lang/invoke/VarHandle")
    {cellB : Cell} (hcell : T.heap[b]? = some cellB) (hobj : cellB.vm.isStatics = false) (hcls : s.vm.findClass K = some cellB.cls) {g : JFrame} (hg : g.method = m) (hsize : g.locals.size = c.maxLocals) {rest : List Value} (hlen : ∀ sig, parseMethodDescriptor y.desc = some sig → As.length = sig.parameters.length) (hstack : g.stack = As.reverse ++ .ref b :: rest)
    (hdg : decode c.code g.pc = .ok (.invokevirtual index, 3)) (hcells : cells + mc ≤ R.cells) (hslots : slots + ms ≤ R.slots) (hW8 : 2 * g.monitorRoom + (rest.map fun v => v.category).sum ≤ 8) (hPc : ∀ U : State, U.heap = T.heap → s.WarmedH U.vm → am_P D cl ty A (.ref b :: As) w (Value.ref b :: As).toArray U) :
    ∃ (a : Addr) (ce : Cell) (T' : State) (L : List Loc), Stand p l e R s m args below meth c T' (locs ++ L) (cells + mc) (slots + ms) ∧ (∀ x ∈ L, G x.base) ∧ T'.heap[a]? = some ce ∧ ce.vm.isStatics = false ∧ T'.vm.findClass (am_X q.2.1) = some ce.cls ∧ am_rep D cl ty A T' q.2.2 T'.heap ∧ T.heap.size ≤ T'.heap.size ∧ (∀ x, x < T.heap.size → ¬ G x → T'.heap[x]? = T.heap[x]?) ∧
      Steps p.tables e below (T.setTop g) ((T'.setTop { g with stack := rest }).pushFrame (.throwing a)) := by
  subst hg
  obtain ⟨mk, methM, hnamed, hmethM, hstM, habM⟩ := Cond.instanceMethod_spec hinst
  obtain ⟨methM', cM, hmethM', -, -, -, -, -, -, hsigM⟩ := Cond.code_spec hnamed hcode
  cases hmethM.symm.trans hmethM'
  obtain ⟨c2, r2, m2, q1, q2, q3, q4, kP, hkP, hkPi⟩ := Cond.selects_spec hsel
  cases hcls.symm.trans q1
  cases (State.methodFound?_of_named hnamed hy).symm.trans q2
  cases hnamed.symm.trans q3
  have hselP : selectMethod e.platform s.vm cellB.cls mk = .method mk := by rw [Launch.admits_selectMethod X.admits]; exact q4
  obtain ⟨vm₁, X₁, hstep₁⟩ := X.invokevirtual hexec hown hlink hnamed hmethM hstM hkP hkPi hy (a := b) (cell := cellB) hcell (fun z h => by rw [h] at hobj; cases hobj) hselP hmethM habM hkP hkPi (g := g) rfl (argsL := As) (rest := rest) (hlen _ hsigM) hstack hdg
  have hn₁ : (T.setVm vm₁).methodNamed? y = some mk := X₁.named hnamed
  obtain ⟨methY, cY, hmY, hcY, -, hlY, -, -, -, -⟩ := Cond.code_spec hn₁ (hws _ hcw #[] (T.setVm vm₁) X₁.warmed)
  obtain ⟨kY, hkY, -⟩ := className_of_methodNamed hn₁
  have hinitY : kY.init = .initialized := Cond.initialized_spec (findClass_of_methodNamed hn₁) hkY (hini #[] (T.setVm vm₁) X₁.warmed)
  have hat : At (T.setVm vm₁) ({ g with stack := rest } : JFrame).method c below := X₁.here
  have happ : (headSpec ws rm).appliesLoose y e.platform ((T.setVm vm₁).calling { g with stack := rest } mk (Value.ref b :: As).toArray) = true :=
    Spec.appliesLoose_calling (g := { g with stack := rest }) hat hdg hn₁ hkY hinitY
      (X₁.room_calling (g := { g with stack := rest }) (R' := (headSpec ws rm).room) hsize hmY hcY hfr (by rw [hlY]; show _ + _ + rm.locals ≤ _; exact Nat.le_trans (Nat.add_le_add_right (Nat.add_le_add_right hW8 _) _) hlo) (by rw [show (headSpec ws rm).room.cells = mc from hrc]; exact hcells) (by rw [show (headSpec ws rm).room.slots = ms from hrs]; exact hslots)) (atoms_intro fun w hw => hws w hw _ _ X₁.warmed)
  obtain ⟨mid, hmid⟩ := hat.above
  have hfrm : ((T.setVm vm₁).setTop { g with stack := rest }).frames = (.java { g with stack := rest } :: mid) ++ below := by rw [State.frames_setTop' _ hat.top, hmid]; rfl
  obtain ⟨o, s₂, hsteps, -, hend, hq2⟩ := Steps.callFree hM p X₁.admits X₁.cas X₁.clock (acts := []) hfrm happ (am_blind _ _ { g with stack := rest } mk (hPc (T.setVm vm₁) rfl X₁.warmed)) trivial
  have hq3 : (am_Qt D cl ty A G q (Value.ref b :: As).toArray ((T.setVm vm₁).calling { g with stack := rest } mk (Value.ref b :: As).toArray) o s₂) ∧ ∃ L, am_E ((T.setVm vm₁).calling { g with stack := rest } mk (Value.ref b :: As).toArray) s₂ L mc ms ∧ ∀ x ∈ L, G x.base := hq2
  obtain ⟨⟨⟨hcase, hrep⟩, hz, hkp⟩, L, ⟨hW2, hsame2⟩, hL⟩ := hq3
  rcases hcase with ⟨h0, -⟩ | ⟨-, a, ce, rfl, hce, hst, hcl⟩
  · exact absurd h0 hq
  rw [State.frames_setTop' _ hat.top, X₁.tail] at hend
  obtain ⟨T', X', hWT, hsT, ht⟩ := Stand.outOfThrown X₁ (g := { g with stack := rest }) rfl hend hW2 hsame2
  have hfr9 : ∀ (U : State) (F : List Frame), (U.setFrames F).heap = U.heap := fun _ _ => rfl
  have hh : s₂.heap = T'.heap := by rw [ht]; rfl
  have hv : s₂.vm = T'.vm := by rw [ht]; rfl
  refine ⟨a, ce, T', L, X', hL, by rw [← hh]; exact hce, hst, by rw [← hv]; exact hcl, by rw [← hh]; exact hrep.moved (by rw [hv]; exact Vm.Alike.refl _), by rw [← hh]; exact hz, fun x h1 h2 => by rw [← hh]; exact hkp x h1 h2, ?_⟩
  refine hstep₁ _ fun acts => ?_
  rw [doInvoke_state, ← ht]
  exact hsteps
/-- the law's class: which exception a row of a table names -/
def am_ct (i : Nat) : Nat := if i = 13 then 1 else if i = 19 then 2 else if i = 35 then 3 else 0
def am_h : List (Nat × Nat × Nat × Nat) → Nat → Nat → Option Nat
  | [], _, _ => none
  | (a, b, h, t) :: r, pc, k => if a ≤ pc ∧ pc < b then (if am_ct t = 0 then none else if am_ct t = k then some h else am_h r pc k) else am_h r pc k
theorem am_sel_of {pl : Platform} (hpl : pl.magicAccessors = ({} : Platform).magicAccessors) (hown : s.vm.findClass own = some m.cls) (hlk : ∀ i, am_ct i ≠ 0 → (Cond.classLink own i (am_X (am_ct i))).before args s = true) (hNC : am_NC s) {k : Nat} (hk1 : 1 ≤ k) (hk3 : k ≤ 3) (hcast : (Cond.castable (am_X k) (am_X k)).before args s = true) {thrown : ClassId} (hth : s.vm.findClass (am_X k) = some thrown) {h : Nat} :
    ∀ (rows : List ExceptionTableEntry), am_h (rows.map (fun h => (h.startPc, h.endPc, h.handlerPc, h.catchType))) pc k = some h → am_sel pl s m.cls pc thrown h rows := by
  intro rows
  induction rows with
  | nil => intro hh; cases hh
  | cons x t ih =>
    intro hh
    simp only [List.map_cons, am_h] at hh
    by_cases hcv : x.startPc ≤ pc ∧ pc < x.endPc
    · rw [if_pos hcv] at hh
      by_cases h0 : am_ct x.catchType = 0
      · rw [if_pos h0] at hh
        cases hh
      rw [if_neg h0] at hh
      obtain ⟨c', hc', hcl⟩ := Cond.classLink_spec hown (hlk _ h0) pl hpl
      refine Or.inl ⟨by simp [covers, hcv.1, hcv.2], fun z => h0 (by rw [z]; rfl), c', hcl, ?_⟩
      by_cases he : am_ct x.catchType = k
      · rw [if_pos he] at hh
        cases hh
        obtain ⟨c1, c2, g1, g2, g3⟩ := Cond.castable_spec hcast
        rw [he] at hc'
        cases hth.symm.trans g1
        cases g1.symm.trans g2
        cases hc'.symm.trans g1
        exact Or.inl ⟨g3, rfl⟩
      · rw [if_neg he] at hh
        have hct : am_ct x.catchType ≤ 3 := by unfold am_ct; split <;> (try split) <;> (try split) <;> omega
        obtain ⟨c1, c2, g1, g2, g3⟩ := hNC k (am_ct x.catchType) hk1 hk3 (by omega) hct (fun z => he z.symm)
        cases hth.symm.trans g1
        cases hc'.symm.trans g2
        exact Or.inr ⟨g3, ih hh⟩
    · rw [if_neg hcv] at hh
      refine Or.inr ⟨?_, ih hh⟩
      simp only [covers]
      by_cases h1 : x.startPc ≤ pc
      · have h2 : ¬ pc < x.endPc := fun z => hcv ⟨h1, z⟩
        simp [h2]
      · simp [h1]
theorem am_callTi (C : am_C p m c cc nL s args Ts own D cl A) (hFA : ∀ q, F q → A q) {G : Nat → Prop} (hG9 : ∀ q, G q → F q) (how : own = "RoverMinutesLaw") {hh : List (Nat × Nat × Nat × Nat)} (htab : c.exceptionTable.toList.map (fun h => (h.startPc, h.endPc, h.handlerPc, h.catchType)) = hh) (hlk : ∀ i, am_ct i ≠ 0 → Cond.classLink "RoverMinutesLaw" i (am_X (am_ct i)) ∈ Ts) (hcs : ∀ k, 1 ≤ k → k ≤ 3 → Cond.castable (am_X k) (am_X k) ∈ am_Zw) {y : MethodName} {rm : Room} {As : List Value} {mc ms index n N ci b maxL : Nat} {K : String} {T : u_T} {bytes : ByteArray} {rt : FieldType} {f : Option (Int32 × Nat × am_w)} {β : Type} {K9 : Int32 × Nat × am_w → Option β} {r : β}
    (hM : ∀ q, f = some q → am_Mett l D cl ty A G y (Cond.code y bytes maxL (some rt) :: Ts) rm (.ref b :: As) w (am_ti q) mc ms) (m1 : Cond.methodLink own index y ∈ Ts) (i1 : Cond.instanceMethod y ∈ Ts) (s1 : Cond.selects K y y ∈ Ts) (n1 : Cond.initialized K ∈ Ts) (c1 : Cond.code y bytes maxL (some rt) ∈ Ts) (hrc : rm.cells = mc) (hrs : rm.slots = ms)
    (hd : y.cls = K ∧ y.cls ≠ "java/lang/invoke/MethodHandle" ∧ y.cls ≠ "java/lang/invoke/VarHandle" ∧ (parseMethodDescriptor y.desc).map (fun d => d.parameters.length) = some n) (hRm : rm.frames + 1 ≤ R.frames ∧ 8 + (maxL + 11) + rm.locals ≤ R.locals)
    (hc : cl[ci]? = some (K, T, N)) (hn : As.length = n) (hcat : (st.map fun v => v.category).sum ≤ 8) (hdg : decode cc pc = .ok (.invokevirtual index, 3)) (hf : cells + mc ≤ R.cells ∧ slots + ms ≤ R.slots) {cells1 slots1 : Nat} (hc1 : cells + mc = cells1) (hs1 : slots + ms = slots1) {st0 : List Value} (hst : st0 = As.reverse ++ .ref b :: st) (hX : (am_ob ci b w f).bind K9 = some r)
    (kr : ∀ q : Int32 × Nat × am_w, q.2.1 = 0 → K9 q = some r → am_V p l e R s m args below meth c D cl ty A F nL cells1 slots1 Q (pc + 3) lo (.int q.1 :: st) q.2.2)
    (kt : ∀ q : Int32 × Nat × am_w, ¬ q.2.1 = 0 → K9 q = some r → (1 ≤ q.2.1 ∧ q.2.1 ≤ 3) ∧ ∃ h, am_h hh pc q.2.1 = some h ∧ ∀ a : Nat, am_V p l e R s m args below meth c D cl ty A F nL cells1 slots1 Q h lo [.ref a] q.2.2) : am_V p l e R s m args below meth c D cl ty A F nL cells slots Q pc lo st0 w := by
  obtain ⟨q, hX0, hX2⟩ := am_bind hX
  obtain ⟨hsh, hX1⟩ := am_ob_of hX0
  subst hst
  subst hc1
  subst hs1
  subst how
  intro H locs ls hR hS hL
  have hrecv : ∃ cellB : Cell, H[b]? = some cellB ∧ cellB.vm.isStatics = false ∧ s.vm.findClass K = some cellB.cls := by
    obtain ⟨cell, q1, q2, q3, -⟩ := (hR.2 b _ hsh).2.obj hc
    exact ⟨cell, q1, by rw [q3]; rfl, by rw [q2]; exact (C.2.1.1 ci _ hc).2.1⟩
  have cw := cwV n C.1.2.2.2.2 (am_goodV C.2.2.2.1 m1 i1 s1 n1 c1) rfl hrc hrs hd hRm
  by_cases h0 : q.2.1 = 0
  · exact am_goon (va_runV (As := As) (rest := st) C.1 ((hM q hX1).met (by exact h0)) cw ⟨am_blind, hrecv, fun U hU hW => am_start C hFA hR hS hU hW⟩ rfl hn hL.1.1 rfl (lv_room hcat) hdg hf) hG9 hS hL (fun v w1 h => by obtain ⟨h1, h2⟩ := h; subst h1; subst h2; exact kr q h0 hX2)
  · obtain ⟨⟨hk1, hk3⟩, h, hhh, hk⟩ := kt q h0 hX2
    intro T0 hT0 X
    obtain ⟨⟨hrc', hrs', hfr', hlo', hws', hcw', hcode', hini', hy', hlen', hlink'⟩, hinst', hsel'⟩ := cw
    obtain ⟨cellB, hcB, hoB, hclB⟩ := hrecv
    obtain ⟨a, ce, T', L, X', hL', hce, hst9, hcl9, hrep, hz, hkp, hsteps⟩ := am_throwsV X C.1.1 (hM q hX1) (by exact h0) hrc' hrs' hfr' hlo' hws' hcw' C.1.2.2.2.1 hlink' hinst' hsel' hcode' (fun a' U hW => word_at hW (Or.inl (by first | rfl | simp [Cond.onTables, Cond.keeps, Cond.steady])) hini') hy' (by rw [hT0]; exact hcB) hoB hclB (g := F0 m pc ls (As.reverse ++ .ref b :: st)) rfl (hL.1.1.trans C.1.2.2.1.symm) (rest := st) (fun sig h => hn.trans (hlen' sig h)) rfl (by rw [C.1.2.1]; exact hdg) hf.1 hf.2 (lv_room hcat) (fun U hU hW => am_start C hFA hR hS (hU.trans hT0) hW)
    have hpl : e.platform.magicAccessors = ({} : Platform).magicAccessors := by rw [X.admits.platform]
    have hth : s.vm.findClass (am_X q.2.1) = some ce.cls := by
      rw [← hcl9]
      exact (X'.warmed.alike.findClass _ _).symm
    have hsl := am_sel_of (own := "RoverMinutesLaw") (args := args) (m := m) (pc := pc) hpl C.1.2.2.2.1 (fun i hi => C.1.2.2.2.2 _ (hlk i hi)) C.2.2.2.2.1.2.2.2 hk1 hk3 (C.2.2.2.2.1.word (hcs _ hk1 hk3)) hth (h := h) c.exceptionTable.toList (by rw [htab]; exact hhh)
    obtain ⟨vm', X9, go9⟩ := am_caught X' a (g := F0 m pc ls st) rfl hce hst9 (Vm.classAt_of_findClass hth) hsl
    rw [hT0] at hz hkp
    have hal : T'.vm.Alike s.vm := X'.warmed.alike.symm
    obtain ⟨t2, a1, b1⟩ := hk a (T'.setVm vm').heap (locs ++ L) ls (hrep.moved hal)
      ⟨Nat.le_trans hS.1 hz, fun x h1 h2 => (hkp x (Nat.lt_of_lt_of_le h1 hS.1) (fun z => h2 (hG9 x z))).trans (hS.2.1 x h1 h2), fun x hx => (List.mem_append.mp hx).elim (fun h => hS.2.2 x h) (fun h => hG9 _ (hL' x h))⟩ hL (T'.setVm vm') rfl X9
    exact ⟨t2, hsteps.trans (go9 t2 a1), b1⟩
theorem am_callTv (C : am_C p m c cc nL s args Ts own D cl A) (hFA : ∀ q, F q → A q) {G : Nat → Prop} (hG9 : ∀ q, G q → F q) (how : own = "RoverMinutesLaw") {hh : List (Nat × Nat × Nat × Nat)} (htab : c.exceptionTable.toList.map (fun h => (h.startPc, h.endPc, h.handlerPc, h.catchType)) = hh) (hlk : ∀ i, am_ct i ≠ 0 → Cond.classLink "RoverMinutesLaw" i (am_X (am_ct i)) ∈ Ts) (hcs : ∀ k, 1 ≤ k → k ≤ 3 → Cond.castable (am_X k) (am_X k) ∈ am_Zw) {y : MethodName} {rm : Room} {As : List Value} {mc ms index n N ci b maxL : Nat} {K : String} {T : u_T} {bytes : ByteArray} {f : Option (Int32 × Nat × am_w)} {β : Type} {K9 : Int32 × Nat × am_w → Option β} {r : β}
    (hM : ∀ q, f = some q → am_Mett l D cl ty A G y (Cond.code y bytes maxL none :: Ts) rm (.ref b :: As) w (am_tv q) mc ms) (m1 : Cond.methodLink own index y ∈ Ts) (i1 : Cond.instanceMethod y ∈ Ts) (s1 : Cond.selects K y y ∈ Ts) (n1 : Cond.initialized K ∈ Ts) (c1 : Cond.code y bytes maxL none ∈ Ts) (hrc : rm.cells = mc) (hrs : rm.slots = ms)
    (hd : y.cls = K ∧ y.cls ≠ "java/lang/invoke/MethodHandle" ∧ y.cls ≠ "java/lang/invoke/VarHandle" ∧ (parseMethodDescriptor y.desc).map (fun d => d.parameters.length) = some n) (hRm : rm.frames + 1 ≤ R.frames ∧ 8 + (maxL + 11) + rm.locals ≤ R.locals)
    (hc : cl[ci]? = some (K, T, N)) (hn : As.length = n) (hcat : (st.map fun v => v.category).sum ≤ 8) (hdg : decode cc pc = .ok (.invokevirtual index, 3)) (hf : cells + mc ≤ R.cells ∧ slots + ms ≤ R.slots) {cells1 slots1 : Nat} (hc1 : cells + mc = cells1) (hs1 : slots + ms = slots1) {st0 : List Value} (hst : st0 = As.reverse ++ .ref b :: st) (hX : (am_ob ci b w f).bind K9 = some r)
    (kr : ∀ q : Int32 × Nat × am_w, q.2.1 = 0 → K9 q = some r → am_V p l e R s m args below meth c D cl ty A F nL cells1 slots1 Q (pc + 3) lo st q.2.2)
    (kt : ∀ q : Int32 × Nat × am_w, ¬ q.2.1 = 0 → K9 q = some r → (1 ≤ q.2.1 ∧ q.2.1 ≤ 3) ∧ ∃ h, am_h hh pc q.2.1 = some h ∧ ∀ a : Nat, am_V p l e R s m args below meth c D cl ty A F nL cells1 slots1 Q h lo [.ref a] q.2.2) : am_V p l e R s m args below meth c D cl ty A F nL cells slots Q pc lo st0 w := by
  obtain ⟨q, hX0, hX2⟩ := am_bind hX
  obtain ⟨hsh, hX1⟩ := am_ob_of hX0
  subst hst
  subst hc1
  subst hs1
  subst how
  intro H locs ls hR hS hL
  have hrecv : ∃ cellB : Cell, H[b]? = some cellB ∧ cellB.vm.isStatics = false ∧ s.vm.findClass K = some cellB.cls := by
    obtain ⟨cell, q1, q2, q3, -⟩ := (hR.2 b _ hsh).2.obj hc
    exact ⟨cell, q1, by rw [q3]; rfl, by rw [q2]; exact (C.2.1.1 ci _ hc).2.1⟩
  have cw := cwV n C.1.2.2.2.2 (am_goodV C.2.2.2.1 m1 i1 s1 n1 c1) rfl hrc hrs hd hRm
  by_cases h0 : q.2.1 = 0
  · exact am_goon (va_runV (As := As) (rest := st) C.1 ((hM q hX1).met (by exact h0)) cw ⟨am_blind, hrecv, fun U hU hW => am_start C hFA hR hS hU hW⟩ rfl hn hL.1.1 rfl (lv_room hcat) hdg hf) hG9 hS hL (fun v w1 h => by obtain ⟨h1, h2⟩ := h; subst h1; subst h2; exact kr q h0 hX2)
  · obtain ⟨⟨hk1, hk3⟩, h, hhh, hk⟩ := kt q h0 hX2
    intro T0 hT0 X
    obtain ⟨⟨hrc', hrs', hfr', hlo', hws', hcw', hcode', hini', hy', hlen', hlink'⟩, hinst', hsel'⟩ := cw
    obtain ⟨cellB, hcB, hoB, hclB⟩ := hrecv
    obtain ⟨a, ce, T', L, X', hL', hce, hst9, hcl9, hrep, hz, hkp, hsteps⟩ := am_throwsV X C.1.1 (hM q hX1) (by exact h0) hrc' hrs' hfr' hlo' hws' hcw' C.1.2.2.2.1 hlink' hinst' hsel' hcode' (fun a' U hW => word_at hW (Or.inl (by first | rfl | simp [Cond.onTables, Cond.keeps, Cond.steady])) hini') hy' (by rw [hT0]; exact hcB) hoB hclB (g := F0 m pc ls (As.reverse ++ .ref b :: st)) rfl (hL.1.1.trans C.1.2.2.1.symm) (rest := st) (fun sig h => hn.trans (hlen' sig h)) rfl (by rw [C.1.2.1]; exact hdg) hf.1 hf.2 (lv_room hcat) (fun U hU hW => am_start C hFA hR hS (hU.trans hT0) hW)
    have hpl : e.platform.magicAccessors = ({} : Platform).magicAccessors := by rw [X.admits.platform]
    have hth : s.vm.findClass (am_X q.2.1) = some ce.cls := by
      rw [← hcl9]
      exact (X'.warmed.alike.findClass _ _).symm
    have hsl := am_sel_of (own := "RoverMinutesLaw") (args := args) (m := m) (pc := pc) hpl C.1.2.2.2.1 (fun i hi => C.1.2.2.2.2 _ (hlk i hi)) C.2.2.2.2.1.2.2.2 hk1 hk3 (C.2.2.2.2.1.word (hcs _ hk1 hk3)) hth (h := h) c.exceptionTable.toList (by rw [htab]; exact hhh)
    obtain ⟨vm', X9, go9⟩ := am_caught X' a (g := F0 m pc ls st) rfl hce hst9 (Vm.classAt_of_findClass hth) hsl
    rw [hT0] at hz hkp
    have hal : T'.vm.Alike s.vm := X'.warmed.alike.symm
    obtain ⟨t2, a1, b1⟩ := hk a (T'.setVm vm').heap (locs ++ L) ls (hrep.moved hal)
      ⟨Nat.le_trans hS.1 hz, fun x h1 h2 => (hkp x (Nat.lt_of_lt_of_le h1 hS.1) (fun z => h2 (hG9 x z))).trans (hS.2.1 x h1 h2), fun x hx => (List.mem_append.mp hx).elim (fun h => hS.2.2 x h) (fun h => hG9 _ (hL' x h))⟩ hL (T'.setVm vm') rfl X9
    exact ⟨t2, hsteps.trans (go9 t2 a1), b1⟩
/-- a contract of a method with a table -/
theorem am_ofVW {y : MethodName} {Tw : List Cond} {rm : Room} {maxL mc ms : Nat} {ret : Option FieldType} {hh : List (Nat × Nat × Nat × Nat)} {av : List Value} {post : Option Value → am_w → Prop}
    (hy : plainName y.cls = true) (hall : ∀ w ∈ Tw, goodWord w = true) (hlen : (lg_sl av).length ≤ maxL) (hcat : ∀ v ∈ av, v.category = 1)
    (body : ∀ (p : Program) (e : Env) (s : State) (m : MethodId) (below : List Frame) (meth : Method) (c : Code), am_C p m c cc maxL s av.toArray Tw y.cls D cl A → meth.sig.returnType = ret → meth.locks = false → c.exceptionTable.toList.map (fun h => (h.startPc, h.endPc, h.handlerPc, h.catchType)) = hh →
      am_V p l e rm s m av.toArray below meth c D cl ty A F maxL 0 0 (MQ below (am_Q D cl ty A F post) av.toArray s mc ms F) 0 (av.map some ++ List.replicate (maxL - av.length) none) [] w) : am_Met l D cl ty A F y (Cond.codeWith y cc maxL ret hh :: Tw) rm av w post mc ms := by
  refine va_MetW (ws := Cond.codeWith y cc maxL ret hh :: Tw) (hh := hh) hy rfl ?_
  intro p e s m args below meth c s₁ B hml hv
  obtain ⟨rfl, hrep, hK, hA, hZ, hY⟩ := hv
  have htab : c.exceptionTable.toList.map (fun h => (h.startPc, h.endPc, h.handlerPc, h.catchType)) = hh := by
    obtain ⟨m9, meth9, c9, hn9, h1, h2, h3, h4, h5, -⟩ := Cond.codeWith_spec (atoms_spec (ws := Cond.codeWith y cc maxL ret hh :: Tw) B.pre _ List.mem_cons_self)
    have X := Stand.of_body B
    cases B.named.symm.trans hn9
    have e1 : meth9 = meth := Option.some.inj (h1.symm.trans X.method)
    subst e1
    have e2 : c9 = c := Option.some.inj (h2.symm.trans X.code)
    subst e2
    exact h5
  rw [lg_entry_eq]
  exact body p e s m below meth c ⟨⟨B.exec, B.bytes, hml, findClass_of_methodNamed B.named, fun w h9 => atoms_spec (ws := Cond.codeWith y cc maxL ret hh :: Tw) B.pre w (List.mem_cons_of_mem _ h9)⟩, hK, hA, hall, hZ, hY⟩ B.returns B.notSynchronized htab s.heap [] _ hrep va_S.rf ((am_ls.entry av hlen hcat).sub (fun i v h => am_pad h))
/-- a static call of a method with a table -/
theorem am_callSW (C : am_C p m c cc nL s args Ts own D cl A) (hFA : ∀ q, F q → A q) {G : Nat → Prop} (hG9 : ∀ q, G q → F q) {y : MethodName} {rm : Room} {As : List Value} {mc ms index n maxL : Nat} {bytes : ByteArray} {rt : FieldType} {hh : List (Nat × Nat × Nat × Nat)} {f : Option (Int32 × am_w)} {β : Type} {K9 : Int32 × am_w → Option β} {r : β}
    (hM : ∀ q, f = some q → am_Met l D cl ty A G y (Cond.codeWith y bytes maxL (some rt) hh :: Ts) rm As w (am_ri q) mc ms) (m1 : Cond.methodLink own index y ∈ Ts) (t1 : Cond.static y ∈ Ts) (n1 : Cond.initialized y.cls ∈ Ts) (c1 : Cond.codeWith y bytes maxL (some rt) hh ∈ Ts) (hrc : rm.cells = mc) (hrs : rm.slots = ms)
    (hd : y.cls ≠ "java/lang/invoke/MethodHandle" ∧ y.cls ≠ "java/lang/invoke/VarHandle" ∧ (parseMethodDescriptor y.desc).map (fun d => d.parameters.length) = some n) (hRm : rm.frames + 1 ≤ R.frames ∧ 8 + (maxL + 11) + rm.locals ≤ R.locals)
    (hn : As.length = n) (hcat : (st.map fun v => v.category).sum ≤ 8) (hdg : decode cc pc = .ok (.invokestatic index, 3)) (hf : cells + mc ≤ R.cells ∧ slots + ms ≤ R.slots) {cells1 slots1 : Nat} (hc1 : cells + mc = cells1) (hs1 : slots + ms = slots1) {st0 : List Value} (hst : st0 = As.reverse ++ st) (hX : f.bind K9 = some r) (kk : ∀ q : Int32 × am_w, K9 q = some r → am_V p l e R s m args below meth c D cl ty A F nL cells1 slots1 Q (pc + 3) lo (.int q.1 :: st) q.2) : am_V p l e R s m args below meth c D cl ty A F nL cells slots Q pc lo st0 w := by
  obtain ⟨q, hX1, hX2⟩ := am_bind hX
  subst hst
  subst hc1
  subst hs1
  intro H locs ls hR hS hL
  have hgood : GoodIn Ts (Cond.codeWith y bytes maxL (some rt) hh :: Ts) := am_good C.2.2.2.1 (fun w hw => (List.mem_cons.mp hw).elim (fun h => h ▸ c1) id)
  have hK : Back l R p e below s args y 3 8 (PreOf R mc ms (am_P D cl ty A As w)) (PostOf (am_Q D cl ty A G (am_ri q)) mc ms G) :=
    va_backW (hh := hh) (bytes := bytes) (maxL := maxL) (ret := some rt) (hM q hX1) am_blind hrc hrs hRm.1 hRm.2 (pay_in C.1.2.2.2.2 hgood) List.mem_cons_self (fun a' U hW => word_at hW (Or.inl (by first | rfl | simp [Cond.onTables, Cond.keeps, Cond.steady])) (C.1.2.2.2.2 _ n1))
  have hrun : va_Run p l e R s m args below meth c H locs cells slots mc ms (F0 m pc ls (As.reverse ++ st)) st (am_Q D cl ty A G (am_ri q) As.toArray) G := by
    intro T hT X
    obtain ⟨mk, methM, cM, hnamed, hmethM, -, -, -, -, -, -, hsigM⟩ := Cond.codeWith_spec (C.1.2.2.2.2 _ c1)
    have hstatic : methM.isStatic = true := Cond.static_spec hnamed hmethM (C.1.2.2.2.2 _ t1)
    obtain ⟨kP, hkP, -⟩ := className_of_methodNamed hnamed
    have hinitP : kP.init = .initialized := Cond.initialized_spec (findClass_of_methodNamed hnamed) hkP (C.1.2.2.2.2 _ n1)
    have hlen : As.length = methM.sig.parameters.length := by
      have h2 := hd.2.2
      rw [hsigM] at h2
      exact hn.trans (Option.some.inj h2).symm
    obtain ⟨vm₁, X₁, hstep₁⟩ := X.invokestatic C.1.1 C.1.2.2.2.1 (C.1.2.2.2.2 _ m1) hnamed hmethM hstatic hkP hinitP ⟨hd.1, hd.2.1⟩ (g := F0 m pc ls (As.reverse ++ st)) rfl (argsL := As) (rest := st) hlen rfl (by rw [C.1.2.1]; exact hdg)
    obtain ⟨v, ⟨U', l2, c2, s2⟩, X', ⟨g', mk', t, L, e1, e2, hq, h1, hL9, h2, h3⟩, hsteps⟩ := hK m meth c ⟨T.setVm vm₁, locs, cells, slots⟩ (F0 m pc ls st) (.invokestatic index) mk As.toArray X₁ rfl (hL.1.1.trans C.1.2.2.1.symm) (by rw [C.1.2.1]; exact hdg) (lv_room hcat) (X₁.named hnamed) ⟨hf.1, hf.2, am_start C hFA hR hS hT X₁.warmed⟩
    dsimp only [Pt.U, Pt.locs, Pt.cells, Pt.slots] at X' e1 e2 h1 h2 h3 hsteps
    subst h1; subst h2; subst h3
    exact ⟨v, (T.setVm vm₁).calling g' mk' As.toArray, t, U', L, hT, X', hL9, e1, e2, hq, fun target h => hstep₁ _ fun acts => by rw [doInvoke_state]; exact hsteps.trans h⟩
  exact am_goon hrun hG9 hS hL (fun v w1 h => by obtain ⟨h1, h2⟩ := h; subst h1; subst h2; exact kk q hX2)
end AML
end
