section
-- ===== PART A: goes FIRST, ahead of the names: the tables' words, and 'selects' of the private methods out of them =====
/-- a private method of a class that the tables say can be made, by its rows of tables_1 -/
def lw_okq (q : MethodName × Nat) : Prop := (q.1.cls ≠ "java/lang/invoke/MethodHandle" ∧ q.1.cls ≠ "java/lang/invoke/VarHandle") ∧ Cond.instantiable q.1.cls q.2 ∈ tables_1 ∧ Cond.privateMethod q.1 ∈ tables_1 ∧ Cond.instanceMethod q.1 ∈ tables_1
theorem lw_p0 : lw_okq (⟨"RoverMinutes$Supply", "reckonNeeds", "()V"⟩, 7) := ⟨⟨by decide +kernel, by decide +kernel⟩, List.mem_of_getElem? (i := 59) (by decide +kernel), List.mem_of_getElem? (i := 69) (by decide +kernel), List.mem_of_getElem? (i := 70) (by decide +kernel)⟩
theorem lw_p1 : lw_okq (⟨"RoverMinutes$Supply", "needFrom", "(I)I"⟩, 7) := ⟨⟨by decide +kernel, by decide +kernel⟩, List.mem_of_getElem? (i := 59) (by decide +kernel), List.mem_of_getElem? (i := 73) (by decide +kernel), List.mem_of_getElem? (i := 74) (by decide +kernel)⟩
theorem lw_p2 : lw_okq (⟨"RoverMinutes$Envelope", "clear", "()V"⟩, 4) := ⟨⟨by decide +kernel, by decide +kernel⟩, List.mem_of_getElem? (i := 110) (by decide +kernel), List.mem_of_getElem? (i := 308) (by decide +kernel), List.mem_of_getElem? (i := 309) (by decide +kernel)⟩
theorem lw_p3 : lw_okq (⟨"RoverMinutes$Envelope", "add", "(LRoverMinutes$Activity;I)V"⟩, 4) := ⟨⟨by decide +kernel, by decide +kernel⟩, List.mem_of_getElem? (i := 110) (by decide +kernel), List.mem_of_getElem? (i := 316) (by decide +kernel), List.mem_of_getElem? (i := 317) (by decide +kernel)⟩
theorem lw_p4 : lw_okq (⟨"java/lang/Throwable", "fillInStackTrace", "(I)Ljava/lang/Throwable;"⟩, 6) := ⟨⟨by decide +kernel, by decide +kernel⟩, List.mem_of_getElem? (i := 388) (by decide +kernel), List.mem_of_getElem? (i := 386) (by decide +kernel), List.mem_of_getElem? (i := 387) (by decide +kernel)⟩
theorem lw_p5 : lw_okq (⟨"RoverMinutes$PlanReader", "take", "(C)Z"⟩, 2) := ⟨⟨by decide +kernel, by decide +kernel⟩, List.mem_of_getElem? (i := 46) (by decide +kernel), List.mem_of_getElem? (i := 452) (by decide +kernel), List.mem_of_getElem? (i := 453) (by decide +kernel)⟩
theorem lw_p6 : lw_okq (⟨"RoverMinutes$PlanReader", "readTimes", "(LRoverMinutes$Activity;C)Z"⟩, 2) := ⟨⟨by decide +kernel, by decide +kernel⟩, List.mem_of_getElem? (i := 46) (by decide +kernel), List.mem_of_getElem? (i := 456) (by decide +kernel), List.mem_of_getElem? (i := 457) (by decide +kernel)⟩
theorem lw_p7 : lw_okq (⟨"RoverMinutes$PlanReader", "takeNumber", "()I"⟩, 2) := ⟨⟨by decide +kernel, by decide +kernel⟩, List.mem_of_getElem? (i := 46) (by decide +kernel), List.mem_of_getElem? (i := 460) (by decide +kernel), List.mem_of_getElem? (i := 461) (by decide +kernel)⟩
theorem lw_p8 : lw_okq (⟨"RoverMinutes$PlanReader", "takeDigit", "()I"⟩, 2) := ⟨⟨by decide +kernel, by decide +kernel⟩, List.mem_of_getElem? (i := 46) (by decide +kernel), List.mem_of_getElem? (i := 464) (by decide +kernel), List.mem_of_getElem? (i := 465) (by decide +kernel)⟩
theorem lw_p9 : lw_okq (⟨"RoverMinutes$PlanReader", "readOptions", "(LRoverMinutes$Activity;)Z"⟩, 2) := ⟨⟨by decide +kernel, by decide +kernel⟩, List.mem_of_getElem? (i := 46) (by decide +kernel), List.mem_of_getElem? (i := 468) (by decide +kernel), List.mem_of_getElem? (i := 469) (by decide +kernel)⟩
theorem lw_p10 : lw_okq (⟨"RoverMinutes$PlanReader", "readValue", "(LRoverMinutes$Activity;I)Z"⟩, 2) := ⟨⟨by decide +kernel, by decide +kernel⟩, List.mem_of_getElem? (i := 46) (by decide +kernel), List.mem_of_getElem? (i := 555) (by decide +kernel), List.mem_of_getElem? (i := 556) (by decide +kernel)⟩
theorem lw_p11 : lw_okq (⟨"RoverMinutes$PlanReader", "readLink", "(LRoverMinutes$Activity;C)Z"⟩, 2) := ⟨⟨by decide +kernel, by decide +kernel⟩, List.mem_of_getElem? (i := 46) (by decide +kernel), List.mem_of_getElem? (i := 559) (by decide +kernel), List.mem_of_getElem? (i := 560) (by decide +kernel)⟩
theorem lw_p12 : lw_okq (⟨"RoverMinutes$Plan", "saysWrong", "(I)Z"⟩, 2) := ⟨⟨by decide +kernel, by decide +kernel⟩, List.mem_of_getElem? (i := 129) (by decide +kernel), List.mem_of_getElem? (i := 571) (by decide +kernel), List.mem_of_getElem? (i := 572) (by decide +kernel)⟩
theorem lw_p13 : lw_okq (⟨"RoverMinutes$Plan", "isInRing", "(I)Z"⟩, 2) := ⟨⟨by decide +kernel, by decide +kernel⟩, List.mem_of_getElem? (i := 129) (by decide +kernel), List.mem_of_getElem? (i := 575) (by decide +kernel), List.mem_of_getElem? (i := 576) (by decide +kernel)⟩
theorem lw_p14 : lw_okq (⟨"RoverMinutes$Plan", "reckonEarliest", "()V"⟩, 2) := ⟨⟨by decide +kernel, by decide +kernel⟩, List.mem_of_getElem? (i := 129) (by decide +kernel), List.mem_of_getElem? (i := 579) (by decide +kernel), List.mem_of_getElem? (i := 580) (by decide +kernel)⟩
theorem lw_p15 : lw_okq (⟨"RoverMinutes$Plan", "earliestOf", "(LRoverMinutes$Activity;)I"⟩, 2) := ⟨⟨by decide +kernel, by decide +kernel⟩, List.mem_of_getElem? (i := 129) (by decide +kernel), List.mem_of_getElem? (i := 583) (by decide +kernel), List.mem_of_getElem? (i := 584) (by decide +kernel)⟩
def lw_privs_1 : List (MethodName × Nat) := [(⟨"RoverMinutes$Supply", "reckonNeeds", "()V"⟩, 7), (⟨"RoverMinutes$Supply", "needFrom", "(I)I"⟩, 7), (⟨"RoverMinutes$Envelope", "clear", "()V"⟩, 4), (⟨"RoverMinutes$Envelope", "add", "(LRoverMinutes$Activity;I)V"⟩, 4), (⟨"java/lang/Throwable", "fillInStackTrace", "(I)Ljava/lang/Throwable;"⟩, 6), (⟨"RoverMinutes$PlanReader", "take", "(C)Z"⟩, 2), (⟨"RoverMinutes$PlanReader", "readTimes", "(LRoverMinutes$Activity;C)Z"⟩, 2), (⟨"RoverMinutes$PlanReader", "takeNumber", "()I"⟩, 2), (⟨"RoverMinutes$PlanReader", "takeDigit", "()I"⟩, 2), (⟨"RoverMinutes$PlanReader", "readOptions", "(LRoverMinutes$Activity;)Z"⟩, 2), (⟨"RoverMinutes$PlanReader", "readValue", "(LRoverMinutes$Activity;I)Z"⟩, 2), (⟨"RoverMinutes$PlanReader", "readLink", "(LRoverMinutes$Activity;C)Z"⟩, 2), (⟨"RoverMinutes$Plan", "saysWrong", "(I)Z"⟩, 2), (⟨"RoverMinutes$Plan", "isInRing", "(I)Z"⟩, 2), (⟨"RoverMinutes$Plan", "reckonEarliest", "()V"⟩, 2), (⟨"RoverMinutes$Plan", "earliestOf", "(LRoverMinutes$Activity;)I"⟩, 2)]
theorem lw_r1 : ∀ q ∈ lw_privs_1, lw_okq q := List.forall_mem_cons.mpr ⟨lw_p0, List.forall_mem_cons.mpr ⟨lw_p1, List.forall_mem_cons.mpr ⟨lw_p2, List.forall_mem_cons.mpr ⟨lw_p3, List.forall_mem_cons.mpr ⟨lw_p4, List.forall_mem_cons.mpr ⟨lw_p5, List.forall_mem_cons.mpr ⟨lw_p6, List.forall_mem_cons.mpr ⟨lw_p7, List.forall_mem_cons.mpr ⟨lw_p8, List.forall_mem_cons.mpr ⟨lw_p9, List.forall_mem_cons.mpr ⟨lw_p10, List.forall_mem_cons.mpr ⟨lw_p11, List.forall_mem_cons.mpr ⟨lw_p12, List.forall_mem_cons.mpr ⟨lw_p13, List.forall_mem_cons.mpr ⟨lw_p14, List.forall_mem_cons.mpr ⟨lw_p15, fun _ h => absurd h List.not_mem_nil⟩⟩⟩⟩⟩⟩⟩⟩⟩⟩⟩⟩⟩⟩⟩⟩
theorem lw_p16 : lw_okq (⟨"RoverMinutes$Plan", "isHopeless", "(LRoverMinutes$Activity;I)Z"⟩, 2) := ⟨⟨by decide +kernel, by decide +kernel⟩, List.mem_of_getElem? (i := 129) (by decide +kernel), List.mem_of_getElem? (i := 621) (by decide +kernel), List.mem_of_getElem? (i := 622) (by decide +kernel)⟩
theorem lw_p17 : lw_okq (⟨"RoverMinutes", "startAndSettle", "()I"⟩, 10) := ⟨⟨by decide +kernel, by decide +kernel⟩, List.mem_of_getElem? (i := 22) (by decide +kernel), List.mem_of_getElem? (i := 637) (by decide +kernel), List.mem_of_getElem? (i := 638) (by decide +kernel)⟩
theorem lw_p18 : lw_okq (⟨"RoverMinutes", "mayStart", "(I)Z"⟩, 10) := ⟨⟨by decide +kernel, by decide +kernel⟩, List.mem_of_getElem? (i := 22) (by decide +kernel), List.mem_of_getElem? (i := 641) (by decide +kernel), List.mem_of_getElem? (i := 642) (by decide +kernel)⟩
theorem lw_p19 : lw_okq (⟨"RoverMinutes", "beginReturn", "()V"⟩, 10) := ⟨⟨by decide +kernel, by decide +kernel⟩, List.mem_of_getElem? (i := 22) (by decide +kernel), List.mem_of_getElem? (i := 670) (by decide +kernel), List.mem_of_getElem? (i := 671) (by decide +kernel)⟩
theorem lw_p20 : lw_okq (⟨"RoverMinutes", "passInPlan", "()I"⟩, 10) := ⟨⟨by decide +kernel, by decide +kernel⟩, List.mem_of_getElem? (i := 22) (by decide +kernel), List.mem_of_getElem? (i := 685) (by decide +kernel), List.mem_of_getElem? (i := 686) (by decide +kernel)⟩
theorem lw_p21 : lw_okq (⟨"RoverMinutes$Activity", "stop", "()V"⟩, 19) := ⟨⟨by decide +kernel, by decide +kernel⟩, List.mem_of_getElem? (i := 136) (by decide +kernel), List.mem_of_getElem? (i := 715) (by decide +kernel), List.mem_of_getElem? (i := 716) (by decide +kernel)⟩
theorem lw_p22 : lw_okq (⟨"RoverMinutes", "passInReturn", "()V"⟩, 10) := ⟨⟨by decide +kernel, by decide +kernel⟩, List.mem_of_getElem? (i := 22) (by decide +kernel), List.mem_of_getElem? (i := 719) (by decide +kernel), List.mem_of_getElem? (i := 720) (by decide +kernel)⟩
theorem lw_p23 : lw_okq (⟨"RoverMinutesModel", "refused", "(ZZ)Z"⟩, 31) := ⟨⟨by decide +kernel, by decide +kernel⟩, List.mem_of_getElem? (i := 815) (by decide +kernel), List.mem_of_getElem? (i := 927) (by decide +kernel), List.mem_of_getElem? (i := 928) (by decide +kernel)⟩
theorem lw_p24 : lw_okq (⟨"RoverMinutesModel", "readLine", "()Z"⟩, 31) := ⟨⟨by decide +kernel, by decide +kernel⟩, List.mem_of_getElem? (i := 815) (by decide +kernel), List.mem_of_getElem? (i := 931) (by decide +kernel), List.mem_of_getElem? (i := 932) (by decide +kernel)⟩
theorem lw_p25 : lw_okq (⟨"RoverMinutesModel", "readActivity", "()Z"⟩, 31) := ⟨⟨by decide +kernel, by decide +kernel⟩, List.mem_of_getElem? (i := 815) (by decide +kernel), List.mem_of_getElem? (i := 935) (by decide +kernel), List.mem_of_getElem? (i := 936) (by decide +kernel)⟩
theorem lw_p26 : lw_okq (⟨"RoverMinutesModel", "look", "()I"⟩, 31) := ⟨⟨by decide +kernel, by decide +kernel⟩, List.mem_of_getElem? (i := 815) (by decide +kernel), List.mem_of_getElem? (i := 939) (by decide +kernel), List.mem_of_getElem? (i := 940) (by decide +kernel)⟩
theorem lw_p27 : lw_okq (⟨"RoverMinutesModel", "readInto", "(I)Z"⟩, 31) := ⟨⟨by decide +kernel, by decide +kernel⟩, List.mem_of_getElem? (i := 815) (by decide +kernel), List.mem_of_getElem? (i := 943) (by decide +kernel), List.mem_of_getElem? (i := 944) (by decide +kernel)⟩
theorem lw_p28 : lw_okq (⟨"RoverMinutesModel", "readNumber", "()I"⟩, 31) := ⟨⟨by decide +kernel, by decide +kernel⟩, List.mem_of_getElem? (i := 815) (by decide +kernel), List.mem_of_getElem? (i := 947) (by decide +kernel), List.mem_of_getElem? (i := 948) (by decide +kernel)⟩
theorem lw_p29 : lw_okq (⟨"RoverMinutesModel", "isDigit", "()Z"⟩, 31) := ⟨⟨by decide +kernel, by decide +kernel⟩, List.mem_of_getElem? (i := 815) (by decide +kernel), List.mem_of_getElem? (i := 951) (by decide +kernel), List.mem_of_getElem? (i := 952) (by decide +kernel)⟩
theorem lw_p30 : lw_okq (⟨"RoverMinutesModel", "readOption", "()I"⟩, 31) := ⟨⟨by decide +kernel, by decide +kernel⟩, List.mem_of_getElem? (i := 815) (by decide +kernel), List.mem_of_getElem? (i := 955) (by decide +kernel), List.mem_of_getElem? (i := 956) (by decide +kernel)⟩
theorem lw_p31 : lw_okq (⟨"RoverMinutesModel", "unfit", "()I"⟩, 31) := ⟨⟨by decide +kernel, by decide +kernel⟩, List.mem_of_getElem? (i := 815) (by decide +kernel), List.mem_of_getElem? (i := 962) (by decide +kernel), List.mem_of_getElem? (i := 963) (by decide +kernel)⟩
def lw_privs_2 : List (MethodName × Nat) := [(⟨"RoverMinutes$Plan", "isHopeless", "(LRoverMinutes$Activity;I)Z"⟩, 2), (⟨"RoverMinutes", "startAndSettle", "()I"⟩, 10), (⟨"RoverMinutes", "mayStart", "(I)Z"⟩, 10), (⟨"RoverMinutes", "beginReturn", "()V"⟩, 10), (⟨"RoverMinutes", "passInPlan", "()I"⟩, 10), (⟨"RoverMinutes$Activity", "stop", "()V"⟩, 19), (⟨"RoverMinutes", "passInReturn", "()V"⟩, 10), (⟨"RoverMinutesModel", "refused", "(ZZ)Z"⟩, 31), (⟨"RoverMinutesModel", "readLine", "()Z"⟩, 31), (⟨"RoverMinutesModel", "readActivity", "()Z"⟩, 31), (⟨"RoverMinutesModel", "look", "()I"⟩, 31), (⟨"RoverMinutesModel", "readInto", "(I)Z"⟩, 31), (⟨"RoverMinutesModel", "readNumber", "()I"⟩, 31), (⟨"RoverMinutesModel", "isDigit", "()Z"⟩, 31), (⟨"RoverMinutesModel", "readOption", "()I"⟩, 31), (⟨"RoverMinutesModel", "unfit", "()I"⟩, 31)]
theorem lw_r2 : ∀ q ∈ lw_privs_2, lw_okq q := List.forall_mem_cons.mpr ⟨lw_p16, List.forall_mem_cons.mpr ⟨lw_p17, List.forall_mem_cons.mpr ⟨lw_p18, List.forall_mem_cons.mpr ⟨lw_p19, List.forall_mem_cons.mpr ⟨lw_p20, List.forall_mem_cons.mpr ⟨lw_p21, List.forall_mem_cons.mpr ⟨lw_p22, List.forall_mem_cons.mpr ⟨lw_p23, List.forall_mem_cons.mpr ⟨lw_p24, List.forall_mem_cons.mpr ⟨lw_p25, List.forall_mem_cons.mpr ⟨lw_p26, List.forall_mem_cons.mpr ⟨lw_p27, List.forall_mem_cons.mpr ⟨lw_p28, List.forall_mem_cons.mpr ⟨lw_p29, List.forall_mem_cons.mpr ⟨lw_p30, List.forall_mem_cons.mpr ⟨lw_p31, fun _ h => absurd h List.not_mem_nil⟩⟩⟩⟩⟩⟩⟩⟩⟩⟩⟩⟩⟩⟩⟩⟩
theorem lw_p32 : lw_okq (⟨"RoverMinutesModel", "isWrong", "(I)Z"⟩, 31) := ⟨⟨by decide +kernel, by decide +kernel⟩, List.mem_of_getElem? (i := 815) (by decide +kernel), List.mem_of_getElem? (i := 966) (by decide +kernel), List.mem_of_getElem? (i := 967) (by decide +kernel)⟩
theorem lw_p33 : lw_okq (⟨"RoverMinutesModel", "findRings", "()V"⟩, 31) := ⟨⟨by decide +kernel, by decide +kernel⟩, List.mem_of_getElem? (i := 815) (by decide +kernel), List.mem_of_getElem? (i := 970) (by decide +kernel), List.mem_of_getElem? (i := 971) (by decide +kernel)⟩
theorem lw_p34 : lw_okq (⟨"RoverMinutesModel", "findFirsts", "()V"⟩, 31) := ⟨⟨by decide +kernel, by decide +kernel⟩, List.mem_of_getElem? (i := 815) (by decide +kernel), List.mem_of_getElem? (i := 974) (by decide +kernel), List.mem_of_getElem? (i := 975) (by decide +kernel)⟩
theorem lw_p35 : lw_okq (⟨"RoverMinutesModel", "rest", "()V"⟩, 31) := ⟨⟨by decide +kernel, by decide +kernel⟩, List.mem_of_getElem? (i := 815) (by decide +kernel), List.mem_of_getElem? (i := 978) (by decide +kernel), List.mem_of_getElem? (i := 979) (by decide +kernel)⟩
theorem lw_p36 : lw_okq (⟨"RoverMinutesModel", "isOpen", "(II)Z"⟩, 31) := ⟨⟨by decide +kernel, by decide +kernel⟩, List.mem_of_getElem? (i := 815) (by decide +kernel), List.mem_of_getElem? (i := 986) (by decide +kernel), List.mem_of_getElem? (i := 987) (by decide +kernel)⟩
theorem lw_p37 : lw_okq (⟨"RoverMinutesModel", "afterMinute", "(III)I"⟩, 31) := ⟨⟨by decide +kernel, by decide +kernel⟩, List.mem_of_getElem? (i := 815) (by decide +kernel), List.mem_of_getElem? (i := 990) (by decide +kernel), List.mem_of_getElem? (i := 991) (by decide +kernel)⟩
theorem lw_p38 : lw_okq (⟨"RoverMinutesModel", "skip", "()V"⟩, 31) := ⟨⟨by decide +kernel, by decide +kernel⟩, List.mem_of_getElem? (i := 815) (by decide +kernel), List.mem_of_getElem? (i := 994) (by decide +kernel), List.mem_of_getElem? (i := 995) (by decide +kernel)⟩
theorem lw_p39 : lw_okq (⟨"RoverMinutesModel", "hasIn", "(III)Z"⟩, 31) := ⟨⟨by decide +kernel, by decide +kernel⟩, List.mem_of_getElem? (i := 815) (by decide +kernel), List.mem_of_getElem? (i := 998) (by decide +kernel), List.mem_of_getElem? (i := 999) (by decide +kernel)⟩
theorem lw_p40 : lw_okq (⟨"RoverMinutesModel", "startAll", "()I"⟩, 31) := ⟨⟨by decide +kernel, by decide +kernel⟩, List.mem_of_getElem? (i := 815) (by decide +kernel), List.mem_of_getElem? (i := 1002) (by decide +kernel), List.mem_of_getElem? (i := 1003) (by decide +kernel)⟩
theorem lw_p41 : lw_okq (⟨"RoverMinutesModel", "mayStart", "(I)Z"⟩, 31) := ⟨⟨by decide +kernel, by decide +kernel⟩, List.mem_of_getElem? (i := 815) (by decide +kernel), List.mem_of_getElem? (i := 1006) (by decide +kernel), List.mem_of_getElem? (i := 1007) (by decide +kernel)⟩
theorem lw_p42 : lw_okq (⟨"RoverMinutesModel", "holds", "(I)Z"⟩, 31) := ⟨⟨by decide +kernel, by decide +kernel⟩, List.mem_of_getElem? (i := 815) (by decide +kernel), List.mem_of_getElem? (i := 1010) (by decide +kernel), List.mem_of_getElem? (i := 1011) (by decide +kernel)⟩
theorem lw_p43 : lw_okq (⟨"RoverMinutesModel", "isRunningOr", "(II)Z"⟩, 31) := ⟨⟨by decide +kernel, by decide +kernel⟩, List.mem_of_getElem? (i := 815) (by decide +kernel), List.mem_of_getElem? (i := 1014) (by decide +kernel), List.mem_of_getElem? (i := 1015) (by decide +kernel)⟩
theorem lw_p44 : lw_okq (⟨"RoverMinutesModel", "leftOf", "(II)I"⟩, 31) := ⟨⟨by decide +kernel, by decide +kernel⟩, List.mem_of_getElem? (i := 815) (by decide +kernel), List.mem_of_getElem? (i := 1018) (by decide +kernel), List.mem_of_getElem? (i := 1019) (by decide +kernel)⟩
theorem lw_p45 : lw_okq (⟨"RoverMinutesModel", "drawIn", "(II)I"⟩, 31) := ⟨⟨by decide +kernel, by decide +kernel⟩, List.mem_of_getElem? (i := 815) (by decide +kernel), List.mem_of_getElem? (i := 1022) (by decide +kernel), List.mem_of_getElem? (i := 1023) (by decide +kernel)⟩
theorem lw_p46 : lw_okq (⟨"RoverMinutesModel", "howMany", "(I)I"⟩, 31) := ⟨⟨by decide +kernel, by decide +kernel⟩, List.mem_of_getElem? (i := 815) (by decide +kernel), List.mem_of_getElem? (i := 1026) (by decide +kernel), List.mem_of_getElem? (i := 1027) (by decide +kernel)⟩
theorem lw_p47 : lw_okq (⟨"RoverMinutesModel", "goHome", "()V"⟩, 31) := ⟨⟨by decide +kernel, by decide +kernel⟩, List.mem_of_getElem? (i := 815) (by decide +kernel), List.mem_of_getElem? (i := 1034) (by decide +kernel), List.mem_of_getElem? (i := 1035) (by decide +kernel)⟩
def lw_privs_3 : List (MethodName × Nat) := [(⟨"RoverMinutesModel", "isWrong", "(I)Z"⟩, 31), (⟨"RoverMinutesModel", "findRings", "()V"⟩, 31), (⟨"RoverMinutesModel", "findFirsts", "()V"⟩, 31), (⟨"RoverMinutesModel", "rest", "()V"⟩, 31), (⟨"RoverMinutesModel", "isOpen", "(II)Z"⟩, 31), (⟨"RoverMinutesModel", "afterMinute", "(III)I"⟩, 31), (⟨"RoverMinutesModel", "skip", "()V"⟩, 31), (⟨"RoverMinutesModel", "hasIn", "(III)Z"⟩, 31), (⟨"RoverMinutesModel", "startAll", "()I"⟩, 31), (⟨"RoverMinutesModel", "mayStart", "(I)Z"⟩, 31), (⟨"RoverMinutesModel", "holds", "(I)Z"⟩, 31), (⟨"RoverMinutesModel", "isRunningOr", "(II)Z"⟩, 31), (⟨"RoverMinutesModel", "leftOf", "(II)I"⟩, 31), (⟨"RoverMinutesModel", "drawIn", "(II)I"⟩, 31), (⟨"RoverMinutesModel", "howMany", "(I)I"⟩, 31), (⟨"RoverMinutesModel", "goHome", "()V"⟩, 31)]
theorem lw_r3 : ∀ q ∈ lw_privs_3, lw_okq q := List.forall_mem_cons.mpr ⟨lw_p32, List.forall_mem_cons.mpr ⟨lw_p33, List.forall_mem_cons.mpr ⟨lw_p34, List.forall_mem_cons.mpr ⟨lw_p35, List.forall_mem_cons.mpr ⟨lw_p36, List.forall_mem_cons.mpr ⟨lw_p37, List.forall_mem_cons.mpr ⟨lw_p38, List.forall_mem_cons.mpr ⟨lw_p39, List.forall_mem_cons.mpr ⟨lw_p40, List.forall_mem_cons.mpr ⟨lw_p41, List.forall_mem_cons.mpr ⟨lw_p42, List.forall_mem_cons.mpr ⟨lw_p43, List.forall_mem_cons.mpr ⟨lw_p44, List.forall_mem_cons.mpr ⟨lw_p45, List.forall_mem_cons.mpr ⟨lw_p46, List.forall_mem_cons.mpr ⟨lw_p47, fun _ h => absurd h List.not_mem_nil⟩⟩⟩⟩⟩⟩⟩⟩⟩⟩⟩⟩⟩⟩⟩⟩
theorem lw_p48 : lw_okq (⟨"RoverMinutesModel", "minute", "()I"⟩, 31) := ⟨⟨by decide +kernel, by decide +kernel⟩, List.mem_of_getElem? (i := 815) (by decide +kernel), List.mem_of_getElem? (i := 1042) (by decide +kernel), List.mem_of_getElem? (i := 1043) (by decide +kernel)⟩
theorem lw_p49 : lw_okq (⟨"RoverMinutesModel", "draw", "(I)V"⟩, 31) := ⟨⟨by decide +kernel, by decide +kernel⟩, List.mem_of_getElem? (i := 815) (by decide +kernel), List.mem_of_getElem? (i := 1046) (by decide +kernel), List.mem_of_getElem? (i := 1047) (by decide +kernel)⟩
theorem lw_p50 : lw_okq (⟨"RoverMinutesModel", "age", "()V"⟩, 31) := ⟨⟨by decide +kernel, by decide +kernel⟩, List.mem_of_getElem? (i := 815) (by decide +kernel), List.mem_of_getElem? (i := 1050) (by decide +kernel), List.mem_of_getElem? (i := 1051) (by decide +kernel)⟩
theorem lw_p51 : lw_okq (⟨"RoverMinutesModel", "isActivity", "(I)Z"⟩, 31) := ⟨⟨by decide +kernel, by decide +kernel⟩, List.mem_of_getElem? (i := 815) (by decide +kernel), List.mem_of_getElem? (i := 1058) (by decide +kernel), List.mem_of_getElem? (i := 1059) (by decide +kernel)⟩
theorem lw_p52 : lw_okq (⟨"RoverMinutesModel", "heatNow", "()I"⟩, 31) := ⟨⟨by decide +kernel, by decide +kernel⟩, List.mem_of_getElem? (i := 815) (by decide +kernel), List.mem_of_getElem? (i := 1094) (by decide +kernel), List.mem_of_getElem? (i := 1095) (by decide +kernel)⟩
def lw_privs_4 : List (MethodName × Nat) := [(⟨"RoverMinutesModel", "minute", "()I"⟩, 31), (⟨"RoverMinutesModel", "draw", "(I)V"⟩, 31), (⟨"RoverMinutesModel", "age", "()V"⟩, 31), (⟨"RoverMinutesModel", "isActivity", "(I)Z"⟩, 31), (⟨"RoverMinutesModel", "heatNow", "()I"⟩, 31)]
theorem lw_r4 : ∀ q ∈ lw_privs_4, lw_okq q := List.forall_mem_cons.mpr ⟨lw_p48, List.forall_mem_cons.mpr ⟨lw_p49, List.forall_mem_cons.mpr ⟨lw_p50, List.forall_mem_cons.mpr ⟨lw_p51, List.forall_mem_cons.mpr ⟨lw_p52, fun _ h => absurd h List.not_mem_nil⟩⟩⟩⟩⟩
def lw_privs : List (MethodName × Nat) := lw_privs_1 ++ (lw_privs_2 ++ (lw_privs_3 ++ (lw_privs_4)))
def lw_tbl : List Cond := k2_sels lw_privs ++ tables_1
theorem lw_privs_ok : ∀ q ∈ lw_privs, lw_okq q := by
  show ∀ q ∈ lw_privs_1 ++ (lw_privs_2 ++ (lw_privs_3 ++ (lw_privs_4))), lw_okq q
  exact List.forall_mem_append.mpr ⟨lw_r1, List.forall_mem_append.mpr ⟨lw_r2, List.forall_mem_append.mpr ⟨lw_r3, lw_r4⟩⟩⟩
end
section
/-! am: a world as plain functions. hi: the ints of a cell by slot, hr: its references by slot, sh: what lies at an address, sz: the heap's size.
Nothing is cut out and joined again: a method's contract speaks of the whole world; what it leaves alone is left alone by the functions themselves. -/
abbrev am_I : Type := Nat → Nat → Int32
abbrev am_R : Type := Nat → Nat → Option Nat
/-- .inl ci: an object of the class number ci; .inr (ty, n): an array of n places of type ty -/
abbrev am_S : Type := Nat → Option (Nat ⊕ (FieldType × Nat))
/-- 1: a reference; 2: a long (the law's own array; it holds longs of ints alone); 0: an int of some width -/
def am_k (t : FieldType) : Nat := match t with
  | .object _ => 1
  | .array _ => 1
  | .long => 2
  | _ => 0
theorem am_k_int : am_k .int = 0 := rfl
def am_v (t : FieldType) (x : Int32) (r : Option Nat) : Value := if am_k t = 1 then va_rf r else if am_k t = 2 then .long x.toInt64 else .int x
theorem am_v_i {t : FieldType} {x : Int32} {r : Option Nat} (h : am_k t = 0) : am_v t x r = .int x := by simp [am_v, h]
theorem am_v_r {t : FieldType} {x : Int32} {r : Option Nat} (h : am_k t = 1) : am_v t x r = va_rf r := by simp [am_v, h]
def am_up {α : Type} (f : Nat → Nat → α) (a k : Nat) (v : α) : Nat → Nat → α := fun q j => if q = a ∧ j = k then v else f q j
theorem am_up_eq {α : Type} (f : Nat → Nat → α) (a k : Nat) (v : α) : am_up f a k v a k = v := by simp [am_up]
theorem am_up_na {α : Type} {f : Nat → Nat → α} {a k q j : Nat} {v : α} (h : q ≠ a) : am_up f a k v q j = f q j := by simp [am_up, h]
theorem am_up_nk {α : Type} {f : Nat → Nat → α} {a k q j : Nat} {v : α} (h : j ≠ k) : am_up f a k v q j = f q j := by simp [am_up, h]
def am_cell (D : va_G) (cl : List vw_C) (ty : Nat → Nat → FieldType) (s : State) (hi : am_I) (hr : am_R) (H : Heap) (a : Nat) (e : Nat ⊕ (FieldType × Nat)) : Prop := match e with
  | .inl ci => ∃ r : vw_C, cl[ci]? = some r ∧ t_OB a (D.1 ci) r.2.2 (D.2 ci) H (fun k => am_v (ty ci k) (hi a k) (hr a k))
  | .inr (t, n) => ∃ cA : ClassId, H[a]? = some (arrV cA n (fun j => am_v t (hi a j) (hr a j))) ∧ ArrOfT s cA t ∧ va_RA s cA t
/-- a world: the heap's size, what lies where, the ints, the references -/
abbrev am_w : Type := Nat × am_S × am_I × am_R
def am_rep (D : va_G) (cl : List vw_C) (ty : Nat → Nat → FieldType) (A : Nat → Prop) (s : State) (w : am_w) (H : Heap) : Prop :=
  H.size = w.1 ∧ ∀ (a : Nat) (e : Nat ⊕ (FieldType × Nat)), w.2.1 a = some e → A a ∧ am_cell D cl ty s w.2.2.1 w.2.2.2 H a e
theorem am_cell.moved {D : va_G} {cl : List vw_C} {ty : Nat → Nat → FieldType} {u U : State} {hi : am_I} {hr : am_R} {H : Heap} {a : Nat} {e : Nat ⊕ (FieldType × Nat)} (hvm : u.vm.Alike U.vm) (h : am_cell D cl ty u hi hr H a e) : am_cell D cl ty U hi hr H a e := by
  rcases e with ci | ⟨t, n⟩
  · exact h
  · obtain ⟨cA, h1, h2, h3⟩ := h
    exact ⟨cA, h1, arrOfT_moved hvm h2, h3.moved hvm⟩
theorem am_rep.moved {D : va_G} {cl : List vw_C} {ty : Nat → Nat → FieldType} {A : Nat → Prop} {u U : State} {w : am_w} {H : Heap} (hvm : u.vm.Alike U.vm) (h : am_rep D cl ty A u w H) : am_rep D cl ty A U w H :=
  ⟨h.1, fun a e he => ⟨(h.2 a e he).1, (h.2 a e he).2.moved hvm⟩⟩
theorem am_cell.kept {D : va_G} {cl : List vw_C} {ty : Nat → Nat → FieldType} {s : State} {hi hi' : am_I} {hr hr' : am_R} {H H1 : Heap} {a : Nat} {e : Nat ⊕ (FieldType × Nat)} (h : am_cell D cl ty s hi hr H a e) (hH : H1[a]? = H[a]?) (h1 : ∀ j, hi' a j = hi a j) (h2 : ∀ j, hr' a j = hr a j) : am_cell D cl ty s hi' hr' H1 a e := by
  rcases e with ci | ⟨t, n⟩
  · obtain ⟨r, q1, q2⟩ := h
    exact ⟨r, q1, (q2.kept hH).to (fun k _ => by rw [h1 k, h2 k])⟩
  · obtain ⟨cA, q1, q2, q3⟩ := h
    refine ⟨cA, ?_, q2, q3⟩
    rw [hH, q1]
    congr 2
    funext j
    rw [h1 j, h2 j]
theorem am_cell.lt {D : va_G} {cl : List vw_C} {ty : Nat → Nat → FieldType} {s : State} {hi : am_I} {hr : am_R} {H : Heap} {a : Nat} {e : Nat ⊕ (FieldType × Nat)} (h : am_cell D cl ty s hi hr H a e) : a < H.size := by
  rcases e with ci | ⟨t, n⟩
  · obtain ⟨r, q1, cell, q2, -⟩ := h
    exact (Array.getElem?_eq_some_iff.mp q2).1
  · obtain ⟨cA, q1, -⟩ := h
    exact (Array.getElem?_eq_some_iff.mp q1).1
/-! the locals by their numbers -/
def am_as (lo : List (Option Value)) : List (Nat × Value) := (List.range lo.length).filterMap (fun j => (lo.getD j none).map (fun w => (j, w)))
theorem am_as_mem {lo : List (Option Value)} {q : Nat × Value} : q ∈ am_as lo ↔ lo[q.1]? = some (some q.2) := by
  unfold am_as
  rw [List.mem_filterMap]
  constructor
  · rintro ⟨j, hj, h⟩
    rw [List.mem_range] at hj
    rw [List.getD_eq_getElem?_getD, List.getElem?_eq_getElem hj, Option.getD_some] at h
    cases hv : lo[j] with
    | none => rw [hv] at h; cases h
    | some w =>
      rw [hv] at h
      cases h
      rw [List.getElem?_eq_getElem hj, hv]
  · intro h
    have hj : q.1 < lo.length := (List.getElem?_eq_some_iff.mp h).1
    exact ⟨q.1, List.mem_range.mpr hj, by rw [List.getD_eq_getElem?_getD, h]; rfl⟩
/-! the locals: what is left of them at a place where roads meet -/
def am_le : List (Option Value) → List (Option Value) → Prop
  | [], _ => True
  | none :: a, _ :: b => am_le a b
  | none :: a, [] => am_le a []
  | some v :: a, x :: b => x = some v ∧ am_le a b
  | some _ :: _, [] => False
theorem am_le_nil : ∀ (a : List (Option Value)) (i : Nat) (v : Value), am_le a [] → a[i]? = some (some v) → False
  | [], i, v, _, h => by simp at h
  | none :: a, 0, v, _, h => by simp at h
  | none :: a, i + 1, v, hl, h => am_le_nil a i v hl (by simpa using h)
  | some _ :: _, _, _, hl, _ => hl
theorem am_le_at : ∀ (a b : List (Option Value)) (i : Nat) (v : Value), am_le a b → a[i]? = some (some v) → b[i]? = some (some v)
  | [], _, i, v, _, h => by simp at h
  | none :: a, [], i, v, hl, h => (am_le_nil (none :: a) i v hl h).elim
  | none :: a, _ :: b, 0, v, _, h => by simp at h
  | none :: a, _ :: b, i + 1, v, hl, h => by
    have := am_le_at a b i v hl (by simpa using h)
    simpa using this
  | some u :: a, [], i, v, hl, h => hl.elim
  | some u :: a, x :: b, 0, v, hl, h => by
    have h1 : u = v := by simpa using h
    subst h1
    simpa using hl.1
  | some u :: a, x :: b, i + 1, v, hl, h => by
    have := am_le_at a b i v hl.2 (by simpa using h)
    simpa using this
def am_ls (ls : Array Slot) (nL : Nat) (lo : List (Option Value)) : Prop := lv_has ls nL (am_as lo) ∧ ∀ (i : Nat) (v : Value), lo[i]? = some (some v) → v.category = 1
theorem am_ls.at {ls : Array Slot} {nL : Nat} {lo : List (Option Value)} (h : am_ls ls nL lo) {i : Nat} {v : Value} (hi : lo[i]? = some (some v)) : ls[i]? = some (.val v) :=
  h.1.2.2 (i, v) (am_as_mem.mpr hi)
theorem am_ls.put {ls ls' : Array Slot} {nL : Nat} {lo : List (Option Value)} {i : Nat} {v : Value} (h : am_ls ls nL lo) (hc : v.category = 1)
    (h' : lv_has ls' nL ((i, v) :: (am_as lo).filter (fun q => !(q.1 == i) && !(q.1 + 1 == i && q.2.category == 2)))) : am_ls ls' nL (lo.set i (some v)) := by
  have key : ∀ (j : Nat) (w : Value), (lo.set i (some v))[j]? = some (some w) → (j = i ∧ w = v) ∨ (j ≠ i ∧ lo[j]? = some (some w)) := by
    intro j w hj
    rw [List.getElem?_set] at hj
    by_cases e : i = j
    · rw [if_pos e] at hj
      by_cases e2 : i < lo.length
      · rw [if_pos e2] at hj
        exact Or.inl ⟨e.symm, (Option.some.inj (Option.some.inj hj)).symm⟩
      · rw [if_neg e2] at hj
        cases hj
    · rw [if_neg e] at hj
      exact Or.inr ⟨fun q => e q.symm, hj⟩
  refine ⟨⟨h'.1, h'.2.1, fun q hq => ?_⟩, fun j w hj => ?_⟩
  · rcases key q.1 q.2 (am_as_mem.mp hq) with ⟨e1, e2⟩ | ⟨e1, e2⟩
    · rw [e1, e2]
      exact h'.2.2 (i, v) List.mem_cons_self
    · refine h'.2.2 q (List.mem_cons_of_mem _ (List.mem_filter.mpr ⟨am_as_mem.mpr e2, ?_⟩))
      have h1 := h.2 q.1 q.2 e2
      simp [e1, h1]
  · rcases key j w hj with ⟨-, e2⟩ | ⟨-, e2⟩
    · rw [e2]; exact hc
    · exact h.2 j w e2
/-- less is known of the locals -/
theorem am_ls.sub {ls : Array Slot} {nL : Nat} {lo lo' : List (Option Value)} (h : am_ls ls nL lo) (hs : ∀ (i : Nat) (v : Value), lo'[i]? = some (some v) → lo[i]? = some (some v)) : am_ls ls nL lo' :=
  ⟨⟨h.1.1, h.1.2.1, fun q hq => h.1.2.2 q (am_as_mem.mpr (hs _ _ (am_as_mem.mp hq)))⟩, fun i v hv => h.2 i v (hs i v hv)⟩
theorem am_ls.entry (vs : List Value) {n : Nat} (hn : (lg_sl vs).length ≤ n) (hc : ∀ v ∈ vs, v.category = 1) : am_ls ((lg_sl vs ++ List.replicate (n - (lg_sl vs).length) Slot.unset).toArray) n (vs.map some) := by
  have hl := lv_entry vs hn
  have hA : ∀ (vs : List Value) (k : Nat), (∀ v ∈ vs, v.category = 1) → ∀ (i : Nat) (w : Value), vs[i]? = some w → (k + i, w) ∈ lv_args k vs := by
    intro vs
    induction vs with
    | nil => intro k _ i w h; simp at h
    | cons v vs ih =>
      intro k hc i w h
      have h1 : v.category = 1 := hc v List.mem_cons_self
      have h2 : lv_args k (v :: vs) = (k, v) :: lv_args (k + 1) vs := by
        show (k, v) :: lv_args (if v.category = 2 then k + 2 else k + 1) vs = _
        rw [if_neg (by omega)]
      rw [h2]
      cases i with
      | zero =>
        rw [List.getElem?_cons_zero] at h
        cases h
        exact List.mem_cons_self
      | succ i =>
        rw [List.getElem?_cons_succ] at h
        have := ih (k + 1) (fun v hv => hc v (List.mem_cons_of_mem _ hv)) i w h
        rw [show k + (i + 1) = k + 1 + i by omega]
        exact List.mem_cons_of_mem _ this
  have hmap : ∀ (i : Nat) (v : Value), (vs.map some)[i]? = some (some v) → vs[i]? = some v := by
    intro i v h
    rw [List.getElem?_map] at h
    cases hv : vs[i]? with
    | none => rw [hv] at h; cases h
    | some w => rw [hv] at h; cases h; rfl
  refine ⟨⟨hl.1, hl.2.1, fun q hq => ?_⟩, fun i v hv => hc v (List.mem_of_getElem? (hmap i v hv))⟩
  have h1 := hA vs 0 hc q.1 q.2 (hmap _ _ (am_as_mem.mp hq))
  rw [Nat.zero_add] at h1
  exact hl.2.2 q h1
/-! what a program does to a world; none: it would not be a good step -/
def am_fg (ci k a : Nat) (w : am_w) : Option Int32 := match w.2.1 a with
  | some (.inl c) => if c = ci then some (w.2.2.1 a k) else none
  | _ => none
def am_rg (ci k a : Nat) (w : am_w) : Option Nat := match w.2.1 a with
  | some (.inl c) => if c = ci then w.2.2.2 a k else none
  | _ => none
def am_wi (w : am_w) (a k : Nat) (x : Int32) : am_w := (w.1, w.2.1, am_up w.2.2.1 a k x, w.2.2.2)
def am_wr (w : am_w) (a k b : Nat) : am_w := (w.1, w.2.1, w.2.2.1, am_up w.2.2.2 a k (some b))
def am_fp (ci k a : Nat) (x : Int32) (w : am_w) : Option am_w := match w.2.1 a with
  | some (.inl c) => if c = ci then some (am_wi w a k x) else none
  | _ => none
def am_rp (ci k a b : Nat) (w : am_w) : Option am_w := match w.2.1 a with
  | some (.inl c) => if c = ci then some (am_wr w a k b) else none
  | _ => none
def am_al (a : Nat) (w : am_w) : Option Int32 := match w.2.1 a with
  | some (.inr (_, n)) => some (Int32.ofNat n)
  | _ => none
def am_ig (a : Nat) (i : Int32) (w : am_w) : Option Int32 := match w.2.1 a with
  | some (.inr (.int, n)) => if i < 0 ∨ n ≤ i.toNatClampNeg then none else some (w.2.2.1 a i.toNatClampNeg)
  | _ => none
def am_is (a : Nat) (i x : Int32) (w : am_w) : Option am_w := match w.2.1 a with
  | some (.inr (.int, n)) => if i < 0 ∨ n ≤ i.toNatClampNeg then none else some (am_wi w a i.toNatClampNeg x)
  | _ => none
def am_cg (a : Nat) (i : Int32) (w : am_w) : Option Int32 := match w.2.1 a with
  | some (.inr (.char, n)) => if i < 0 ∨ n ≤ i.toNatClampNeg then none else some (w.2.2.1 a i.toNatClampNeg)
  | _ => none
def am_cs (a : Nat) (i x : Int32) (w : am_w) : Option am_w := match w.2.1 a with
  | some (.inr (.char, n)) => if i < 0 ∨ n ≤ i.toNatClampNeg then none else some (am_wi w a i.toNatClampNeg x.toUInt32.toUInt16.toUInt32.toInt32)
  | _ => none
def am_lg (a : Nat) (i : Int32) (w : am_w) : Option Int32 := match w.2.1 a with
  | some (.inr (.long, n)) => if i < 0 ∨ n ≤ i.toNatClampNeg then none else some (w.2.2.1 a i.toNatClampNeg)
  | _ => none
def am_lp (a : Nat) (i x : Int32) (w : am_w) : Option am_w := match w.2.1 a with
  | some (.inr (.long, n)) => if i < 0 ∨ n ≤ i.toNatClampNeg then none else some (am_wi w a i.toNatClampNeg x)
  | _ => none
def am_ag (a : Nat) (i : Int32) (w : am_w) : Option Nat := match w.2.1 a with
  | some (.inr (.object _, n)) => if i < 0 ∨ n ≤ i.toNatClampNeg then none else w.2.2.2 a i.toNatClampNeg
  | _ => none
def am_as9 (K : String) (ci a : Nat) (i : Int32) (b : Nat) (w : am_w) : Option am_w := match w.2.1 a, w.2.1 b with
  | some (.inr (.object K9, n)), some (.inl c) => if K9 = K ∧ c = ci ∧ ¬ (i < 0 ∨ n ≤ i.toNatClampNeg) then some (am_wr w a i.toNatClampNeg b) else none
  | _, _ => none
/-- a call upon the object at b -/
def am_ob {α : Type} (ci b : Nat) (w : am_w) (f : Option α) : Option α := match w.2.1 b with
  | some (.inl c) => if c = ci then f else none
  | _ => none
theorem am_ob_of {α : Type} {ci b : Nat} {w : am_w} {f : Option α} {q : α} (h : am_ob ci b w f = some q) : w.2.1 b = some (.inl ci) ∧ f = some q := by
  unfold am_ob at h
  split at h
  · rename_i c hc
    split at h
    · rename_i e; subst e; exact ⟨hc, h⟩
    · cases h
  · cases h
def am_sh (sh : am_S) (q : Nat) (e : Nat ⊕ (FieldType × Nat)) : am_S := fun x => if x = q then some e else sh x
def am_z {α : Type} (f : Nat → Nat → α) (q : Nat) (v : α) : Nat → Nat → α := fun x j => if x = q then v else f x j
/-- a new cell at the heap's end -/
def am_nw (e : Nat ⊕ (FieldType × Nat)) (w : am_w) : am_w := (w.1 + 1, am_sh w.2.1 w.1 e, am_z w.2.2.1 w.1 0, am_z w.2.2.2 w.1 none)
/-! a good step's grounds -/
theorem am_fg_of {ci k a : Nat} {w : am_w} {x : Int32} (h : am_fg ci k a w = some x) : w.2.1 a = some (.inl ci) ∧ x = w.2.2.1 a k := by
  unfold am_fg at h
  split at h
  · rename_i c hc
    split at h
    · rename_i e; subst e; cases h; exact ⟨hc, rfl⟩
    · cases h
  · cases h
theorem am_rg_of {ci k a b : Nat} {w : am_w} (h : am_rg ci k a w = some b) : w.2.1 a = some (.inl ci) ∧ w.2.2.2 a k = some b := by
  unfold am_rg at h
  split at h
  · rename_i c hc
    split at h
    · rename_i e; subst e; exact ⟨hc, h⟩
    · cases h
  · cases h
theorem am_fp_of {ci k a : Nat} {w w' : am_w} {x : Int32} (h : am_fp ci k a x w = some w') : w.2.1 a = some (.inl ci) ∧ w' = am_wi w a k x := by
  unfold am_fp at h
  split at h
  · rename_i c hc
    split at h
    · rename_i e; subst e; cases h; exact ⟨hc, rfl⟩
    · cases h
  · cases h
theorem am_rp_of {ci k a b : Nat} {w w' : am_w} (h : am_rp ci k a b w = some w') : w.2.1 a = some (.inl ci) ∧ w' = am_wr w a k b := by
  unfold am_rp at h
  split at h
  · rename_i c hc
    split at h
    · rename_i e; subst e; cases h; exact ⟨hc, rfl⟩
    · cases h
  · cases h
theorem am_al_of {a : Nat} {w : am_w} {x : Int32} (h : am_al a w = some x) : ∃ (t : FieldType) (n : Nat), w.2.1 a = some (.inr (t, n)) ∧ x = Int32.ofNat n := by
  unfold am_al at h
  split at h
  · rename_i t n hc; cases h; exact ⟨t, n, hc, rfl⟩
  · cases h
theorem am_ig_of {a : Nat} {i x : Int32} {w : am_w} (h : am_ig a i w = some x) : ∃ n : Nat, w.2.1 a = some (.inr (.int, n)) ∧ vp_in i n ∧ x = w.2.2.1 a i.toNatClampNeg := by
  unfold am_ig at h
  split at h
  · rename_i n hc
    split at h
    · cases h
    · rename_i e; cases h; exact ⟨n, hc, e, rfl⟩
  · cases h
theorem am_is_of {a : Nat} {i x : Int32} {w w' : am_w} (h : am_is a i x w = some w') : ∃ n : Nat, w.2.1 a = some (.inr (.int, n)) ∧ vp_in i n ∧ w' = am_wi w a i.toNatClampNeg x := by
  unfold am_is at h
  split at h
  · rename_i n hc
    split at h
    · cases h
    · rename_i e; cases h; exact ⟨n, hc, e, rfl⟩
  · cases h
theorem am_cg_of {a : Nat} {i x : Int32} {w : am_w} (h : am_cg a i w = some x) : ∃ n : Nat, w.2.1 a = some (.inr (.char, n)) ∧ vp_in i n ∧ x = w.2.2.1 a i.toNatClampNeg := by
  unfold am_cg at h
  split at h
  · rename_i n hc
    split at h
    · cases h
    · rename_i e; cases h; exact ⟨n, hc, e, rfl⟩
  · cases h
theorem am_cs_of {a : Nat} {i x : Int32} {w w' : am_w} (h : am_cs a i x w = some w') : ∃ n : Nat, w.2.1 a = some (.inr (.char, n)) ∧ vp_in i n ∧ w' = am_wi w a i.toNatClampNeg x.toUInt32.toUInt16.toUInt32.toInt32 := by
  unfold am_cs at h
  split at h
  · rename_i n hc
    split at h
    · cases h
    · rename_i e; cases h; exact ⟨n, hc, e, rfl⟩
  · cases h
theorem am_lg_of {a : Nat} {i x : Int32} {w : am_w} (h : am_lg a i w = some x) : ∃ n : Nat, w.2.1 a = some (.inr (.long, n)) ∧ vp_in i n ∧ x = w.2.2.1 a i.toNatClampNeg := by
  unfold am_lg at h
  split at h
  · rename_i n hc
    split at h
    · cases h
    · rename_i e; cases h; exact ⟨n, hc, e, rfl⟩
  · cases h
theorem am_lp_of {a : Nat} {i x : Int32} {w w' : am_w} (h : am_lp a i x w = some w') : ∃ n : Nat, w.2.1 a = some (.inr (.long, n)) ∧ vp_in i n ∧ w' = am_wi w a i.toNatClampNeg x := by
  unfold am_lp at h
  split at h
  · rename_i n hc
    split at h
    · cases h
    · rename_i e; cases h; exact ⟨n, hc, e, rfl⟩
  · cases h
theorem am_ag_of {a b : Nat} {i : Int32} {w : am_w} (h : am_ag a i w = some b) : ∃ (n : Nat) (K : String), w.2.1 a = some (.inr (.object K, n)) ∧ vp_in i n ∧ w.2.2.2 a i.toNatClampNeg = some b := by
  unfold am_ag at h
  split at h
  · rename_i K n hc
    split at h
    · cases h
    · rename_i e; exact ⟨n, K, hc, e, h⟩
  · cases h
theorem am_as9_of {K : String} {ci a b : Nat} {i : Int32} {w w' : am_w} (h : am_as9 K ci a i b w = some w') : ∃ n : Nat, w.2.1 a = some (.inr (.object K, n)) ∧ w.2.1 b = some (.inl ci) ∧ vp_in i n ∧ w' = am_wr w a i.toNatClampNeg b := by
  unfold am_as9 at h
  split at h
  · rename_i K9 n c hc hb
    split at h
    · rename_i e; obtain ⟨e1, e2, e3⟩ := e; subst e1; subst e2; cases h; exact ⟨n, hc, hb, e3, rfl⟩
    · cases h
  · cases h
theorem am_bind {α β : Type} {o : Option α} {K : α → Option β} {r : β} (h : o.bind K = some r) : ∃ x, o = some x ∧ K x = some r := by
  cases o with
  | none => cases h
  | some x => exact ⟨x, rfl, h⟩
/-! what else every contract stands on: words that are no plain words of the tables; the statics that a throw reads -/
def am_Zw : List Cond := lw_tbl.filter Cond.tabsOnly
def am_Z (U : State) : Prop := va_AO "RoverMinutes$Activity" U ∧ va_Nw (.methodLinkNest "RoverMinutes$Plan" 15 ⟨"RoverMinutes$Activity", "<init>", "()V"⟩ "RoverMinutes") U ∧ ∀ w ∈ am_Zw, w.before #[] U = true
theorem am_Z.warm {s U : State} (hZ : am_Z s) (hW : s.WarmedH U.vm) : am_Z U :=
  ⟨va_AO.moved hW.alike hZ.1, va_Nw.warmM hW hZ.2.1, fun w h => Cond.tabsOnly_warm (args := #[]) (args' := #[]) (s := s) (T := U) hW w (List.mem_filter.mp h).2 (hZ.2.2 w h)⟩
theorem am_Z.same {u U : State} (h : u.vm = U.vm) (hZ : am_Z u) : am_Z U := hZ.warm (by rw [← h]; exact State.WarmedH.refl u)
def am_Y (A : Nat → Prop) (U : State) (H : Heap) : Prop := va_Zq "java/lang/Throwable" "UNASSIGNED_STACK" "[Ljava/lang/StackTraceElement;" A U H ∧ va_Zq "java/lang/Throwable" "SUPPRESSED_SENTINEL" "Ljava/util/List;" A U H
theorem am_Y.moved {A : Nat → Prop} {u U : State} {H : Heap} (h : am_Y A u H) (hvm : u.vm.Alike U.vm) : am_Y A U H := ⟨h.1.moved hvm, h.2.moved hvm⟩
theorem am_Y.kept {A : Nat → Prop} {U : State} {H H1 : Heap} (h : am_Y A U H) (hq : ∀ a : Nat, a < H.size → ¬ A a → H1[a]? = H[a]?) : am_Y A U H1 := ⟨h.1.kept hq, h.2.kept hq⟩
/-- what may have been written: nothing, or the world's zone -/
def am_F (A : Nat → Prop) (u : Bool) : Nat → Prop := fun q => u = true ∧ A q
/-! turns by fuel -/
def am_it {τ : Type} (b : τ) (F : τ → τ) : Nat → τ
  | 0 => b
  | n + 1 => F (am_it b F n)
theorem am_it_ind {τ : Type} {b : τ} {F : τ → τ} {P : τ → Prop} (h0 : P b) (h1 : ∀ t, P t → P (F t)) : ∀ n, P (am_it b F n)
  | 0 => h0
  | n + 1 => h1 _ (am_it_ind h0 h1 n)
theorem am_nn {α : Type} {r : α} (h : (none : Option α) = some r) : False := by cases h
def am_let {α β : Type} (x : α) (k : α → β) : β := k x
theorem am_let_of {α β : Type} {x : α} {k : α → Option β} {r : β} (h : am_let x k = some r) : ∃ y, y = x ∧ k y = some r := ⟨x, rfl, h⟩
theorem am_le_0 {b : List (Option Value)} : am_le [] b := trivial
theorem am_le_s {v : Value} {a b : List (Option Value)} (h : am_le a b) : am_le (some v :: a) (some v :: b) := ⟨rfl, h⟩
theorem am_le_n {x : Option Value} {a b : List (Option Value)} (h : am_le a b) : am_le (none :: a) (x :: b) := h
end
section
/-- what is fixed in a method's walk -/
def am_C (p : Program) (m : MethodId) (c : Code) (cc : ByteArray) (nL : Nat) (s : State) (args : Array Value) (Ts : List Cond) (own : String) (D : va_G) (cl : List vw_C) (A : Nat → Prop) : Prop := CallFix p m c cc nL s args Ts own ∧ va_K D cl [] s ∧ (∀ q, s.heap.size ≤ q → A q) ∧ (∀ w ∈ Ts, goodWord w = true) ∧ am_Z s ∧ am_Y A s s.heap
/-- the walk at pc: from every heap that holds the world, with these locals; A: where the world lies, F: what may have been written -/
def am_V (p : Program) (l : Launch) (e : Env) (R : Room) (s : State) (m : MethodId) (args : Array Value) (below : List Frame) (meth : Method) (c : Code) (D : va_G) (cl : List vw_C) (ty : Nat → Nat → FieldType) (A F : Nat → Prop) (nL cells slots : Nat) (Q : State → Prop) (pc : Nat) (lo : List (Option Value)) (st : List Value) (w : am_w) : Prop :=
  ∀ (H : Heap) (locs : List Loc) (ls : Array Slot), am_rep D cl ty A s w H → va_S F s.heap H locs → am_ls ls nL lo → W p l e R s m args below meth c H locs cells slots Q (F0 m pc ls st)
section AMV
variable {p : Program} {l : Launch} {e : Env} {R : Room} {s : State} {m : MethodId} {args : Array Value} {below : List Frame} {meth : Method} {c : Code} {cells slots : Nat} {Q : State → Prop}
variable {cc : ByteArray} {own : String} {Ts : List Cond} {nL : Nat} {D : va_G} {cl : List vw_C} {ty : Nat → Nat → FieldType} {A F : Nat → Prop}
variable {pc : Nat} {lo : List (Option Value)} {st : List Value} {w : am_w}
theorem am_sub {lo1 : List (Option Value)} (hs : am_le lo1 lo) (k : am_V p l e R s m args below meth c D cl ty A F nL cells slots Q pc lo1 st w) : am_V p l e R s m args below meth c D cl ty A F nL cells slots Q pc lo st w := fun H locs ls hR hS hL => k H locs ls hR hS (hL.sub (fun i v h => am_le_at _ _ i v hs h))
theorem am_iconst (C : am_C p m c cc nL s args Ts own D cl A) {n : Int} {v : Int32} (hdg : decode cc pc = .ok (.iconst n, 1)) (hv : Int32.ofInt n = v) (k : am_V p l e R s m args below meth c D cl ty A F nL cells slots Q (pc + 1) lo (.int v :: st) w) : am_V p l e R s m args below meth c D cl ty A F nL cells slots Q pc lo st w := fun H locs ls hR hS hL => lv_iconst C.1.1 C.1.2.1 hdg hv (k H locs ls hR hS hL)
theorem am_bipush (C : am_C p m c cc nL s args Ts own D cl A) {n : Int} {v : Int32} (hdg : decode cc pc = .ok (.bipush n, 2)) (hv : (Int8.ofInt n).toInt32 = v) (k : am_V p l e R s m args below meth c D cl ty A F nL cells slots Q (pc + 2) lo (.int v :: st) w) : am_V p l e R s m args below meth c D cl ty A F nL cells slots Q pc lo st w := fun H locs ls hR hS hL => lv_bipush C.1.1 C.1.2.1 hdg hv (k H locs ls hR hS hL)
theorem am_sipush (C : am_C p m c cc nL s args Ts own D cl A) {n : Int} {v : Int32} (hdg : decode cc pc = .ok (.sipush n, 3)) (hv : (Int16.ofInt n).toInt32 = v) (k : am_V p l e R s m args below meth c D cl ty A F nL cells slots Q (pc + 3) lo (.int v :: st) w) : am_V p l e R s m args below meth c D cl ty A F nL cells slots Q pc lo st w := fun H locs ls hR hS hL => lv_sipush C.1.1 C.1.2.1 hdg hv (k H locs ls hR hS hL)
theorem am_lconst (C : am_C p m c cc nL s args Ts own D cl A) {n : Fin 2} {v : Int64} (hdg : decode cc pc = .ok (.lconst n, 1)) (hv : Int64.ofNat (n : Nat) = v) (k : am_V p l e R s m args below meth c D cl ty A F nL cells slots Q (pc + 1) lo (.long v :: st) w) : am_V p l e R s m args below meth c D cl ty A F nL cells slots Q pc lo st w := fun H locs ls hR hS hL => lv_lconst C.1.1 C.1.2.1 hdg hv (k H locs ls hR hS hL)
theorem am_i2l (C : am_C p m c cc nL s args Ts own D cl A) {x : Int32} {v : Int64} (hdg : decode cc pc = .ok (.i2l, 1)) (hv : x.toInt64 = v) (k : am_V p l e R s m args below meth c D cl ty A F nL cells slots Q (pc + 1) lo (.long v :: st) w) : am_V p l e R s m args below meth c D cl ty A F nL cells slots Q pc lo (.int x :: st) w := fun H locs ls hR hS hL => lv_i2l C.1.1 C.1.2.1 hdg hv (k H locs ls hR hS hL)
theorem am_lcmp (C : am_C p m c cc nL s args Ts own D cl A) {x y : Int64} (hdg : decode cc pc = .ok (.lcmp, 1)) (k : am_V p l e R s m args below meth c D cl ty A F nL cells slots Q (pc + 1) lo (.int (lg_cmp x y) :: st) w) : am_V p l e R s m args below meth c D cl ty A F nL cells slots Q pc lo (.long y :: .long x :: st) w := fun H locs ls hR hS hL => W.lcmp C.1.1 C.1.2.1 hdg (k H locs ls hR hS hL)
theorem am_iload_n (C : am_C p m c cc nL s args Ts own D cl A) {k9 : Fin 4} {i : Nat} {x : Int32} (hdg : decode cc pc = .ok (.iload_n k9, 1)) (hi9 : (k9 : Nat) = i) (hl : lo[i]? = some (some (.int x))) (k : am_V p l e R s m args below meth c D cl ty A F nL cells slots Q (pc + 1) lo (.int x :: st) w) : am_V p l e R s m args below meth c D cl ty A F nL cells slots Q pc lo st w := fun H locs ls hR hS hL => lv_iload_n C.1.1 C.1.2.1 hdg hi9 (hL.at hl) (k H locs ls hR hS hL)
theorem am_iload (C : am_C p m c cc nL s args Ts own D cl A) {i : Nat} {x : Int32} (hdg : decode cc pc = .ok (.iload i, 2)) (hl : lo[i]? = some (some (.int x))) (k : am_V p l e R s m args below meth c D cl ty A F nL cells slots Q (pc + 2) lo (.int x :: st) w) : am_V p l e R s m args below meth c D cl ty A F nL cells slots Q pc lo st w := fun H locs ls hR hS hL => lv_iload C.1.1 C.1.2.1 hdg (hL.at hl) (k H locs ls hR hS hL)
theorem am_istore_n (C : am_C p m c cc nL s args Ts own D cl A) {k9 : Fin 4} {i : Nat} {x : Int32} (hdg : decode cc pc = .ok (.istore_n k9, 1)) (hi9 : (k9 : Nat) = i) (hn : i < nL) {lo1 : List (Option Value)} (hlo : lo.set i (some (.int x)) = lo1) (k : am_V p l e R s m args below meth c D cl ty A F nL cells slots Q (pc + 1) lo1 st w) : am_V p l e R s m args below meth c D cl ty A F nL cells slots Q pc lo (.int x :: st) w := fun H locs ls hR hS hL => lv_istore_n C.1.1 C.1.2.1 hdg hi9 hL.1 hn rfl (fun ls' h' => k H locs ls' hR hS (hlo ▸ hL.put rfl h'))
theorem am_istore (C : am_C p m c cc nL s args Ts own D cl A) {i : Nat} {x : Int32} (hdg : decode cc pc = .ok (.istore i, 2)) (hn : i < nL) {lo1 : List (Option Value)} (hlo : lo.set i (some (.int x)) = lo1) (k : am_V p l e R s m args below meth c D cl ty A F nL cells slots Q (pc + 2) lo1 st w) : am_V p l e R s m args below meth c D cl ty A F nL cells slots Q pc lo (.int x :: st) w := fun H locs ls hR hS hL => lv_istore C.1.1 C.1.2.1 hdg hL.1 hn rfl (fun ls' h' => k H locs ls' hR hS (hlo ▸ hL.put rfl h'))
theorem am_aload_n (C : am_C p m c cc nL s args Ts own D cl A) {k9 : Fin 4} {i : Nat} {x : Nat} (hdg : decode cc pc = .ok (.aload_n k9, 1)) (hi9 : (k9 : Nat) = i) (hl : lo[i]? = some (some (.ref x))) (k : am_V p l e R s m args below meth c D cl ty A F nL cells slots Q (pc + 1) lo (.ref x :: st) w) : am_V p l e R s m args below meth c D cl ty A F nL cells slots Q pc lo st w := fun H locs ls hR hS hL => lv_aload_n C.1.1 C.1.2.1 hdg hi9 (hL.at hl) (k H locs ls hR hS hL)
theorem am_aload (C : am_C p m c cc nL s args Ts own D cl A) {i : Nat} {x : Nat} (hdg : decode cc pc = .ok (.aload i, 2)) (hl : lo[i]? = some (some (.ref x))) (k : am_V p l e R s m args below meth c D cl ty A F nL cells slots Q (pc + 2) lo (.ref x :: st) w) : am_V p l e R s m args below meth c D cl ty A F nL cells slots Q pc lo st w := fun H locs ls hR hS hL => lv_aload C.1.1 C.1.2.1 hdg (hL.at hl) (k H locs ls hR hS hL)
theorem am_astore_n (C : am_C p m c cc nL s args Ts own D cl A) {k9 : Fin 4} {i : Nat} {x : Nat} (hdg : decode cc pc = .ok (.astore_n k9, 1)) (hi9 : (k9 : Nat) = i) (hn : i < nL) {lo1 : List (Option Value)} (hlo : lo.set i (some (.ref x)) = lo1) (k : am_V p l e R s m args below meth c D cl ty A F nL cells slots Q (pc + 1) lo1 st w) : am_V p l e R s m args below meth c D cl ty A F nL cells slots Q pc lo (.ref x :: st) w := fun H locs ls hR hS hL => lv_astore_n C.1.1 C.1.2.1 hdg hi9 hL.1 hn rfl (fun ls' h' => k H locs ls' hR hS (hlo ▸ hL.put rfl h'))
theorem am_astore (C : am_C p m c cc nL s args Ts own D cl A) {i : Nat} {x : Nat} (hdg : decode cc pc = .ok (.astore i, 2)) (hn : i < nL) {lo1 : List (Option Value)} (hlo : lo.set i (some (.ref x)) = lo1) (k : am_V p l e R s m args below meth c D cl ty A F nL cells slots Q (pc + 2) lo1 st w) : am_V p l e R s m args below meth c D cl ty A F nL cells slots Q pc lo (.ref x :: st) w := fun H locs ls hR hS hL => lv_astore C.1.1 C.1.2.1 hdg hL.1 hn rfl (fun ls' h' => k H locs ls' hR hS (hlo ▸ hL.put rfl h'))
theorem am_iinc (C : am_C p m c cc nL s args Ts own D cl A) {i : Nat} {n : Int} {x y : Int32} (hdg : decode cc pc = .ok (.iinc i n, 3)) (hl : lo[i]? = some (some (.int x))) (hv : Int32.ofInt n = y) (hn : i < nL) {lo1 : List (Option Value)} (hlo : lo.set i (some (.int (x + y))) = lo1) (k : am_V p l e R s m args below meth c D cl ty A F nL cells slots Q (pc + 3) lo1 st w) : am_V p l e R s m args below meth c D cl ty A F nL cells slots Q pc lo st w := by
  intro H locs ls hR hS hL
  obtain ⟨kk, hk⟩ := List.getElem?_of_mem (am_as_mem (q := (i, Value.int x)).mpr hl)
  exact lv_iinc (k := kk) C.1.1 C.1.2.1 hdg hL.1 hk (congrArg (x + ·) hv) hn rfl (fun ls' h' => k H locs ls' hR hS (hlo ▸ hL.put rfl h'))
theorem am_iadd (C : am_C p m c cc nL s args Ts own D cl A) {x y : Int32} (hdg : decode cc pc = .ok (.iadd, 1)) (k : am_V p l e R s m args below meth c D cl ty A F nL cells slots Q (pc + 1) lo (.int (x + y) :: st) w) : am_V p l e R s m args below meth c D cl ty A F nL cells slots Q pc lo (.int y :: .int x :: st) w := fun H locs ls hR hS hL => lv_iadd C.1.1 C.1.2.1 hdg (k H locs ls hR hS hL)
theorem am_isub (C : am_C p m c cc nL s args Ts own D cl A) {x y : Int32} (hdg : decode cc pc = .ok (.isub, 1)) (k : am_V p l e R s m args below meth c D cl ty A F nL cells slots Q (pc + 1) lo (.int (x - y) :: st) w) : am_V p l e R s m args below meth c D cl ty A F nL cells slots Q pc lo (.int y :: .int x :: st) w := fun H locs ls hR hS hL => lv_isub C.1.1 C.1.2.1 hdg (k H locs ls hR hS hL)
theorem am_imul (C : am_C p m c cc nL s args Ts own D cl A) {x y : Int32} (hdg : decode cc pc = .ok (.imul, 1)) (k : am_V p l e R s m args below meth c D cl ty A F nL cells slots Q (pc + 1) lo (.int (x * y) :: st) w) : am_V p l e R s m args below meth c D cl ty A F nL cells slots Q pc lo (.int y :: .int x :: st) w := fun H locs ls hR hS hL => lv_imul C.1.1 C.1.2.1 hdg (k H locs ls hR hS hL)
theorem am_iand (C : am_C p m c cc nL s args Ts own D cl A) {x y : Int32} (hdg : decode cc pc = .ok (.iand, 1)) (k : am_V p l e R s m args below meth c D cl ty A F nL cells slots Q (pc + 1) lo (.int (x &&& y) :: st) w) : am_V p l e R s m args below meth c D cl ty A F nL cells slots Q pc lo (.int y :: .int x :: st) w := fun H locs ls hR hS hL => lv_iand C.1.1 C.1.2.1 hdg (k H locs ls hR hS hL)
theorem am_ior (C : am_C p m c cc nL s args Ts own D cl A) {x y : Int32} (hdg : decode cc pc = .ok (.ior, 1)) (k : am_V p l e R s m args below meth c D cl ty A F nL cells slots Q (pc + 1) lo (.int (x ||| y) :: st) w) : am_V p l e R s m args below meth c D cl ty A F nL cells slots Q pc lo (.int y :: .int x :: st) w := fun H locs ls hR hS hL => lv_ior C.1.1 C.1.2.1 hdg (k H locs ls hR hS hL)
theorem am_ixor (C : am_C p m c cc nL s args Ts own D cl A) {x y : Int32} (hdg : decode cc pc = .ok (.ixor, 1)) (k : am_V p l e R s m args below meth c D cl ty A F nL cells slots Q (pc + 1) lo (.int (x ^^^ y) :: st) w) : am_V p l e R s m args below meth c D cl ty A F nL cells slots Q pc lo (.int y :: .int x :: st) w := fun H locs ls hR hS hL => lv_ixor C.1.1 C.1.2.1 hdg (k H locs ls hR hS hL)
theorem am_ishl (C : am_C p m c cc nL s args Ts own D cl A) {x y : Int32} (hdg : decode cc pc = .ok (.ishl, 1)) (k : am_V p l e R s m args below meth c D cl ty A F nL cells slots Q (pc + 1) lo (.int (x <<< (y &&& 31)) :: st) w) : am_V p l e R s m args below meth c D cl ty A F nL cells slots Q pc lo (.int y :: .int x :: st) w := fun H locs ls hR hS hL => lv_ishl C.1.1 C.1.2.1 hdg (k H locs ls hR hS hL)
theorem am_ishr (C : am_C p m c cc nL s args Ts own D cl A) {x y : Int32} (hdg : decode cc pc = .ok (.ishr, 1)) (k : am_V p l e R s m args below meth c D cl ty A F nL cells slots Q (pc + 1) lo (.int (x >>> (y &&& 31)) :: st) w) : am_V p l e R s m args below meth c D cl ty A F nL cells slots Q pc lo (.int y :: .int x :: st) w := fun H locs ls hR hS hL => lv_ishr C.1.1 C.1.2.1 hdg (k H locs ls hR hS hL)
theorem am_idiv (C : am_C p m c cc nL s args Ts own D cl A) {x y : Int32} (hdg : decode cc pc = .ok (.idiv, 1)) (hne : ¬ y = 0) (k : am_V p l e R s m args below meth c D cl ty A F nL cells slots Q (pc + 1) lo (.int (x / y) :: st) w) : am_V p l e R s m args below meth c D cl ty A F nL cells slots Q pc lo (.int y :: .int x :: st) w := fun H locs ls hR hS hL => lv_idiv C.1.1 C.1.2.1 hdg hne (k H locs ls hR hS hL)
theorem am_irem (C : am_C p m c cc nL s args Ts own D cl A) {x y : Int32} (hdg : decode cc pc = .ok (.irem, 1)) (hne : ¬ y = 0) (k : am_V p l e R s m args below meth c D cl ty A F nL cells slots Q (pc + 1) lo (.int (x - x / y * y) :: st) w) : am_V p l e R s m args below meth c D cl ty A F nL cells slots Q pc lo (.int y :: .int x :: st) w := fun H locs ls hR hS hL => lv_irem C.1.1 C.1.2.1 hdg hne (k H locs ls hR hS hL)
theorem am_iremc (C : am_C p m c cc nL s args Ts own D cl A) {x y : Int32} {β : Type} {X : Option β} {r : β} (hdg : decode cc pc = .ok (.irem, 1)) (hX : (if y = 0 then none else X) = some r) (k : X = some r → am_V p l e R s m args below meth c D cl ty A F nL cells slots Q (pc + 1) lo (.int (x - x / y * y) :: st) w) : am_V p l e R s m args below meth c D cl ty A F nL cells slots Q pc lo (.int y :: .int x :: st) w := by
  by_cases h : y = 0
  · rw [if_pos h] at hX
    cases hX
  · exact am_irem C hdg h (k ((if_neg h).symm.trans hX))
theorem am_iushr (C : am_C p m c cc nL s args Ts own D cl A) {x y v : Int32} (hdg : decode cc pc = .ok (.iushr, 1)) (hv : (x.toUInt32 >>> (y.toUInt32 &&& Int32.toUInt32 31)).toInt32 = v) (k : am_V p l e R s m args below meth c D cl ty A F nL cells slots Q (pc + 1) lo (.int v :: st) w) : am_V p l e R s m args below meth c D cl ty A F nL cells slots Q pc lo (.int y :: .int x :: st) w := fun H locs ls hR hS hL => lv_iushr C.1.1 C.1.2.1 hdg hv (k H locs ls hR hS hL)
theorem am_ineg (C : am_C p m c cc nL s args Ts own D cl A) {x : Int32} (hdg : decode cc pc = .ok (.ineg, 1)) (k : am_V p l e R s m args below meth c D cl ty A F nL cells slots Q (pc + 1) lo (.int (-x) :: st) w) : am_V p l e R s m args below meth c D cl ty A F nL cells slots Q pc lo (.int x :: st) w := fun H locs ls hR hS hL => lv_ineg C.1.1 C.1.2.1 hdg (k H locs ls hR hS hL)
theorem am_i2c (C : am_C p m c cc nL s args Ts own D cl A) {x v : Int32} (hdg : decode cc pc = .ok (.i2c, 1)) (hv : (x.toUInt32 % 65536).toInt32 = v) (k : am_V p l e R s m args below meth c D cl ty A F nL cells slots Q (pc + 1) lo (.int v :: st) w) : am_V p l e R s m args below meth c D cl ty A F nL cells slots Q pc lo (.int x :: st) w := fun H locs ls hR hS hL => lv_i2c C.1.1 C.1.2.1 hdg hv (k H locs ls hR hS hL)
theorem am_dup (C : am_C p m c cc nL s args Ts own D cl A) {va : Value} (hdg : decode cc pc = .ok (.dup, 1)) (hva : va.category = 1) (k : am_V p l e R s m args below meth c D cl ty A F nL cells slots Q (pc + 1) lo (va :: va :: st) w) : am_V p l e R s m args below meth c D cl ty A F nL cells slots Q pc lo (va :: st) w := fun H locs ls hR hS hL => lv_dup C.1.1 C.1.2.1 hdg hva (k H locs ls hR hS hL)
theorem am_pop (C : am_C p m c cc nL s args Ts own D cl A) {va : Value} (hdg : decode cc pc = .ok (.pop, 1)) (hva : va.category = 1) (k : am_V p l e R s m args below meth c D cl ty A F nL cells slots Q (pc + 1) lo st w) : am_V p l e R s m args below meth c D cl ty A F nL cells slots Q pc lo (va :: st) w := fun H locs ls hR hS hL => lv_pop C.1.1 C.1.2.1 hdg hva (k H locs ls hR hS hL)
theorem am_dup_x1 (C : am_C p m c cc nL s args Ts own D cl A) {va vb : Value} (hdg : decode cc pc = .ok (.dup_x1, 1)) (hva : va.category = 1) (hvb : vb.category = 1) (k : am_V p l e R s m args below meth c D cl ty A F nL cells slots Q (pc + 1) lo (va :: vb :: va :: st) w) : am_V p l e R s m args below meth c D cl ty A F nL cells slots Q pc lo (va :: vb :: st) w := fun H locs ls hR hS hL => lv_dup_x1 C.1.1 C.1.2.1 hdg hva hvb (k H locs ls hR hS hL)
theorem am_dup2 (C : am_C p m c cc nL s args Ts own D cl A) {va vb : Value} (hdg : decode cc pc = .ok (.dup2, 1)) (hva : va.category = 1) (hvb : vb.category = 1) (k : am_V p l e R s m args below meth c D cl ty A F nL cells slots Q (pc + 1) lo (va :: vb :: va :: vb :: st) w) : am_V p l e R s m args below meth c D cl ty A F nL cells slots Q pc lo (va :: vb :: st) w := fun H locs ls hR hS hL => lv_dup2_11 C.1.1 C.1.2.1 hdg hva hvb (k H locs ls hR hS hL)
theorem am_if_eq (C : am_C p m c cc nL s args Ts own D cl A) {x : Int32} {off : Int} {tgt : Nat} {α : Type} {X1 X2 r : α} (hdg : decode cc pc = .ok (.ifCond .eq off, 3)) (ht : (pc : Int) + off = (tgt : Int)) (hX : (if x = 0 then X1 else X2) = r) (kt : X1 = r → am_V p l e R s m args below meth c D cl ty A F nL cells slots Q tgt lo st w) (kf : X2 = r → am_V p l e R s m args below meth c D cl ty A F nL cells slots Q (pc + 3) lo st w) : am_V p l e R s m args below meth c D cl ty A F nL cells slots Q pc lo (.int x :: st) w := fun H locs ls hR hS hL => lv_if_eq C.1.1 C.1.2.1 hdg ht (fun h => kt ((if_pos h).symm.trans hX) H locs ls hR hS hL) (fun h => kf ((if_neg h).symm.trans hX) H locs ls hR hS hL)
theorem am_icmp_eq (C : am_C p m c cc nL s args Ts own D cl A) {x y : Int32} {off : Int} {tgt : Nat} {α : Type} {X1 X2 r : α} (hdg : decode cc pc = .ok (.if_icmp .eq off, 3)) (ht : (pc : Int) + off = (tgt : Int)) (hX : (if x = y then X1 else X2) = r) (kt : X1 = r → am_V p l e R s m args below meth c D cl ty A F nL cells slots Q tgt lo st w) (kf : X2 = r → am_V p l e R s m args below meth c D cl ty A F nL cells slots Q (pc + 3) lo st w) : am_V p l e R s m args below meth c D cl ty A F nL cells slots Q pc lo (.int y :: .int x :: st) w := fun H locs ls hR hS hL => lv_icmp_eq C.1.1 C.1.2.1 hdg ht (fun h => kt ((if_pos h).symm.trans hX) H locs ls hR hS hL) (fun h => kf ((if_neg h).symm.trans hX) H locs ls hR hS hL)
theorem am_if_ne (C : am_C p m c cc nL s args Ts own D cl A) {x : Int32} {off : Int} {tgt : Nat} {α : Type} {X1 X2 r : α} (hdg : decode cc pc = .ok (.ifCond .ne off, 3)) (ht : (pc : Int) + off = (tgt : Int)) (hX : (if x = 0 then X1 else X2) = r) (kt : X2 = r → am_V p l e R s m args below meth c D cl ty A F nL cells slots Q tgt lo st w) (kf : X1 = r → am_V p l e R s m args below meth c D cl ty A F nL cells slots Q (pc + 3) lo st w) : am_V p l e R s m args below meth c D cl ty A F nL cells slots Q pc lo (.int x :: st) w := fun H locs ls hR hS hL => lv_if_ne C.1.1 C.1.2.1 hdg ht (fun h => kt ((if_neg h).symm.trans hX) H locs ls hR hS hL) (fun h => kf ((if_pos h).symm.trans hX) H locs ls hR hS hL)
theorem am_icmp_ne (C : am_C p m c cc nL s args Ts own D cl A) {x y : Int32} {off : Int} {tgt : Nat} {α : Type} {X1 X2 r : α} (hdg : decode cc pc = .ok (.if_icmp .ne off, 3)) (ht : (pc : Int) + off = (tgt : Int)) (hX : (if x = y then X1 else X2) = r) (kt : X2 = r → am_V p l e R s m args below meth c D cl ty A F nL cells slots Q tgt lo st w) (kf : X1 = r → am_V p l e R s m args below meth c D cl ty A F nL cells slots Q (pc + 3) lo st w) : am_V p l e R s m args below meth c D cl ty A F nL cells slots Q pc lo (.int y :: .int x :: st) w := fun H locs ls hR hS hL => lv_icmp_ne C.1.1 C.1.2.1 hdg ht (fun h => kt ((if_neg h).symm.trans hX) H locs ls hR hS hL) (fun h => kf ((if_pos h).symm.trans hX) H locs ls hR hS hL)
theorem am_if_lt (C : am_C p m c cc nL s args Ts own D cl A) {x : Int32} {off : Int} {tgt : Nat} {α : Type} {X1 X2 r : α} (hdg : decode cc pc = .ok (.ifCond .lt off, 3)) (ht : (pc : Int) + off = (tgt : Int)) (hX : (if x < 0 then X1 else X2) = r) (kt : X1 = r → am_V p l e R s m args below meth c D cl ty A F nL cells slots Q tgt lo st w) (kf : X2 = r → am_V p l e R s m args below meth c D cl ty A F nL cells slots Q (pc + 3) lo st w) : am_V p l e R s m args below meth c D cl ty A F nL cells slots Q pc lo (.int x :: st) w := fun H locs ls hR hS hL => lv_if_lt C.1.1 C.1.2.1 hdg ht (fun h => kt ((if_pos h).symm.trans hX) H locs ls hR hS hL) (fun h => kf ((if_neg h).symm.trans hX) H locs ls hR hS hL)
theorem am_icmp_lt (C : am_C p m c cc nL s args Ts own D cl A) {x y : Int32} {off : Int} {tgt : Nat} {α : Type} {X1 X2 r : α} (hdg : decode cc pc = .ok (.if_icmp .lt off, 3)) (ht : (pc : Int) + off = (tgt : Int)) (hX : (if x < y then X1 else X2) = r) (kt : X1 = r → am_V p l e R s m args below meth c D cl ty A F nL cells slots Q tgt lo st w) (kf : X2 = r → am_V p l e R s m args below meth c D cl ty A F nL cells slots Q (pc + 3) lo st w) : am_V p l e R s m args below meth c D cl ty A F nL cells slots Q pc lo (.int y :: .int x :: st) w := fun H locs ls hR hS hL => lv_icmp_lt C.1.1 C.1.2.1 hdg ht (fun h => kt ((if_pos h).symm.trans hX) H locs ls hR hS hL) (fun h => kf ((if_neg h).symm.trans hX) H locs ls hR hS hL)
theorem am_if_ge (C : am_C p m c cc nL s args Ts own D cl A) {x : Int32} {off : Int} {tgt : Nat} {α : Type} {X1 X2 r : α} (hdg : decode cc pc = .ok (.ifCond .ge off, 3)) (ht : (pc : Int) + off = (tgt : Int)) (hX : (if 0 ≤ x then X1 else X2) = r) (kt : X1 = r → am_V p l e R s m args below meth c D cl ty A F nL cells slots Q tgt lo st w) (kf : X2 = r → am_V p l e R s m args below meth c D cl ty A F nL cells slots Q (pc + 3) lo st w) : am_V p l e R s m args below meth c D cl ty A F nL cells slots Q pc lo (.int x :: st) w := fun H locs ls hR hS hL => lv_if_ge C.1.1 C.1.2.1 hdg ht (fun h => kt ((if_pos h).symm.trans hX) H locs ls hR hS hL) (fun h => kf ((if_neg h).symm.trans hX) H locs ls hR hS hL)
theorem am_icmp_ge (C : am_C p m c cc nL s args Ts own D cl A) {x y : Int32} {off : Int} {tgt : Nat} {α : Type} {X1 X2 r : α} (hdg : decode cc pc = .ok (.if_icmp .ge off, 3)) (ht : (pc : Int) + off = (tgt : Int)) (hX : (if y ≤ x then X1 else X2) = r) (kt : X1 = r → am_V p l e R s m args below meth c D cl ty A F nL cells slots Q tgt lo st w) (kf : X2 = r → am_V p l e R s m args below meth c D cl ty A F nL cells slots Q (pc + 3) lo st w) : am_V p l e R s m args below meth c D cl ty A F nL cells slots Q pc lo (.int y :: .int x :: st) w := fun H locs ls hR hS hL => lv_icmp_ge C.1.1 C.1.2.1 hdg ht (fun h => kt ((if_pos h).symm.trans hX) H locs ls hR hS hL) (fun h => kf ((if_neg h).symm.trans hX) H locs ls hR hS hL)
theorem am_if_gt (C : am_C p m c cc nL s args Ts own D cl A) {x : Int32} {off : Int} {tgt : Nat} {α : Type} {X1 X2 r : α} (hdg : decode cc pc = .ok (.ifCond .gt off, 3)) (ht : (pc : Int) + off = (tgt : Int)) (hX : (if 0 < x then X1 else X2) = r) (kt : X1 = r → am_V p l e R s m args below meth c D cl ty A F nL cells slots Q tgt lo st w) (kf : X2 = r → am_V p l e R s m args below meth c D cl ty A F nL cells slots Q (pc + 3) lo st w) : am_V p l e R s m args below meth c D cl ty A F nL cells slots Q pc lo (.int x :: st) w := fun H locs ls hR hS hL => lv_if_gt C.1.1 C.1.2.1 hdg ht (fun h => kt ((if_pos h).symm.trans hX) H locs ls hR hS hL) (fun h => kf ((if_neg h).symm.trans hX) H locs ls hR hS hL)
theorem am_icmp_gt (C : am_C p m c cc nL s args Ts own D cl A) {x y : Int32} {off : Int} {tgt : Nat} {α : Type} {X1 X2 r : α} (hdg : decode cc pc = .ok (.if_icmp .gt off, 3)) (ht : (pc : Int) + off = (tgt : Int)) (hX : (if y < x then X1 else X2) = r) (kt : X1 = r → am_V p l e R s m args below meth c D cl ty A F nL cells slots Q tgt lo st w) (kf : X2 = r → am_V p l e R s m args below meth c D cl ty A F nL cells slots Q (pc + 3) lo st w) : am_V p l e R s m args below meth c D cl ty A F nL cells slots Q pc lo (.int y :: .int x :: st) w := fun H locs ls hR hS hL => lv_icmp_gt C.1.1 C.1.2.1 hdg ht (fun h => kt ((if_pos h).symm.trans hX) H locs ls hR hS hL) (fun h => kf ((if_neg h).symm.trans hX) H locs ls hR hS hL)
theorem am_if_le (C : am_C p m c cc nL s args Ts own D cl A) {x : Int32} {off : Int} {tgt : Nat} {α : Type} {X1 X2 r : α} (hdg : decode cc pc = .ok (.ifCond .le off, 3)) (ht : (pc : Int) + off = (tgt : Int)) (hX : (if x ≤ 0 then X1 else X2) = r) (kt : X1 = r → am_V p l e R s m args below meth c D cl ty A F nL cells slots Q tgt lo st w) (kf : X2 = r → am_V p l e R s m args below meth c D cl ty A F nL cells slots Q (pc + 3) lo st w) : am_V p l e R s m args below meth c D cl ty A F nL cells slots Q pc lo (.int x :: st) w := fun H locs ls hR hS hL => lv_if_le C.1.1 C.1.2.1 hdg ht (fun h => kt ((if_pos h).symm.trans hX) H locs ls hR hS hL) (fun h => kf ((if_neg h).symm.trans hX) H locs ls hR hS hL)
theorem am_icmp_le (C : am_C p m c cc nL s args Ts own D cl A) {x y : Int32} {off : Int} {tgt : Nat} {α : Type} {X1 X2 r : α} (hdg : decode cc pc = .ok (.if_icmp .le off, 3)) (ht : (pc : Int) + off = (tgt : Int)) (hX : (if x ≤ y then X1 else X2) = r) (kt : X1 = r → am_V p l e R s m args below meth c D cl ty A F nL cells slots Q tgt lo st w) (kf : X2 = r → am_V p l e R s m args below meth c D cl ty A F nL cells slots Q (pc + 3) lo st w) : am_V p l e R s m args below meth c D cl ty A F nL cells slots Q pc lo (.int y :: .int x :: st) w := fun H locs ls hR hS hL => lv_icmp_le C.1.1 C.1.2.1 hdg ht (fun h => kt ((if_pos h).symm.trans hX) H locs ls hR hS hL) (fun h => kf ((if_neg h).symm.trans hX) H locs ls hR hS hL)
theorem am_goto (C : am_C p m c cc nL s args Ts own D cl A) {off : Int} {tgt : Nat} (hdg : decode cc pc = .ok (.goto off, 3)) (ht : (pc : Int) + off = (tgt : Int)) (k : am_V p l e R s m args below meth c D cl ty A F nL cells slots Q tgt lo st w) : am_V p l e R s m args below meth c D cl ty A F nL cells slots Q pc lo st w := fun H locs ls hR hS hL => lv_goto C.1.1 C.1.2.1 hdg ht (k H locs ls hR hS hL)
theorem am_tableOut (C : am_C p m c cc nL s args Ts own D cl A) {dflt lo9 hi9 : Int} {offs : Array Int} {len : Nat} {x : Int32} {tgt : Nat} (hdg : decode cc pc = .ok (.tableswitch dflt lo9 hi9 offs, len)) (h : x.toInt < lo9 ∨ hi9 < x.toInt) (ht : (pc : Int) + dflt = (tgt : Int)) (k : am_V p l e R s m args below meth c D cl ty A F nL cells slots Q tgt lo st w) : am_V p l e R s m args below meth c D cl ty A F nL cells slots Q pc lo (.int x :: st) w := fun H locs ls hR hS hL => lv_tableOut C.1.1 C.1.2.1 hdg h ht (k H locs ls hR hS hL)
theorem am_tableIn (C : am_C p m c cc nL s args Ts own D cl A) {dflt lo9 hi9 : Int} {offs : Array Int} {len : Nat} {x : Int32} {off : Int} {tgt : Nat} (hdg : decode cc pc = .ok (.tableswitch dflt lo9 hi9 offs, len)) (h1 : ¬ x.toInt < lo9) (h2 : ¬ hi9 < x.toInt) (ho : offs[(x.toInt - lo9).toNat]? = some off) (ht : (pc : Int) + off = (tgt : Int)) (k : am_V p l e R s m args below meth c D cl ty A F nL cells slots Q tgt lo st w) : am_V p l e R s m args below meth c D cl ty A F nL cells slots Q pc lo (.int x :: st) w := fun H locs ls hR hS hL => lv_tableIn C.1.1 C.1.2.1 hdg h1 h2 ho ht (k H locs ls hR hS hL)
theorem am_mmax (C : am_C p m c cc nL s args Ts own D cl A) {index : Nat} {x y : Int32} (hlink : Cond.methodLink own index Lib.Math.max.name ∈ Ts) (hstat : Cond.static Lib.Math.max.name ∈ Ts) (hini : Cond.initialized "java/lang/Math" ∈ Ts) (hcode : Cond.code Lib.Math.max.name Lib.Math.max.code 2 (some .int) ∈ Ts) (hframes : 1 ≤ R.frames) (hlocals : (st.map fun v => v.category).sum + 13 ≤ R.locals) (hc : cells ≤ R.cells) (hs : slots ≤ R.slots) (hdg : decode cc pc = .ok (.invokestatic index, 3)) (k : am_V p l e R s m args below meth c D cl ty A F nL cells slots Q (pc + 3) lo (.int (if x < y then y else x) :: st) w) : am_V p l e R s m args below meth c D cl ty A F nL cells slots Q pc lo (.int y :: .int x :: st) w := fun H locs ls hR hS hL => va_mmax C.1.1 C.1.2.1 (C.1.2.2.1.trans hL.1.1.symm) C.1.2.2.2.1 (C.1.2.2.2.2 _ hlink) (C.1.2.2.2.2 _ hstat) (C.1.2.2.2.2 _ hini) (C.1.2.2.2.2 _ hcode) hframes hlocals hc hs hdg (k H locs ls hR hS hL)
theorem am_mmin (C : am_C p m c cc nL s args Ts own D cl A) {index : Nat} {x y : Int32} (hlink : Cond.methodLink own index Lib.Math.min.name ∈ Ts) (hstat : Cond.static Lib.Math.min.name ∈ Ts) (hini : Cond.initialized "java/lang/Math" ∈ Ts) (hcode : Cond.code Lib.Math.min.name Lib.Math.min.code 2 (some .int) ∈ Ts) (hframes : 1 ≤ R.frames) (hlocals : (st.map fun v => v.category).sum + 13 ≤ R.locals) (hc : cells ≤ R.cells) (hs : slots ≤ R.slots) (hdg : decode cc pc = .ok (.invokestatic index, 3)) (k : am_V p l e R s m args below meth c D cl ty A F nL cells slots Q (pc + 3) lo (.int (if y < x then y else x) :: st) w) : am_V p l e R s m args below meth c D cl ty A F nL cells slots Q pc lo (.int y :: .int x :: st) w := fun H locs ls hR hS hL => va_mmin C.1.1 C.1.2.1 (C.1.2.2.1.trans hL.1.1.symm) C.1.2.2.2.1 (C.1.2.2.2.2 _ hlink) (C.1.2.2.2.2 _ hstat) (C.1.2.2.2.2 _ hini) (C.1.2.2.2.2 _ hcode) hframes hlocals hc hs hdg (k H locs ls hR hS hL)
end AMV
end
section
section AMH
variable {p : Program} {l : Launch} {e : Env} {R : Room} {s : State} {m : MethodId} {args : Array Value} {below : List Frame} {meth : Method} {c : Code} {cells slots : Nat} {Q : State → Prop}
variable {cc : ByteArray} {own : String} {Ts : List Cond} {nL : Nat} {D : va_G} {cl : List vw_C} {ty : Nat → Nat → FieldType} {A F : Nat → Prop}
variable {pc : Nat} {lo : List (Option Value)} {st : List Value} {w : am_w} {a : Nat} {β : Type} {r : β}
/-- a switch, case by case -/
theorem am_tsw (C : am_C p m c cc nL s args Ts own D cl A) {dflt lo9 hi9 : Int} {offs : Array Int} {len : Nat} {x k : Int32} {off : Int} {tgt : Nat} {X1 X2 : β} (hdg : decode cc pc = .ok (.tableswitch dflt lo9 hi9 offs, len)) (h1 : ¬ k.toInt < lo9) (h2 : ¬ hi9 < k.toInt) (ho : offs[(k.toInt - lo9).toNat]? = some off) (ht : (pc : Int) + off = (tgt : Int)) (hX : (if x = k then X1 else X2) = r) (kt : X1 = r → am_V p l e R s m args below meth c D cl ty A F nL cells slots Q tgt lo st w) (kf : ¬ x = k → X2 = r → am_V p l e R s m args below meth c D cl ty A F nL cells slots Q pc lo (.int x :: st) w) : am_V p l e R s m args below meth c D cl ty A F nL cells slots Q pc lo (.int x :: st) w := by
  by_cases h : x = k
  · subst h
    exact am_tableIn C hdg h1 h2 ho ht (kt ((if_pos rfl).symm.trans hX))
  · exact kf h ((if_neg h).symm.trans hX)
theorem am_ne {x : Int32} {k : Int} (h : ¬ x = Int32.ofInt k) (hk : (Int32.ofInt k).toInt = k) : x.toInt ≠ k := fun q => h (Int32.toInt_inj.mp (q.trans hk.symm))
theorem am_cell.obj {hi : am_I} {hr : am_R} {H : Heap} {ci : Nat} {K : String} {T : u_T} {N : Nat} (h : am_cell D cl ty s hi hr H a (.inl ci)) (hc : cl[ci]? = some (K, T, N)) : t_OB a (D.1 ci) N (D.2 ci) H (fun k => am_v (ty ci k) (hi a k) (hr a k)) := by
  obtain ⟨r, h1, h2⟩ := h
  have hr : r = (K, T, N) := Option.some.inj (h1.symm.trans hc)
  subst hr
  exact h2
/-- getfield, any type -/
theorem am_getv (C : am_C p m c cc nL s args Ts own D cl A) {ref K : String} {T : u_T} {N ci index : Nat} (hin : ∀ w ∈ u_ws K T N, w ∈ Ts) (hsh : w.2.1 a = some (.inl ci)) (hc : cl[ci]? = some (K, T, N)) (k : Nat) (hk : k < N) (hlink : Cond.fieldLink own index ref (T k).2.1 (T k).2.2.1 ∈ Ts) (href : (T k).1 = ref) (hdg : decode cc pc = .ok (.getfield index, 3)) {v : Value} (hv : am_v (ty ci k) (w.2.2.1 a k) (w.2.2.2 a k) = v)
    (kk : am_V p l e R s m args below meth c D cl ty A F nL cells slots Q (pc + 3) lo (v :: st) w) : am_V p l e R s m args below meth c D cl ty A F nL cells slots Q pc lo (.ref a :: st) w := by
  intro H locs ls hR hS hL
  obtain ⟨⟨hexec, hb, hml, hown, hts⟩, hK, -, -⟩ := C
  obtain ⟨cell, q1, q2, q3, q4⟩ := (hR.2 a _ hsh).2.obj hc
  obtain ⟨hS2, hfc, kC, hkC, hkind⟩ := hK.1 ci _ hc
  obtain ⟨cf, kf, fi, f, hi9, hsl⟩ := hS2 k hk
  have hi9' : s.fieldFound? ref (T k).2.1 (T k).2.2.1 = some (cf, kf, fi, f) := by rw [← href]; exact hi9
  refine W.getf hexec hb hown (hts _ hlink) hi9' (u_facts hfc hkC (u_lays hts hin hk) hi9).1 q1 (by rw [q3]; exact fun h => by cases h) (v := v) ?_ rfl rfl hdg (kk H locs ls hR hS hL)
  have hsl' : f.slot = D.2 ci k := hsl
  rw [hsl', q4 k hk]
  exact congrArg some hv
theorem am_get (C : am_C p m c cc nL s args Ts own D cl A) {ref K : String} {T : u_T} {N ci index k : Nat} (hin : ∀ w ∈ u_ws K T N, w ∈ Ts) (hc : cl[ci]? = some (K, T, N)) (hk : k < N) (hlink : Cond.fieldLink own index ref (T k).2.1 (T k).2.2.1 ∈ Ts) (href : (T k).1 = ref) (hdg : decode cc pc = .ok (.getfield index, 3)) (hty : am_k (ty ci k) = 0) {β : Type} {K9 : Int32 → Option β} {r : β} (hX : (am_fg ci k a w).bind K9 = some r)
    (kk : ∀ x, K9 x = some r → am_V p l e R s m args below meth c D cl ty A F nL cells slots Q (pc + 3) lo (.int x :: st) w) : am_V p l e R s m args below meth c D cl ty A F nL cells slots Q pc lo (.ref a :: st) w := by
  obtain ⟨x, h1, h2⟩ := am_bind hX
  obtain ⟨h3, h4⟩ := am_fg_of h1
  exact am_getv C hin h3 hc k hk hlink href hdg (am_v_i hty) (h4 ▸ kk x h2)
theorem am_getr (C : am_C p m c cc nL s args Ts own D cl A) {ref K : String} {T : u_T} {N ci index k : Nat} (hin : ∀ w ∈ u_ws K T N, w ∈ Ts) (hc : cl[ci]? = some (K, T, N)) (hk : k < N) (hlink : Cond.fieldLink own index ref (T k).2.1 (T k).2.2.1 ∈ Ts) (href : (T k).1 = ref) (hdg : decode cc pc = .ok (.getfield index, 3)) (hty : am_k (ty ci k) = 1) {β : Type} {K9 : Nat → Option β} {r : β} (hX : (am_rg ci k a w).bind K9 = some r)
    (kk : ∀ b, K9 b = some r → am_V p l e R s m args below meth c D cl ty A F nL cells slots Q (pc + 3) lo (.ref b :: st) w) : am_V p l e R s m args below meth c D cl ty A F nL cells slots Q pc lo (.ref a :: st) w := by
  obtain ⟨x, h1, h2⟩ := am_bind hX
  obtain ⟨h3, h4⟩ := am_rg_of h1
  exact am_getv C hin h3 hc k hk hlink href hdg ((am_v_r hty).trans (by rw [h4]; rfl)) (kk x h2)
/-- the world behind a store into slot k of a -/
theorem am_rep.setObj {H H1 : Heap} {ci N : Nat} {K : String} {T : u_T} {w1 : am_w} (hR : am_rep D cl ty A s w H) (hsh : w.2.1 a = some (.inl ci)) (hc : cl[ci]? = some (K, T, N)) (hz : w1.1 = w.1) (hs : w1.2.1 = w.2.1)
    (hob : t_OB a (D.1 ci) N (D.2 ci) H1 (fun j => am_v (ty ci j) (w1.2.2.1 a j) (w1.2.2.2 a j))) (z : H1.size = H.size) (oq : ∀ q : Nat, q ≠ a → H1[q]? = H[q]?) (h1 : ∀ q j, q ≠ a → w1.2.2.1 q j = w.2.2.1 q j) (h2 : ∀ q j, q ≠ a → w1.2.2.2 q j = w.2.2.2 q j) : am_rep D cl ty A s w1 H1 := by
  refine ⟨(z.trans hR.1).trans hz.symm, fun q e9 he => ?_⟩
  rw [hs] at he
  refine ⟨(hR.2 q e9 he).1, ?_⟩
  by_cases hq : q = a
  · subst hq
    have : e9 = .inl ci := Option.some.inj (he.symm.trans hsh)
    subst this
    exact ⟨_, hc, hob⟩
  · exact (hR.2 q e9 he).2.kept (oq q hq) (fun j => h1 q j hq) (fun j => h2 q j hq)
/-- putfield of an int field -/
theorem am_put (C : am_C p m c cc nL s args Ts own D cl A) (hF : ∀ q, A q → F q) {ref K : String} {T : u_T} {N ci index k : Nat} (hin : ∀ w ∈ u_ws K T N, w ∈ Ts) (ty0 : Nat → FieldType) (hty0 : ∀ k, k < N → parseFieldDescriptor (T k).2.2.1 = some (ty0 k)) (hnm : ∀ a, a < N → ∀ b, b < N → a ≠ b → (T a).2.1 ≠ (T b).2.1) (hc : cl[ci]? = some (K, T, N)) (hk : k < N) (hlink : Cond.fieldLink own index ref (T k).2.1 (T k).2.2.1 ∈ Ts) (href : (T k).1 = ref) (hfin : (T k).2.2.2 = false) {t9 : FieldType} {x : Int32} (hd : parseFieldDescriptor (T k).2.2.1 = some t9) (hn : narrow t9 (.int x) = .int x) (hfit : fits t9 (.int x) = true) (hty : am_k (ty ci k) = 0) (hdg : decode cc pc = .ok (.putfield index, 3)) {β : Type} {K9 : am_w → Option β} {r : β} (hX : (am_fp ci k a x w).bind K9 = some r)
    (kk : ∀ w1, K9 w1 = some r → am_V p l e R s m args below meth c D cl ty A F nL cells slots Q (pc + 3) lo st w1) : am_V p l e R s m args below meth c D cl ty A F nL cells slots Q pc lo (.int x :: .ref a :: st) w := by
  obtain ⟨w1, hX1, hX2⟩ := am_bind hX
  obtain ⟨hsh, hw1⟩ := am_fp_of hX1
  intro H locs ls hR hS hL
  have hap := va_apart (own := own) C.1.2.2.2.2 hin ty0 hty0 hnm C.2.1 hc
  obtain ⟨⟨hexec, hb, hml, hown, hts⟩, hK, -, -⟩ := C
  obtain ⟨cell, q1, q2, q3, q4⟩ := (hR.2 a _ hsh).2.obj hc
  obtain ⟨hS2, hfc, kC, hkC, hkind⟩ := hK.1 ci _ hc
  obtain ⟨cf, kf, fi, f, hi9, hsl⟩ := hS2 k hk
  have hsl' : f.slot = D.2 ci k := hsl
  have hi9' : s.fieldFound? ref (T k).2.1 (T k).2.2.1 = some (cf, kf, fi, f) := by rw [← href]; exact hi9
  have hlay := hts _ (hin _ (u_in_lay hk))
  unfold u_lay at hlay
  rw [if_neg (by rw [hfin]; decide)] at hlay
  have hst := (u_facts hfc hkC (u_lays hts hin hk) hi9).1
  have h6 := u_store hfc hkC hkind hlay hi9 hd hn hfit
  refine W.putK hexec hb (f := f) ⟨hown, hts _ hlink, ⟨_, _, _, hi9'⟩, hst⟩ (by rw [q2]; exact h6) q1 q3 (by rw [hsl']; exact k2_hasslot (q4 k hk)) rfl rfl hdg fun H' e1 e2 e3 => ?_
  rw [hsl'] at e1 ⊢
  refine kk w1 hX2 H' _ ls (am_rep.setObj hR hsh hc (by rw [hw1]; rfl) (by rw [hw1]; rfl) ?_ e2 e3 (fun q j h => by rw [hw1]; exact am_up_na h) (fun q j h => by rw [hw1]; rfl)) (hS.put e2 e3 (hF a (hR.2 a _ hsh).1)) hL
  refine t_OB.to (V := updV (fun j => am_v (ty ci j) (w.2.2.1 a j) (w.2.2.2 a j)) k (.int x)) ⟨_, e1, q2, q3, t_set q4 hap hk _⟩ (fun j _ => ?_)
  rw [hw1]
  by_cases hj : j = k
  · subst hj
    simp [updV, am_wi, am_up, am_v, hty, va_rf]
  · simp [updV, am_wi, am_up, hj]
/-- putfield of a reference that is not null -/
theorem am_putr (C : am_C p m c cc nL s args Ts own D cl A) (hF : ∀ q, A q → F q) {ref K : String} {T : u_T} {N ci index k : Nat} (hin : ∀ w ∈ u_ws K T N, w ∈ Ts) (ty0 : Nat → FieldType) (hty0 : ∀ k, k < N → parseFieldDescriptor (T k).2.2.1 = some (ty0 k)) (hnm : ∀ a, a < N → ∀ b, b < N → a ≠ b → (T a).2.1 ≠ (T b).2.1) (hc : cl[ci]? = some (K, T, N)) (hk : k < N) (hlink : Cond.fieldLink own index ref (T k).2.1 (T k).2.2.1 ∈ Ts) (href : (T k).1 = ref) (hfin : (T k).2.2.2 = false) {t9 : FieldType} {x : Nat} (hd : parseFieldDescriptor (T k).2.2.1 = some t9) (hn : narrow t9 (.ref x) = .ref x) (hfit : fits t9 (.ref x) = true) (hty : am_k (ty ci k) = 1) (hdg : decode cc pc = .ok (.putfield index, 3)) {β : Type} {K9 : am_w → Option β} {r : β} (hX : (am_rp ci k a x w).bind K9 = some r)
    (kk : ∀ w1, K9 w1 = some r → am_V p l e R s m args below meth c D cl ty A F nL cells slots Q (pc + 3) lo st w1) : am_V p l e R s m args below meth c D cl ty A F nL cells slots Q pc lo (.ref x :: .ref a :: st) w := by
  obtain ⟨w1, hX1, hX2⟩ := am_bind hX
  obtain ⟨hsh, hw1⟩ := am_rp_of hX1
  intro H locs ls hR hS hL
  have hap := va_apart (own := own) C.1.2.2.2.2 hin ty0 hty0 hnm C.2.1 hc
  obtain ⟨⟨hexec, hb, hml, hown, hts⟩, hK, -, -⟩ := C
  obtain ⟨cell, q1, q2, q3, q4⟩ := (hR.2 a _ hsh).2.obj hc
  obtain ⟨hS2, hfc, kC, hkC, hkind⟩ := hK.1 ci _ hc
  obtain ⟨cf, kf, fi, f, hi9, hsl⟩ := hS2 k hk
  have hsl' : f.slot = D.2 ci k := hsl
  have hi9' : s.fieldFound? ref (T k).2.1 (T k).2.2.1 = some (cf, kf, fi, f) := by rw [← href]; exact hi9
  have hlay := hts _ (hin _ (u_in_lay hk))
  unfold u_lay at hlay
  rw [if_neg (by rw [hfin]; decide)] at hlay
  have hst := (u_facts hfc hkC (u_lays hts hin hk) hi9).1
  have h6 := u_store hfc hkC hkind hlay hi9 hd hn hfit
  refine W.putK hexec hb (f := f) ⟨hown, hts _ hlink, ⟨_, _, _, hi9'⟩, hst⟩ (by rw [q2]; exact h6) q1 q3 (by rw [hsl']; exact k2_hasslot (q4 k hk)) rfl rfl hdg fun H' e1 e2 e3 => ?_
  rw [hsl'] at e1 ⊢
  refine kk w1 hX2 H' _ ls (am_rep.setObj hR hsh hc (by rw [hw1]; rfl) (by rw [hw1]; rfl) ?_ e2 e3 (fun q j h => by rw [hw1]; rfl) (fun q j h => by rw [hw1]; exact am_up_na h)) (hS.put e2 e3 (hF a (hR.2 a _ hsh).1)) hL
  refine t_OB.to (V := updV (fun j => am_v (ty ci j) (w.2.2.1 a j) (w.2.2.2 a j)) k (.ref x)) ⟨_, e1, q2, q3, t_set q4 hap hk _⟩ (fun j _ => ?_)
  rw [hw1]
  by_cases hj : j = k
  · subst hj
    simp [updV, am_wr, am_up, am_v, hty, va_rf]
  · simp [updV, am_wr, am_up, hj]
/-- the array at a -/
theorem am_arr {H : Heap} {t : FieldType} {n : Nat} (hR : am_rep D cl ty A s w H) (hsh : w.2.1 a = some (.inr (t, n))) : ∃ cA : ClassId, H[a]? = some (arrV cA n (fun j => am_v t (w.2.2.1 a j) (w.2.2.2 a j))) ∧ ArrOfT s cA t ∧ va_RA s cA t := (hR.2 a _ hsh).2
theorem am_arlen (C : am_C p m c cc nL s args Ts own D cl A) (hdg : decode cc pc = .ok (.arraylength, 1)) {β : Type} {K9 : Int32 → Option β} {r : β} (hX : (am_al a w).bind K9 = some r)
    (kk : ∀ x, K9 x = some r → am_V p l e R s m args below meth c D cl ty A F nL cells slots Q (pc + 1) lo (.int x :: st) w) : am_V p l e R s m args below meth c D cl ty A F nL cells slots Q pc lo (.ref a :: st) w := by
  obtain ⟨x, h1, h2⟩ := am_bind hX
  obtain ⟨t, n, hsh, hv⟩ := am_al_of h1
  intro H locs ls hR hS hL
  obtain ⟨cA, q1, q2, q3⟩ := am_arr hR hsh
  exact W.alen C.1.1 C.1.2.1 q1 (q2 n _) (by rw [arrV_size]; exact hv.symm) rfl rfl hdg (kk x h2 H locs ls hR hS hL)
theorem am_rep.setArr {H H1 : Heap} {t : FieldType} {n i : Nat} {cA : ClassId} {w1 : am_w} {v : Value} (hR : am_rep D cl ty A s w H) (hsh : w.2.1 a = some (.inr (t, n))) (q2 : ArrOfT s cA t) (q3 : va_RA s cA t) (hz : w1.1 = w.1) (hs : w1.2.1 = w.2.1)
    (e1 : H1[a]? = some ((arrV cA n (fun j => am_v t (w.2.2.1 a j) (w.2.2.2 a j))).setSlot i v)) (hv : ∀ j, updV (fun j => am_v t (w.2.2.1 a j) (w.2.2.2 a j)) i v j = am_v t (w1.2.2.1 a j) (w1.2.2.2 a j)) (z : H1.size = H.size) (oq : ∀ q : Nat, q ≠ a → H1[q]? = H[q]?) (h1 : ∀ q j, q ≠ a → w1.2.2.1 q j = w.2.2.1 q j) (h2 : ∀ q j, q ≠ a → w1.2.2.2 q j = w.2.2.2 q j) : am_rep D cl ty A s w1 H1 := by
  refine ⟨(z.trans hR.1).trans hz.symm, fun q e9 he => ?_⟩
  rw [hs] at he
  refine ⟨(hR.2 q e9 he).1, ?_⟩
  by_cases hq : q = a
  · subst hq
    have : e9 = .inr (t, n) := Option.some.inj (he.symm.trans hsh)
    subst this
    refine ⟨cA, ?_, q2, q3⟩
    rw [e1, arrV_store]
    congr 2
    funext j
    exact hv j
  · exact (hR.2 q e9 he).2.kept (oq q hq) (fun j => h1 q j hq) (fun j => h2 q j hq)
theorem am_iald (C : am_C p m c cc nL s args Ts own D cl A) {i : Int32} (hdg : decode cc pc = .ok (.iaload, 1)) {β : Type} {K9 : Int32 → Option β} {r : β} (hX : (am_ig a i w).bind K9 = some r)
    (kk : ∀ x, K9 x = some r → am_V p l e R s m args below meth c D cl ty A F nL cells slots Q (pc + 1) lo (.int x :: st) w) : am_V p l e R s m args below meth c D cl ty A F nL cells slots Q pc lo (.int i :: .ref a :: st) w := by
  obtain ⟨x, h1, h2⟩ := am_bind hX
  obtain ⟨n, hsh, hin, hx⟩ := am_ig_of h1
  subst hx
  intro H locs ls hR hS hL
  obtain ⟨cA, q1, q2, q3⟩ := am_arr hR hsh
  have hlt : i.toNatClampNeg < n := Nat.not_le.mp fun q => hin (Or.inr q)
  exact W.iald C.1.1 C.1.2.1 q1 (q2 n _) (fun q => by cases q) (by rw [arrV_size]; exact hin) (by rw [arrV_read _ _ hlt]; rfl) rfl rfl hdg (kk _ h2 H locs ls hR hS hL)
theorem am_cald (C : am_C p m c cc nL s args Ts own D cl A) {i : Int32} (hdg : decode cc pc = .ok (.caload, 1)) {β : Type} {K9 : Int32 → Option β} {r : β} (hX : (am_cg a i w).bind K9 = some r)
    (kk : ∀ x, K9 x = some r → am_V p l e R s m args below meth c D cl ty A F nL cells slots Q (pc + 1) lo (.int x :: st) w) : am_V p l e R s m args below meth c D cl ty A F nL cells slots Q pc lo (.int i :: .ref a :: st) w := by
  obtain ⟨x, h1, h2⟩ := am_bind hX
  obtain ⟨n, hsh, hin, hx⟩ := am_cg_of h1
  subst hx
  intro H locs ls hR hS hL
  obtain ⟨cA, q1, q2, q3⟩ := am_arr hR hsh
  have hlt : i.toNatClampNeg < n := Nat.not_le.mp fun q => hin (Or.inr q)
  exact W.cald C.1.1 C.1.2.1 q1 (q2 n _) (fun q => by cases q) (by rw [arrV_size]; exact hin) (by rw [arrV_read _ _ hlt]; rfl) rfl rfl hdg (kk _ h2 H locs ls hR hS hL)
theorem am_lald (C : am_C p m c cc nL s args Ts own D cl A) {i : Int32} (hdg : decode cc pc = .ok (.laload, 1)) {β : Type} {K9 : Int32 → Option β} {r : β} (hX : (am_lg a i w).bind K9 = some r)
    (kk : ∀ x, K9 x = some r → am_V p l e R s m args below meth c D cl ty A F nL cells slots Q (pc + 1) lo (.long x.toInt64 :: st) w) : am_V p l e R s m args below meth c D cl ty A F nL cells slots Q pc lo (.int i :: .ref a :: st) w := by
  obtain ⟨x, h1, h2⟩ := am_bind hX
  obtain ⟨n, hsh, hin, hx⟩ := am_lg_of h1
  subst hx
  intro H locs ls hR hS hL
  obtain ⟨cA, q1, q2, q3⟩ := am_arr hR hsh
  have hlt : i.toNatClampNeg < n := Nat.not_le.mp fun q => hin (Or.inr q)
  exact W.lald C.1.1 C.1.2.1 q1 (q2 n _) (fun q => by cases q) (by rw [arrV_size]; exact hin) (by rw [arrV_read _ _ hlt]; rfl) rfl rfl hdg (kk _ h2 H locs ls hR hS hL)
theorem am_iast (C : am_C p m c cc nL s args Ts own D cl A) (hF : ∀ q, A q → F q) {i x : Int32} (hdg : decode cc pc = .ok (.iastore, 1)) {β : Type} {K9 : am_w → Option β} {r : β} (hX : (am_is a i x w).bind K9 = some r)
    (kk : ∀ w1, K9 w1 = some r → am_V p l e R s m args below meth c D cl ty A F nL cells slots Q (pc + 1) lo st w1) : am_V p l e R s m args below meth c D cl ty A F nL cells slots Q pc lo (.int x :: .int i :: .ref a :: st) w := by
  obtain ⟨w1, h1, h2⟩ := am_bind hX
  obtain ⟨n, hsh, hin, hw1⟩ := am_is_of h1
  intro H locs ls hR hS hL
  obtain ⟨cA, q1, q2, q3⟩ := am_arr hR hsh
  refine W.iast C.1.1 C.1.2.1 q1 (q2 n _) (fun q => by cases q) (by rw [arrV_size]; exact hin) rfl rfl hdg fun H1 e1 z oq => ?_
  refine kk w1 h2 H1 _ ls (am_rep.setArr hR hsh q2 q3 (by rw [hw1]; rfl) (by rw [hw1]; rfl) e1 (fun j => ?_) z oq (fun q j h => by rw [hw1]; exact am_up_na h) (fun q j h => by rw [hw1]; rfl)) (hS.put z oq (hF a (hR.2 a _ hsh).1)) hL
  rw [hw1]
  by_cases hj : j = i.toNatClampNeg
  · subst hj
    simp [updV, am_wi, am_up, am_v, am_k, narrow]
  · simp [updV, am_wi, am_up, hj]
theorem am_cast (C : am_C p m c cc nL s args Ts own D cl A) (hF : ∀ q, A q → F q) {i x : Int32} (hdg : decode cc pc = .ok (.castore, 1)) {β : Type} {K9 : am_w → Option β} {r : β} (hX : (am_cs a i x w).bind K9 = some r)
    (kk : ∀ w1, K9 w1 = some r → am_V p l e R s m args below meth c D cl ty A F nL cells slots Q (pc + 1) lo st w1) : am_V p l e R s m args below meth c D cl ty A F nL cells slots Q pc lo (.int x :: .int i :: .ref a :: st) w := by
  obtain ⟨w1, h1, h2⟩ := am_bind hX
  obtain ⟨n, hsh, hin, hw1⟩ := am_cs_of h1
  intro H locs ls hR hS hL
  obtain ⟨cA, q1, q2, q3⟩ := am_arr hR hsh
  refine W.cast C.1.1 C.1.2.1 q1 (q2 n _) (fun q => by cases q) (by rw [arrV_size]; exact hin) rfl rfl hdg fun H1 e1 z oq => ?_
  refine kk w1 h2 H1 _ ls (am_rep.setArr hR hsh q2 q3 (by rw [hw1]; rfl) (by rw [hw1]; rfl) e1 (fun j => ?_) z oq (fun q j h => by rw [hw1]; exact am_up_na h) (fun q j h => by rw [hw1]; rfl)) (hS.put z oq (hF a (hR.2 a _ hsh).1)) hL
  rw [hw1]
  by_cases hj : j = i.toNatClampNeg
  · subst hj
    simp [updV, am_wi, am_up, am_v, am_k, narrow]
  · simp [updV, am_wi, am_up, hj]
theorem am_last (C : am_C p m c cc nL s args Ts own D cl A) (hF : ∀ q, A q → F q) {i x : Int32} (hdg : decode cc pc = .ok (.lastore, 1)) {β : Type} {K9 : am_w → Option β} {r : β} (hX : (am_lp a i x w).bind K9 = some r)
    (kk : ∀ w1, K9 w1 = some r → am_V p l e R s m args below meth c D cl ty A F nL cells slots Q (pc + 1) lo st w1) : am_V p l e R s m args below meth c D cl ty A F nL cells slots Q pc lo (.long x.toInt64 :: .int i :: .ref a :: st) w := by
  obtain ⟨w1, h1, h2⟩ := am_bind hX
  obtain ⟨n, hsh, hin, hw1⟩ := am_lp_of h1
  intro H locs ls hR hS hL
  obtain ⟨cA, q1, q2, q3⟩ := am_arr hR hsh
  refine W.last C.1.1 C.1.2.1 q1 (q2 n _) (fun q => by cases q) (by rw [arrV_size]; exact hin) rfl rfl hdg fun H1 e1 z oq => ?_
  refine kk w1 h2 H1 _ ls (am_rep.setArr hR hsh q2 q3 (by rw [hw1]; rfl) (by rw [hw1]; rfl) e1 (fun j => ?_) z oq (fun q j h => by rw [hw1]; exact am_up_na h) (fun q j h => by rw [hw1]; rfl)) (hS.put z oq (hF a (hR.2 a _ hsh).1)) hL
  rw [hw1]
  by_cases hj : j = i.toNatClampNeg
  · subst hj
    simp [updV, am_wi, am_up, am_v, am_k, narrow]
  · simp [updV, am_wi, am_up, hj]
theorem am_aald (C : am_C p m c cc nL s args Ts own D cl A) {i : Int32} (hdg : decode cc pc = .ok (.aaload, 1)) {β : Type} {K9 : Nat → Option β} {r : β} (hX : (am_ag a i w).bind K9 = some r)
    (kk : ∀ b, K9 b = some r → am_V p l e R s m args below meth c D cl ty A F nL cells slots Q (pc + 1) lo (.ref b :: st) w) : am_V p l e R s m args below meth c D cl ty A F nL cells slots Q pc lo (.int i :: .ref a :: st) w := by
  obtain ⟨b, h1, h2⟩ := am_bind hX
  obtain ⟨n, K, hsh, hin, hb9⟩ := am_ag_of h1
  intro H locs ls hR hS hL
  obtain ⟨cA, q1, q2, q3⟩ := am_arr hR hsh
  have hlt : i.toNatClampNeg < n := Nat.not_le.mp fun q => hin (Or.inr q)
  exact W.aald (ty := .object K) C.1.1 C.1.2.1 q1 (q2 n _) rfl (fun q => by cases q) (by rw [arrV_size]; exact hin) (by rw [arrV_read _ _ hlt]; show some (va_rf (w.2.2.2 a i.toNatClampNeg)) = some (.ref b); rw [hb9]; rfl) rfl rfl hdg (kk b h2 H locs ls hR hS hL)
/-- putfield of a reference into a final field, in its constructor -/
theorem am_putrF (C : am_C p m c cc nL s args Ts own D cl A) (hF : ∀ q, A q → F q) {ref K : String} {T : u_T} {N ci index k : Nat} (hin : ∀ w ∈ u_ws K T N, w ∈ Ts) (ty0 : Nat → FieldType) (hty0 : ∀ k, k < N → parseFieldDescriptor (T k).2.2.1 = some (ty0 k)) (hnm : ∀ a, a < N → ∀ b, b < N → a ≠ b → (T a).2.1 ≠ (T b).2.1) (hc : cl[ci]? = some (K, T, N)) (hk : k < N) (hlink : Cond.fieldLink own index ref (T k).2.1 (T k).2.2.1 ∈ Ts) (href : (T k).1 = ref) (hfin : (T k).2.2.2 = true) (hdecl : (T k).1 = own) (hin2 : meth.name = "<init>") {t9 : FieldType} {x : Nat} (hd : parseFieldDescriptor (T k).2.2.1 = some t9) (hn : narrow t9 (.ref x) = .ref x) (hfit : fits t9 (.ref x) = true) (hty : am_k (ty ci k) = 1) (hdg : decode cc pc = .ok (.putfield index, 3)) {β : Type} {K9 : am_w → Option β} {r : β} (hX : (am_rp ci k a x w).bind K9 = some r)
    (kk : ∀ w1, K9 w1 = some r → am_V p l e R s m args below meth c D cl ty A F nL cells slots Q (pc + 3) lo st w1) : am_V p l e R s m args below meth c D cl ty A F nL cells slots Q pc lo (.ref x :: .ref a :: st) w := by
  obtain ⟨w1, hX1, hX2⟩ := am_bind hX
  obtain ⟨hsh, hw1⟩ := am_rp_of hX1
  intro H locs ls hR hS hL
  have hap := va_apart (own := own) C.1.2.2.2.2 hin ty0 hty0 hnm C.2.1 hc
  obtain ⟨⟨hexec, hb, hml, hown, hts⟩, hK, -, -⟩ := C
  obtain ⟨cell, q1, q2, q3, q4⟩ := (hR.2 a _ hsh).2.obj hc
  obtain ⟨hS2, hfc, kC, hkC, hkind⟩ := hK.1 ci _ hc
  obtain ⟨cf, kf, fi, f, hi9, hsl⟩ := hS2 k hk
  have hsl' : f.slot = D.2 ci k := hsl
  have hi9' : s.fieldFound? ref (T k).2.1 (T k).2.2.1 = some (cf, kf, fi, f) := by rw [← href]; exact hi9
  have hlay := hts _ (hin _ (u_in_lay hk))
  unfold u_lay at hlay
  rw [if_pos hfin] at hlay
  have hst := (u_facts hfc hkC (u_lays hts hin hk) hi9).1
  have hcf : m.cls = cf := by
    obtain ⟨_, _, c', _, _, _, -, -, hf', -, -, -, hown2, -⟩ := Cond.laysFinal_spec hlay
    have e1 : c' = cf := by have := hi9.symm.trans hf'; simp at this; exact this.1.symm
    rw [hdecl] at hown2
    rw [← e1]; exact Option.some.inj (hown.symm.trans hown2)
  have h6 := u_fits hfc hkC hkind (Or.inr hlay) hi9 hd hn hfit
  refine W.putFinK hexec hb hown (hts _ hlink) hi9' hst hcf hin2 (by rw [q2]; exact h6) q1 q3 (by rw [hsl']; exact k2_hasslot (q4 k hk)) rfl rfl hdg fun H' e1 e2 e3 => ?_
  rw [hsl'] at e1 ⊢
  refine kk w1 hX2 H' _ ls (am_rep.setObj hR hsh hc (by rw [hw1]; rfl) (by rw [hw1]; rfl) ?_ e2 e3 (fun q j h => by rw [hw1]; rfl) (fun q j h => by rw [hw1]; exact am_up_na h)) (hS.put e2 e3 (hF a (hR.2 a _ hsh).1)) hL
  refine t_OB.to (V := updV (fun j => am_v (ty ci j) (w.2.2.1 a j) (w.2.2.2 a j)) k (.ref x)) ⟨_, e1, q2, q3, t_set q4 hap hk _⟩ (fun j _ => ?_)
  rw [hw1]
  by_cases hj : j = k
  · subst hj
    simp [updV, am_wr, am_up, am_v, hty, va_rf]
  · simp [updV, am_wr, am_up, hj]
theorem am_aast (C : am_C p m c cc nL s args Ts own D cl A) (hF : ∀ q, A q → F q) {K : String} {T : u_T} {N ci : Nat} {v : Nat} {i : Int32} (hc : cl[ci]? = some (K, T, N)) (hdg : decode cc pc = .ok (.aastore, 1)) {β : Type} {K9 : am_w → Option β} {r : β} (hX : (am_as9 K ci a i v w).bind K9 = some r)
    (kk : ∀ w1, K9 w1 = some r → am_V p l e R s m args below meth c D cl ty A F nL cells slots Q (pc + 1) lo st w1) : am_V p l e R s m args below meth c D cl ty A F nL cells slots Q pc lo (.ref v :: .int i :: .ref a :: st) w := by
  obtain ⟨w1, hX1, hX2⟩ := am_bind hX
  obtain ⟨n, hsh, hshv, hin, hw1⟩ := am_as9_of hX1
  intro H locs ls hR hS hL
  have hlt : i.toNatClampNeg < n := Nat.not_le.mp fun q => hin (Or.inr q)
  have h0 : ¬ i < 0 := fun q => hin (Or.inl q)
  obtain ⟨cA, q1, q2, q3⟩ := am_arr hR hsh
  obtain ⟨cellV, g1, g2, g3, -⟩ := (hR.2 v _ hshv).2.obj hc
  have hcls := (C.2.1.1 ci _ hc).2
  obtain ⟨kA, comp, k1, k2, k3, k4⟩ := q3
  have hcomp : comp = D.1 ci := Option.some.inj (k3.symm.trans hcls.1)
  subst hcomp
  obtain ⟨kC, hkC, -⟩ := hcls.2
  refine W.aast C.1.1 C.1.2.1 q1 (fun q h => by cases h) (fun h => by cases h) k1 k2 rfl hkC ⟨h0, by show _ < (arrV _ _ _).slots.size; rw [arrV_size]; exact hlt⟩ g1 (fun q h => by rw [g3] at h; cases h) (by rw [g2]; exact hkC) (by rw [g2]; exact va_assign hcls) rfl rfl hdg fun H1 e1 z oq => ?_
  refine kk w1 hX2 H1 _ ls (am_rep.setArr hR hsh q2 ⟨kA, _, k1, k2, k3, k4⟩ (by rw [hw1]; rfl) (by rw [hw1]; rfl) e1 (fun j => ?_) z oq (fun q j h => by rw [hw1]; rfl) (fun q j h => by rw [hw1]; exact am_up_na h)) (hS.put z oq (hF a (hR.2 a _ hsh).1)) hL
  rw [hw1]
  by_cases hj : j = i.toNatClampNeg
  · subst hj
    simp [updV, am_wr, am_up, am_v, am_k, va_rf]
  · simp [updV, am_wr, am_up, hj]
theorem am_objInit (C : am_C p m c cc nL s args Ts own D cl A) {idx : Nat} (hlink : Cond.methodLink own idx Lib.objectInit ∈ Ts) (hinst : Cond.instanceMethod Lib.objectInit ∈ Ts) (hcode : Cond.code Lib.objectInit ⟨#[0xb1]⟩ 1 none ∈ Ts) (hd : decode cc pc = .ok (.invokespecial idx, 3)) (hframes : 1 ≤ R.frames) (hlocals : (st.map fun v => v.category).sum + 12 ≤ R.locals)
    (kk : am_V p l e R s m args below meth c D cl ty A F nL cells slots Q (pc + 3) lo st w) : am_V p l e R s m args below meth c D cl ty A F nL cells slots Q pc lo (.ref a :: st) w := fun H locs ls hR hS hL =>
  W.objInit C.1.1 C.1.2.1 C.1.2.2.2.1 (C.1.2.2.2.2 _ hlink) (C.1.2.2.2.2 _ hinst) (C.1.2.2.2.2 _ hcode) rfl (hL.1.1.trans C.1.2.2.1.symm) rfl hd hframes (by show 2 * 0 + _ + 12 ≤ _; omega) (kk H locs ls hR hS hL)
end AMH
end
section
section AMC
variable {p : Program} {l : Launch} {e : Env} {R : Room} {s : State} {m : MethodId} {args : Array Value} {below : List Frame} {meth : Method} {c : Code} {cells slots : Nat} {Q : State → Prop}
variable {cc : ByteArray} {own : String} {Ts : List Cond} {nL : Nat} {D : va_G} {cl : List vw_C} {ty : Nat → Nat → FieldType} {A F : Nat → Prop}
variable {pc : Nat} {lo : List (Option Value)} {st : List Value} {w : am_w} {a : Nat}
/-- a contract's start: these arguments, this world -/
def am_P (D : va_G) (cl : List vw_C) (ty : Nat → Nat → FieldType) (A : Nat → Prop) (av : List Value) (w : am_w) : Array Value → State → Prop :=
  va_Pc av (fun U => am_rep D cl ty A U w U.heap ∧ va_K D cl [] U ∧ (∀ q, U.heap.size ≤ q → A q) ∧ am_Z U ∧ am_Y A U U.heap)
/-- its end: the answer and the world behind it -/
def am_Q (D : va_G) (cl : List vw_C) (ty : Nat → Nat → FieldType) (A G : Nat → Prop) (post : Option Value → am_w → Prop) : Array Value → State → Outcome → State → Prop := fun _ st o t =>
  (∃ (v : Option Value) (w : am_w), o = .returned v ∧ post v w ∧ am_rep D cl ty A t w t.heap) ∧ va_F G st t
abbrev am_Met (l : Launch) (D : va_G) (cl : List vw_C) (ty : Nat → Nat → FieldType) (A G : Nat → Prop) (y : MethodName) (ws : List Cond) (rm : Room) (av : List Value) (w : am_w) (post : Option Value → am_w → Prop) (mc ms : Nat) : Prop :=
  Met l y ws rm (am_P D cl ty A av w) (am_Q D cl ty A G post) mc ms G
theorem am_blind {av : List Value} : FrameBlind (am_P D cl ty A av w) := fun a9 U g mk q =>
  ⟨q.1, am_rep.moved (u := U) (U := U.calling g mk a9) (Vm.Alike.refl U.vm) q.2.1, va_K.moved (u := U) (U := U.calling g mk a9) (Vm.Alike.refl U.vm) q.2.2.1, q.2.2.2.1, am_Z.same (u := U) (U := U.calling g mk a9) rfl q.2.2.2.2.1, am_Y.moved (u := U) (U := U.calling g mk a9) q.2.2.2.2.2 (Vm.Alike.refl U.vm)⟩
/-- what a call's start asks, out of the world at hand -/
theorem am_start (C : am_C p m c cc nL s args Ts own D cl A) (hFA : ∀ q, F q → A q) {H : Heap} {locs : List Loc} (hR : am_rep D cl ty A s w H) (hS : va_S F s.heap H locs) {av : List Value} {U : State} (hU : U.heap = H) (hW : s.WarmedH U.vm) : am_P D cl ty A av w av.toArray U :=
  ⟨rfl, by rw [hU]; exact hR.moved hW.alike, va_K.moved hW.alike C.2.1, fun q hq => C.2.2.1 q (Nat.le_trans hS.1 (by rw [← hU]; exact hq)), C.2.2.2.2.1.warm hW, by rw [hU]; exact (C.2.2.2.2.2.kept (fun a h1 h2 => hS.2.1 a h1 (fun z => h2 (hFA a z)))).moved hW.alike⟩
/-- behind a call: whatever the contract says of answer and world -/
theorem am_goon {G : Nat → Prop} {mc ms : Nat} {H : Heap} {locs : List Loc} {ls : Array Slot} {st0 rest : List Value} {post : Option Value → am_w → Prop} {a9 : Array Value}
    (hr9 : va_Run p l e R s m args below meth c H locs cells slots mc ms (F0 m pc ls st0) rest (am_Q D cl ty A G post a9) G) (hG : ∀ q, G q → F q) (hS : va_S F s.heap H locs) (hL : am_ls ls nL lo)
    (kk : ∀ (v : Option Value) (w1 : am_w), post v w1 → am_V p l e R s m args below meth c D cl ty A F nL (cells + mc) (slots + ms) Q (pc + 3) lo (v.toList ++ rest) w1) : W p l e R s m args below meth c H locs cells slots Q (F0 m pc ls st0) := by
  intro T hT X
  obtain ⟨v, st₀, t, T', L, h0, X', hL', e1, e2, ⟨⟨v', w', hv, hp, hrep⟩, hz, hk⟩, go⟩ := hr9 T hT X
  cases hv
  rw [h0] at hz hk
  have hal : t.vm.Alike s.vm := by rw [← e2]; exact X'.warmed.alike.symm
  obtain ⟨t2, a1, b1⟩ := kk v w' hp T'.heap (locs ++ L) ls (by rw [e1]; exact hrep.moved hal)
    ⟨Nat.le_trans hS.1 (by rw [e1]; exact hz), fun q h1 h2 => by rw [e1, hk q (Nat.lt_of_lt_of_le h1 hS.1) (fun z => h2 (hG q z))]; exact hS.2.1 q h1 h2, fun q hq => (List.mem_append.mp hq).elim (fun h => hS.2.2 q h) (fun h => hG _ (hL' q h))⟩ hL T' rfl X'
  exact ⟨t2, go t2 a1, b1⟩
/-- the words of a call, out of one list of good words -/
theorem am_good {Tw ws : List Cond} (hall : ∀ w ∈ Tw, goodWord w = true) (h : ∀ w ∈ ws, w ∈ Tw) : GoodIn Tw ws := fun w hw => ⟨h w hw, good_of_word (hall w (h w hw))⟩
theorem am_goodV {Tw : List Cond} {own9 K : String} {index maxL : Nat} {y : MethodName} {bytes : ByteArray} {ret : Option FieldType} (hall : ∀ w ∈ Tw, goodWord w = true) (h1 : Cond.methodLink own9 index y ∈ Tw) (h2 : Cond.instanceMethod y ∈ Tw) (h3 : Cond.selects K y y ∈ Tw) (h4 : Cond.initialized K ∈ Tw) (h5 : Cond.code y bytes maxL ret ∈ Tw) : GoodIn Tw (wsV own9 index K y (Cond.code y bytes maxL ret :: Tw)) := by
  refine am_good hall (fun w hw => ?_)
  simp only [wsV, List.cons_append, List.nil_append, List.mem_cons] at hw
  rcases hw with rfl | rfl | rfl | rfl | rfl | hw
  · exact h1
  · exact h2
  · exact h3
  · exact h4
  · exact h5
  · exact hw
theorem am_goodS {Tw : List Cond} {own9 : String} {index maxL : Nat} {y : MethodName} {bytes : ByteArray} {ret : Option FieldType} (hall : ∀ w ∈ Tw, goodWord w = true) (h1 : Cond.methodLink own9 index y ∈ Tw) (h2 : Cond.static y ∈ Tw) (h4 : Cond.initialized y.cls ∈ Tw) (h5 : Cond.code y bytes maxL ret ∈ Tw) : GoodIn Tw (va_wsS own9 index y (Cond.code y bytes maxL ret :: Tw)) := by
  refine am_good hall (fun w hw => ?_)
  simp only [va_wsS, List.cons_append, List.nil_append, List.mem_cons] at hw
  rcases hw with rfl | rfl | rfl | rfl | hw
  · exact h1
  · exact h2
  · exact h4
  · exact h5
  · exact hw
theorem am_goodI {Tw : List Cond} {y : MethodName} {bytes : ByteArray} {maxL : Nat} {ret : Option FieldType} (hall : ∀ w ∈ Tw, goodWord w = true) (h5 : Cond.code y bytes maxL ret ∈ Tw) : GoodIn Tw (Cond.code y bytes maxL ret :: Tw) := by
  refine am_good hall (fun w hw => ?_)
  rcases List.mem_cons.mp hw with rfl | hw
  · exact h5
  · exact hw
/-- the forms of an end: an int, nothing -/
def am_ri (r : Int32 × am_w) : Option Value → am_w → Prop := fun v w => v = some (.int r.1) ∧ w = r.2
def am_rv (r : Int32 × am_w) : Option Value → am_w → Prop := fun v w => v = none ∧ w = r.2
theorem am_callVi (C : am_C p m c cc nL s args Ts own D cl A) (hFA : ∀ q, F q → A q) {G : Nat → Prop} (hG9 : ∀ q, G q → F q) {y : MethodName} {rm : Room} {As : List Value} {mc ms index n N ci b maxL : Nat} {K : String} {T : u_T} {bytes : ByteArray} {rt : FieldType} {f : Option (Int32 × am_w)} {β : Type} {K9 : Int32 × am_w → Option β} {r : β}
    (hM : ∀ q, f = some q → am_Met l D cl ty A G y (Cond.code y bytes maxL (some rt) :: Ts) rm (.ref b :: As) w (am_ri q) mc ms) (m1 : Cond.methodLink own index y ∈ Ts) (i1 : Cond.instanceMethod y ∈ Ts) (s1 : Cond.selects K y y ∈ Ts) (n1 : Cond.initialized K ∈ Ts) (c1 : Cond.code y bytes maxL (some rt) ∈ Ts) (hrc : rm.cells = mc) (hrs : rm.slots = ms)
    (hd : y.cls = K ∧ y.cls ≠ "java/lang/invoke/MethodHandle" ∧ y.cls ≠ "java/lang/invoke/VarHandle" ∧ (parseMethodDescriptor y.desc).map (fun d => d.parameters.length) = some n) (hRm : rm.frames + 1 ≤ R.frames ∧ 8 + (maxL + 11) + rm.locals ≤ R.locals)
    (hc : cl[ci]? = some (K, T, N)) (hn : As.length = n) (hcat : (st.map fun v => v.category).sum ≤ 8) (hdg : decode cc pc = .ok (.invokevirtual index, 3)) (hf : cells + mc ≤ R.cells ∧ slots + ms ≤ R.slots) {cells1 slots1 : Nat} (hc1 : cells + mc = cells1) (hs1 : slots + ms = slots1) {st0 : List Value} (hst : st0 = As.reverse ++ .ref b :: st) (hX : (am_ob ci b w f).bind K9 = some r) (kk : ∀ q : Int32 × am_w, K9 q = some r → am_V p l e R s m args below meth c D cl ty A F nL cells1 slots1 Q (pc + 3) lo (.int q.1 :: st) q.2) : am_V p l e R s m args below meth c D cl ty A F nL cells slots Q pc lo st0 w := by
  obtain ⟨q, hX0, hX2⟩ := am_bind hX
  obtain ⟨hsh, hX1⟩ := am_ob_of hX0
  subst hst
  subst hc1
  subst hs1
  intro H locs ls hR hS hL
  have hrecv : ∃ cellB : Cell, H[b]? = some cellB ∧ cellB.vm.isStatics = false ∧ s.vm.findClass K = some cellB.cls := by
    obtain ⟨cell, q1, q2, q3, -⟩ := (hR.2 b _ hsh).2.obj hc
    exact ⟨cell, q1, by rw [q3]; rfl, by rw [q2]; exact (C.2.1.1 ci _ hc).2.1⟩
  exact am_goon (va_runV (As := As) (rest := st) C.1 (hM q hX1) (cwV n C.1.2.2.2.2 (am_goodV C.2.2.2.1 m1 i1 s1 n1 c1) rfl hrc hrs hd hRm) ⟨am_blind, hrecv, fun U hU hW => am_start C hFA hR hS hU hW⟩ rfl hn hL.1.1 rfl (lv_room hcat) hdg hf) hG9 hS hL (fun v w1 h => by obtain ⟨h1, h2⟩ := h; subst h1; subst h2; exact kk q hX2)
theorem am_callVv (C : am_C p m c cc nL s args Ts own D cl A) (hFA : ∀ q, F q → A q) {G : Nat → Prop} (hG9 : ∀ q, G q → F q) {y : MethodName} {rm : Room} {As : List Value} {mc ms index n N ci b maxL : Nat} {K : String} {T : u_T} {bytes : ByteArray} {f : Option (Int32 × am_w)} {β : Type} {K9 : Int32 × am_w → Option β} {r : β}
    (hM : ∀ q, f = some q → am_Met l D cl ty A G y (Cond.code y bytes maxL none :: Ts) rm (.ref b :: As) w (am_rv q) mc ms) (m1 : Cond.methodLink own index y ∈ Ts) (i1 : Cond.instanceMethod y ∈ Ts) (s1 : Cond.selects K y y ∈ Ts) (n1 : Cond.initialized K ∈ Ts) (c1 : Cond.code y bytes maxL none ∈ Ts) (hrc : rm.cells = mc) (hrs : rm.slots = ms)
    (hd : y.cls = K ∧ y.cls ≠ "java/lang/invoke/MethodHandle" ∧ y.cls ≠ "java/lang/invoke/VarHandle" ∧ (parseMethodDescriptor y.desc).map (fun d => d.parameters.length) = some n) (hRm : rm.frames + 1 ≤ R.frames ∧ 8 + (maxL + 11) + rm.locals ≤ R.locals)
    (hc : cl[ci]? = some (K, T, N)) (hn : As.length = n) (hcat : (st.map fun v => v.category).sum ≤ 8) (hdg : decode cc pc = .ok (.invokevirtual index, 3)) (hf : cells + mc ≤ R.cells ∧ slots + ms ≤ R.slots) {cells1 slots1 : Nat} (hc1 : cells + mc = cells1) (hs1 : slots + ms = slots1) {st0 : List Value} (hst : st0 = As.reverse ++ .ref b :: st) (hX : (am_ob ci b w f).bind K9 = some r) (kk : ∀ q : Int32 × am_w, K9 q = some r → am_V p l e R s m args below meth c D cl ty A F nL cells1 slots1 Q (pc + 3) lo st q.2) : am_V p l e R s m args below meth c D cl ty A F nL cells slots Q pc lo st0 w := by
  obtain ⟨q, hX0, hX2⟩ := am_bind hX
  obtain ⟨hsh, hX1⟩ := am_ob_of hX0
  subst hst
  subst hc1
  subst hs1
  intro H locs ls hR hS hL
  have hrecv : ∃ cellB : Cell, H[b]? = some cellB ∧ cellB.vm.isStatics = false ∧ s.vm.findClass K = some cellB.cls := by
    obtain ⟨cell, q1, q2, q3, -⟩ := (hR.2 b _ hsh).2.obj hc
    exact ⟨cell, q1, by rw [q3]; rfl, by rw [q2]; exact (C.2.1.1 ci _ hc).2.1⟩
  exact am_goon (va_runV (As := As) (rest := st) C.1 (hM q hX1) (cwV n C.1.2.2.2.2 (am_goodV C.2.2.2.1 m1 i1 s1 n1 c1) rfl hrc hrs hd hRm) ⟨am_blind, hrecv, fun U hU hW => am_start C hFA hR hS hU hW⟩ rfl hn hL.1.1 rfl (lv_room hcat) hdg hf) hG9 hS hL (fun v w1 h => by obtain ⟨h1, h2⟩ := h; subst h1; subst h2; exact kk q hX2)
theorem am_callSi (C : am_C p m c cc nL s args Ts own D cl A) (hFA : ∀ q, F q → A q) {G : Nat → Prop} (hG9 : ∀ q, G q → F q) {y : MethodName} {rm : Room} {As : List Value} {mc ms index n maxL : Nat} {bytes : ByteArray} {rt : FieldType} {f : Option (Int32 × am_w)} {β : Type} {K9 : Int32 × am_w → Option β} {r : β}
    (hM : ∀ q, f = some q → am_Met l D cl ty A G y (Cond.code y bytes maxL (some rt) :: Ts) rm As w (am_ri q) mc ms) (m1 : Cond.methodLink own index y ∈ Ts) (t1 : Cond.static y ∈ Ts) (n1 : Cond.initialized y.cls ∈ Ts) (c1 : Cond.code y bytes maxL (some rt) ∈ Ts) (hrc : rm.cells = mc) (hrs : rm.slots = ms)
    (hd : y.cls ≠ "java/lang/invoke/MethodHandle" ∧ y.cls ≠ "java/lang/invoke/VarHandle" ∧ (parseMethodDescriptor y.desc).map (fun d => d.parameters.length) = some n) (hRm : rm.frames + 1 ≤ R.frames ∧ 8 + (maxL + 11) + rm.locals ≤ R.locals)
    (hn : As.length = n) (hcat : (st.map fun v => v.category).sum ≤ 8) (hdg : decode cc pc = .ok (.invokestatic index, 3)) (hf : cells + mc ≤ R.cells ∧ slots + ms ≤ R.slots) {cells1 slots1 : Nat} (hc1 : cells + mc = cells1) (hs1 : slots + ms = slots1) {st0 : List Value} (hst : st0 = As.reverse ++ st) (hX : f.bind K9 = some r) (kk : ∀ q : Int32 × am_w, K9 q = some r → am_V p l e R s m args below meth c D cl ty A F nL cells1 slots1 Q (pc + 3) lo (.int q.1 :: st) q.2) : am_V p l e R s m args below meth c D cl ty A F nL cells slots Q pc lo st0 w := by
  obtain ⟨q, hX1, hX2⟩ := am_bind hX
  subst hst
  subst hc1
  subst hs1
  intro H locs ls hR hS hL
  exact am_goon (va_runS (As := As) (rest := st) C.1 (hM q hX1) (va_cwS n C.1.2.2.2.2 (am_goodS C.2.2.2.1 m1 t1 n1 c1) rfl hrc hrs hd hRm) ⟨am_blind, fun U hU hW => am_start C hFA hR hS hU hW⟩ rfl hn hL.1.1 rfl (lv_room hcat) hdg hf) hG9 hS hL (fun v w1 h => by obtain ⟨h1, h2⟩ := h; subst h1; subst h2; exact kk q hX2)
theorem am_callSv (C : am_C p m c cc nL s args Ts own D cl A) (hFA : ∀ q, F q → A q) {G : Nat → Prop} (hG9 : ∀ q, G q → F q) {y : MethodName} {rm : Room} {As : List Value} {mc ms index n maxL : Nat} {bytes : ByteArray} {f : Option (Int32 × am_w)} {β : Type} {K9 : Int32 × am_w → Option β} {r : β}
    (hM : ∀ q, f = some q → am_Met l D cl ty A G y (Cond.code y bytes maxL none :: Ts) rm As w (am_rv q) mc ms) (m1 : Cond.methodLink own index y ∈ Ts) (t1 : Cond.static y ∈ Ts) (n1 : Cond.initialized y.cls ∈ Ts) (c1 : Cond.code y bytes maxL none ∈ Ts) (hrc : rm.cells = mc) (hrs : rm.slots = ms)
    (hd : y.cls ≠ "java/lang/invoke/MethodHandle" ∧ y.cls ≠ "java/lang/invoke/VarHandle" ∧ (parseMethodDescriptor y.desc).map (fun d => d.parameters.length) = some n) (hRm : rm.frames + 1 ≤ R.frames ∧ 8 + (maxL + 11) + rm.locals ≤ R.locals)
    (hn : As.length = n) (hcat : (st.map fun v => v.category).sum ≤ 8) (hdg : decode cc pc = .ok (.invokestatic index, 3)) (hf : cells + mc ≤ R.cells ∧ slots + ms ≤ R.slots) {cells1 slots1 : Nat} (hc1 : cells + mc = cells1) (hs1 : slots + ms = slots1) {st0 : List Value} (hst : st0 = As.reverse ++ st) (hX : f.bind K9 = some r) (kk : ∀ q : Int32 × am_w, K9 q = some r → am_V p l e R s m args below meth c D cl ty A F nL cells1 slots1 Q (pc + 3) lo st q.2) : am_V p l e R s m args below meth c D cl ty A F nL cells slots Q pc lo st0 w := by
  obtain ⟨q, hX1, hX2⟩ := am_bind hX
  subst hst
  subst hc1
  subst hs1
  intro H locs ls hR hS hL
  exact am_goon (va_runS (As := As) (rest := st) C.1 (hM q hX1) (va_cwS n C.1.2.2.2.2 (am_goodS C.2.2.2.1 m1 t1 n1 c1) rfl hrc hrs hd hRm) ⟨am_blind, fun U hU hW => am_start C hFA hR hS hU hW⟩ rfl hn hL.1.1 rfl (lv_room hcat) hdg hf) hG9 hS hL (fun v w1 h => by obtain ⟨h1, h2⟩ := h; subst h1; subst h2; exact kk q hX2)
theorem am_callI (C : am_C p m c cc nL s args Ts own D cl A) (hFA : ∀ q, F q → A q) {G : Nat → Prop} (hG9 : ∀ q, G q → F q) {y : MethodName} {rm : Room} {As : List Value} {mc ms index n b maxL : Nat} {bytes : ByteArray} {f : Option (Int32 × am_w)} {β : Type} {K9 : Int32 × am_w → Option β} {r : β}
    (hM : ∀ q, f = some q → am_Met l D cl ty A G y (Cond.code y bytes maxL none :: Ts) rm (.ref b :: As) w (am_rv q) mc ms) (c1 : Cond.code y bytes maxL none ∈ Ts) (hrc : rm.cells = mc) (hrs : rm.slots = ms) (hini : Cond.initialized y.cls ∈ Ts) (hl : Cond.methodLink own index y ∈ Ts) (hin : Cond.instanceMethod y ∈ Ts) (hy1 : y.name = "<init>")
    (hd : y.cls ≠ "java/lang/invoke/MethodHandle" ∧ y.cls ≠ "java/lang/invoke/VarHandle" ∧ (parseMethodDescriptor y.desc).map (fun d => d.parameters.length) = some n) (hRm : rm.frames + 1 ≤ R.frames ∧ 8 + (maxL + 11) + rm.locals ≤ R.locals)
    (hn : As.length = n) (hcat : (st.map fun v => v.category).sum ≤ 8) (hdg : decode cc pc = .ok (.invokespecial index, 3)) (hf : cells + mc ≤ R.cells ∧ slots + ms ≤ R.slots) {cells1 slots1 : Nat} (hc1 : cells + mc = cells1) (hs1 : slots + ms = slots1) {st0 : List Value} (hst : st0 = As.reverse ++ .ref b :: st) (hX : f.bind K9 = some r) (kk : ∀ q : Int32 × am_w, K9 q = some r → am_V p l e R s m args below meth c D cl ty A F nL cells1 slots1 Q (pc + 3) lo st q.2) : am_V p l e R s m args below meth c D cl ty A F nL cells slots Q pc lo st0 w := by
  obtain ⟨q, hX1, hX2⟩ := am_bind hX
  subst hst
  subst hc1
  subst hs1
  intro H locs ls hR hS hL
  exact am_goon (va_runI (As := As) (rest := st) C.1 (hM q hX1) (cwI n C.1.2.2.2.2 (am_goodI C.2.2.2.1 c1) rfl hrc hrs (C.1.2.2.2.2 _ hini) (C.1.2.2.2.2 _ hl) (C.1.2.2.2.2 _ hin) hy1 hd hRm) ⟨am_blind, fun U hU hW => am_start C hFA hR hS hU hW⟩ rfl hn hL.1.1 rfl (lv_room hcat) hdg hf) hG9 hS hL (fun v w1 h => by obtain ⟨h1, h2⟩ := h; subst h1; subst h2; exact kk q hX2)
theorem am_callIN (C : am_C p m c cc nL s args Ts own D cl A) (hFA : ∀ q, F q → A q) {G : Nat → Prop} (hG9 : ∀ q, G q → F q) {y : MethodName} {rm : Room} {As : List Value} {mc ms index n b maxL : Nat} {bytes : ByteArray} {f : Option (Int32 × am_w)} {β : Type} {K9 : Int32 × am_w → Option β} {r : β}
    (hM : ∀ q, f = some q → am_Met l D cl ty A G y (Cond.code y bytes maxL none :: Ts) rm (.ref b :: As) w (am_rv q) mc ms) (c1 : Cond.code y bytes maxL none ∈ Ts) (hrc : rm.cells = mc) (hrs : rm.slots = ms) (hini : Cond.initialized y.cls ∈ Ts) (host : String) (hl : va_Nw (.methodLinkNest own index y host) s) (hin : Cond.instanceMethod y ∈ Ts) (hy1 : y.name = "<init>")
    (hd : y.cls ≠ "java/lang/invoke/MethodHandle" ∧ y.cls ≠ "java/lang/invoke/VarHandle" ∧ (parseMethodDescriptor y.desc).map (fun d => d.parameters.length) = some n) (hRm : rm.frames + 1 ≤ R.frames ∧ 8 + (maxL + 11) + rm.locals ≤ R.locals)
    (hn : As.length = n) (hcat : (st.map fun v => v.category).sum ≤ 8) (hdg : decode cc pc = .ok (.invokespecial index, 3)) (hf : cells + mc ≤ R.cells ∧ slots + ms ≤ R.slots) {cells1 slots1 : Nat} (hc1 : cells + mc = cells1) (hs1 : slots + ms = slots1) {st0 : List Value} (hst : st0 = As.reverse ++ .ref b :: st) (hX : f.bind K9 = some r) (kk : ∀ q : Int32 × am_w, K9 q = some r → am_V p l e R s m args below meth c D cl ty A F nL cells1 slots1 Q (pc + 3) lo st q.2) : am_V p l e R s m args below meth c D cl ty A F nL cells slots Q pc lo st0 w := by
  obtain ⟨q, hX1, hX2⟩ := am_bind hX
  subst hst
  subst hc1
  subst hs1
  intro H locs ls hR hS hL
  exact am_goon (va_runIN (As := As) (rest := st) C.1 (hM q hX1) (⟨va_cnB n C.1.2.2.2.2 (am_goodI C.2.2.2.1 c1) rfl hrc hrs hl (C.1.2.2.2.2 _ hini) hd hRm, hy1, C.1.2.2.2.2 _ hin⟩) ⟨am_blind, fun U hU hW => am_start C hFA hR hS hU hW⟩ rfl hn hL.1.1 rfl (lv_room hcat) hdg hf) hG9 hS hL (fun v w1 h => by obtain ⟨h1, h2⟩ := h; subst h1; subst h2; exact kk q hX2)
theorem am_widen {k n : Nat} (h1 : cells ≤ k) (h2 : slots ≤ n) (kk : am_V p l e R s m args below meth c D cl ty A F nL k n Q pc lo st w) : am_V p l e R s m args below meth c D cl ty A F nL cells slots Q pc lo st w :=
  fun H locs ls hR hS hL => W.widen h1 h2 (kk H locs ls hR hS hL)
/-! the ends -/
theorem am_iret (C : am_C p m c cc nL s args Ts own D cl A) {r : Int32 × am_w} {mc ms : Nat} {v : Int32} {t9 : FieldType} (hr9 : meth.sig.returnType = some t9) (hlocks : meth.locks = false) (hdg : decode cc pc = .ok (.ireturn, 1)) (hn : narrow t9 (.int v) = .int v) (h1 : cells ≤ mc) (h2 : slots ≤ ms) (hX : some (v, w) = some r) :
    am_V p l e R s m args below meth c D cl ty A F nL cells slots (MQ below (am_Q D cl ty A F (am_ri r)) args s mc ms F) pc lo [.int v] w := by
  cases hX
  exact am_widen h1 h2 (fun H locs ls hR hS hL => W.zret C.1.1 C.1.2.1 hr9 hn (fun t ht hW => ⟨⟨_, _, rfl, ⟨rfl, rfl⟩, by rw [ht]; exact hR.moved hW.alike⟩, hS.F ht⟩) hS.2.2 hdg hlocks)
theorem am_n0 : narrow .boolean (.int 0) = .int 0 := rfl
theorem am_n1 : narrow .boolean (.int 1) = .int 1 := rfl
theorem am_zret (C : am_C p m c cc nL s args Ts own D cl A) {r : Int32 × am_w} {mc ms : Nat} {v : Int32} (hr9 : meth.sig.returnType = some .boolean) (hlocks : meth.locks = false) (hdg : decode cc pc = .ok (.ireturn, 1)) (h1 : cells ≤ mc) (h2 : slots ≤ ms) (hX : (if v &&& 1 = v then some (v, w) else none) = some r) :
    am_V p l e R s m args below meth c D cl ty A F nL cells slots (MQ below (am_Q D cl ty A F (am_ri r)) args s mc ms F) pc lo [.int v] w := by
  by_cases h : v &&& 1 = v
  · exact am_iret C hr9 hlocks hdg (by show Value.int (v &&& 1) = .int v; rw [h]) h1 h2 ((if_pos h).symm.trans hX)
  · rw [if_neg h] at hX
    cases hX
/-- more may have been written -/
theorem am_grow {F1 : Nat → Prop} (h : ∀ q, F q → F1 q) (k : am_V p l e R s m args below meth c D cl ty A F1 nL cells slots Q pc lo st w) : am_V p l e R s m args below meth c D cl ty A F nL cells slots Q pc lo st w :=
  fun H locs ls hR hS hL => k H locs ls hR ⟨hS.1, fun q h1 h2 => hS.2.1 q h1 (fun z => h2 (h q z)), fun q hq => h _ (hS.2.2 q hq)⟩ hL
theorem am_vret (C : am_C p m c cc nL s args Ts own D cl A) {r : Int32 × am_w} {mc ms : Nat} (hr9 : meth.sig.returnType = none) (hlocks : meth.locks = false) (hdg : decode cc pc = .ok (.return_, 1)) (h1 : cells ≤ mc) (h2 : slots ≤ ms) (hX : some ((0 : Int32), w) = some r) :
    am_V p l e R s m args below meth c D cl ty A F nL cells slots (MQ below (am_Q D cl ty A F (am_rv r)) args s mc ms F) pc lo [] w := by
  cases hX
  exact am_widen h1 h2 (fun H locs ls hR hS hL => W.vret C.1.1 C.1.2.1 hr9 (fun t ht hW => ⟨⟨_, _, rfl, ⟨rfl, rfl⟩, by rw [ht]; exact hR.moved hW.alike⟩, hS.F ht⟩) hS.2.2 hdg hlocks)
theorem am_pad {lo0 : List (Option Value)} {k i : Nat} {v : Value} (h : (lo0 ++ List.replicate k none)[i]? = some (some v)) : lo0[i]? = some (some v) := by
  by_cases hl : i < lo0.length
  · rwa [List.getElem?_append_left hl] at h
  · rw [List.getElem?_append_right (by omega)] at h
    have := List.eq_of_mem_replicate (List.mem_of_getElem? h)
    cases this
/-- a contract out of a walk from its entry -/
theorem am_ofV {y : MethodName} {Tw : List Cond} {rm : Room} {maxL mc ms : Nat} {ret : Option FieldType} {av : List Value} {post : Option Value → am_w → Prop}
    (hy : plainName y.cls = true) (hall : ∀ w ∈ Tw, goodWord w = true) (hlen : (lg_sl av).length ≤ maxL) (hcat : ∀ v ∈ av, v.category = 1)
    (body : ∀ (p : Program) (e : Env) (s : State) (m : MethodId) (below : List Frame) (meth : Method) (c : Code), am_C p m c cc maxL s av.toArray Tw y.cls D cl A → meth.sig.returnType = ret → meth.locks = false → meth.name = y.name →
      am_V p l e rm s m av.toArray below meth c D cl ty A F maxL 0 0 (MQ below (am_Q D cl ty A F post) av.toArray s mc ms F) 0 (av.map some ++ List.replicate (maxL - av.length) none) [] w) : am_Met l D cl ty A F y (Cond.code y cc maxL ret :: Tw) rm av w post mc ms := by
  refine Met.ofW (ws := Cond.code y cc maxL ret :: Tw) hy rfl ?_
  intro p e s m args below meth c s₁ B hml hv
  obtain ⟨rfl, hrep, hK, hA, hZ, hY⟩ := hv
  rw [lg_entry_eq]
  exact body p e s m below meth c ⟨⟨B.exec, B.bytes, hml, findClass_of_methodNamed B.named, fun w h9 => atoms_spec (ws := Cond.code y cc maxL ret :: Tw) B.pre w (List.mem_cons_of_mem _ h9)⟩, hK, hA, hall, hZ, hY⟩ B.returns B.notSynchronized (name_of_methodNamed B.named B.method).1 s.heap [] _ hrep va_S.rf ((am_ls.entry av hlen hcat).sub (fun i v h => am_pad h))
/-! what is made: at the heap's end -/
theorem am_rep.made {H H1 : Heap} {e9 : Nat ⊕ (FieldType × Nat)} (hR : am_rep D cl ty A s w H) (hA : A w.1) (z1 : H1.size = w.1 + 1) (o1 : ∀ q, q < w.1 → H1[q]? = H[q]?) (hc : am_cell D cl ty s (am_z w.2.2.1 w.1 0) (am_z w.2.2.2 w.1 none) H1 w.1 e9) : am_rep D cl ty A s (am_nw e9 w) H1 := by
  refine ⟨z1, fun q e1 he => ?_⟩
  by_cases hq : q = w.1
  · subst hq
    have h1 : e9 = e1 := by simpa [am_nw, am_sh] using he
    subst h1
    exact ⟨hA, hc⟩
  · have h1 : w.2.1 q = some e1 := by simpa [am_nw, am_sh, hq] using he
    have h2 := hR.2 q e1 h1
    have h3 : q < w.1 := by have := h2.2.lt; rw [hR.1] at this; exact this
    exact ⟨h2.1, h2.2.kept (o1 q h3) (fun j => by simp [am_nw, am_z, hq]) (fun j => by simp [am_nw, am_z, hq])⟩
theorem am_made_S {H H1 : Heap} {locs : List Loc} {z : Nat} (hS : va_S F s.heap H locs) (hz : H.size = z) (z1 : H1.size = z + 1) (o1 : ∀ q, q < z → H1[q]? = H[q]?) : va_S F s.heap H1 locs :=
  ⟨Nat.le_trans hS.1 (by omega), fun q h1 h2 => (o1 q (by have := hS.1; omega)).trans (hS.2.1 q h1 h2), hS.2.2⟩
theorem am_new (C : am_C p m c cc nL s args Ts own D cl A) {K : String} {T : u_T} {N ci index : Nat} (hin : ∀ w ∈ u_ws K T N, w ∈ Ts) (hty0 : ∀ k, k < N → parseFieldDescriptor (T k).2.2.1 = some (ty ci k)) (hdf : ∀ k, k < N → defaultValue (ty ci k) = am_v (ty ci k) 0 none)
    (hcl : Cond.classLink own index K ∈ Ts) (hinst : Cond.instantiable K N ∈ Ts) (hini : Cond.initialized K ∈ Ts) (hc : cl[ci]? = some (K, T, N)) (hcells : cells + 1 ≤ R.cells) (hslots : slots + N ≤ R.slots) (hdg : decode cc pc = .ok (.new index, 3))
    (kk : am_V p l e R s m args below meth c D cl ty A F nL (cells + 1) (slots + N) Q (pc + 3) lo (.ref w.1 :: st) (am_nw (.inl ci) w)) : am_V p l e R s m args below meth c D cl ty A F nL cells slots Q pc lo st w := by
  intro H locs ls hR hS hL
  have hts := C.1.2.2.2.2
  have hKn := C.2.1.1 ci _ hc
  have hle : s.heap.size ≤ w.1 := by rw [← hR.1]; exact hS.1
  refine W.newcK C.1.1 C.1.2.1 C.1.2.2.2.1 (hts _ hcl) (hts _ hinst) (hts _ hini) rfl hdg hcells hslots hKn.2.1 hR.1 fun H1 kC hkC e1 z1 o1 => ?_
  refine kk H1 locs ls (hR.made (C.2.2.1 w.1 hle) z1 o1 ⟨_, hc, (u_born (ty ci) hts hin hKn hkC e1 hty0).to (fun k hk => ?_)⟩) (am_made_S hS hR.1 z1 o1) hL
  rw [hdf k hk]
  simp [am_z]
theorem am_newa (C : am_C p m c cc nL s args Ts own D cl A) {atype : ArrayType} {t9 : FieldType} (harr : Cond.arrayClass (newarray.typeOf atype) ∈ Ts) (hty9 : newarray.typeOf atype = t9) (hdf : defaultValue t9 = am_v t9 0 none) {n : Int32} {N : Nat} (hn : ¬ n < 0) (hN : n.toNatClampNeg = N) (hbytes : N * componentBytes t9 ≤ 536870912) (hcells : cells + 1 ≤ R.cells) (hslots : slots + N ≤ R.slots) (hdg : decode cc pc = .ok (.newarray atype, 2))
    (kk : am_V p l e R s m args below meth c D cl ty A F nL (cells + 1) (slots + N) Q (pc + 2) lo (.ref w.1 :: st) (am_nw (.inr (t9, N)) w)) : am_V p l e R s m args below meth c D cl ty A F nL cells slots Q pc lo (.int n :: st) w := by
  subst hty9
  intro H locs ls hR hS hL
  have hle : s.heap.size ≤ w.1 := by rw [← hR.1]; exact hS.1
  refine va_newaK C.1.1 C.1.2.1 (C.1.2.2.2.2 _ harr) rfl hdg rfl hn hN hbytes hcells hslots hR.1 fun H1 cA e1 z1 o1 hAr hNm => ?_
  refine kk H1 locs ls (hR.made (C.2.2.1 w.1 hle) z1 o1 ⟨cA, ?_, hAr, by cases atype <;> exact hNm⟩) (am_made_S hS hR.1 z1 o1) hL
  rw [e1]
  congr 2
  funext j
  rw [hdf]
  simp [am_z]
theorem am_newq (C : am_C p m c cc nL s args Ts own D cl A) {K : String} {index : Nat} (hcl : Cond.classLink own index K ∈ Ts) (hover : va_AO K s) {n : Int32} {N : Nat} (hn : ¬ n < 0) (hN : n.toNatClampNeg = N) (hbytes : N * 4 ≤ 536870912) (hcells : cells + 1 ≤ R.cells) (hslots : slots + N ≤ R.slots) (hdg : decode cc pc = .ok (.anewarray index, 3))
    (kk : am_V p l e R s m args below meth c D cl ty A F nL (cells + 1) (slots + N) Q (pc + 3) lo (.ref w.1 :: st) (am_nw (.inr (.object K, N)) w)) : am_V p l e R s m args below meth c D cl ty A F nL cells slots Q pc lo (.int n :: st) w := by
  subst hN
  intro H locs ls hR hS hL
  have hle : s.heap.size ≤ w.1 := by rw [← hR.1]; exact hS.1
  refine W.anew C.1.1 C.1.2.1 C.1.2.2.2.1 (C.1.2.2.2.2 _ hcl) (va_AO.use hover) rfl hdg rfl hn hbytes hcells hslots fun cA kA comp f1 f2 f3 f4 => ?_
  generalize hH1 : H.push ({ cls := cA, slots := Array.replicate n.toNatClampNeg .null, vm := .none } : Cell) = H1
  have z1 : H1.size = w.1 + 1 := by rw [← hH1, Array.size_push, hR.1]
  have e1 : H1[w.1]? = some (arrV cA n.toNatClampNeg (fun _ => .null)) := by rw [← hH1, ← hR.1, Array.getElem?_push_size, ← arrV_new]
  have o1 : ∀ q : Nat, q < w.1 → H1[q]? = H[q]? := fun q hq => by rw [← hH1, Array.getElem?_push, if_neg (by rw [hR.1]; exact Nat.ne_of_lt hq)]
  have hAr : ArrOfT s cA (.object K) := fun N z => ⟨(fun k h => by cases h), kA, f2, comp, f3⟩
  have e0 : (F0 m pc ls (Value.int n :: st)).pc = pc := rfl
  rw [hR.1]
  refine kk H1 locs ls (hR.made (C.2.2.1 w.1 hle) z1 o1 ⟨cA, ?_, hAr, kA, comp, f2, f3, f4, f1⟩) (am_made_S hS hR.1 z1 o1) hL
  rw [e1]
  congr 2
  funext j
  simp [am_z, am_v, am_k, va_rf]
end AMC
end
section
section AMT
variable {p : Program} {l : Launch} {e : Env} {R : Room} {s : State} {m : MethodId} {args : Array Value} {below : List Frame} {meth : Method} {c : Code} {cells slots : Nat} {Q : State → Prop}
variable {cc : ByteArray} {own : String} {Ts : List Cond} {nL : Nat} {D : va_G} {cl : List vw_C} {ty : Nat → Nat → FieldType} {A F : Nat → Prop}
variable {pc : Nat} {lo : List (Option Value)} {st : List Value} {w : am_w} {a : Nat}
/-- the three exceptions of the class, by number -/
def am_X (k : Nat) : String := if k = 1 then "java/lang/IllegalArgumentException" else if k = 2 then "java/lang/IllegalStateException" else "java/lang/IndexOutOfBoundsException"
/-- the world behind a throw: a cell more, which is no part of it -/
def am_th (w : am_w) : am_w := (w.1 + 1, w.2)
/-- an end that answers (number 0) or throws -/
def am_Qt (D : va_G) (cl : List vw_C) (ty : Nat → Nat → FieldType) (A G : Nat → Prop) (q : Option Value × Nat × am_w) : Array Value → State → Outcome → State → Prop := fun _ st o t =>
  (((q.2.1 = 0 ∧ o = .returned q.1) ∨ (¬ q.2.1 = 0 ∧ ∃ (a : Addr) (ce : Cell), o = .threw a ∧ t.heap[a]? = some ce ∧ ce.vm.isStatics = false ∧ t.vm.findClass (am_X q.2.1) = some ce.cls)) ∧ am_rep D cl ty A t q.2.2 t.heap) ∧ va_F G st t
def am_E (s t : State) (L : List Loc) (k n : Nat) : Prop := s.WarmedH t.vm ∧ s.sameButNew ({ t with vm := s.vm } : State) L k n
def am_MQt (below : List Frame) (Qc : Array Value → State → Outcome → State → Prop) (a : Array Value) (s : State) (mc ms : Nat) (free : Addr → Prop) : State → Prop := fun t =>
  ∃ o, t.status = .running ∧ Ended t below o ∧ Qc a s o t ∧ ∃ L, am_E s t L mc ms ∧ ∀ q ∈ L, free q.base
def am_Mett (l : Launch) (D : va_G) (cl : List vw_C) (ty : Nat → Nat → FieldType) (A G : Nat → Prop) (y : MethodName) (ws : List Cond) (rm : Room) (av : List Value) (w : am_w) (q : Option Value × Nat × am_w) (mc ms : Nat) : Prop :=
  MetFree l y (headSpec ws rm) (am_P D cl ty A av w) (fun _ _ _ _ _ => True) (fun a st o t => am_Qt D cl ty A G q a st o t ∧ ∃ L, am_E st t L mc ms ∧ ∀ x ∈ L, G x.base)
def am_ti (r : Int32 × Nat × am_w) : Option Value × Nat × am_w := (some (.int r.1), r.2)
def am_tv (r : Int32 × Nat × am_w) : Option Value × Nat × am_w := (none, r.2)
theorem am_ti_of {x : Int32} {k : Nat} {w : am_w} {r : Int32 × Nat × am_w} (h : some (x, k, w) = some r) : (some (.int x), k, w) = am_ti r := by cases h; rfl
theorem am_tv_of {x : Int32} {k : Nat} {w : am_w} {r : Int32 × Nat × am_w} (h : some (x, k, w) = some r) : ((none : Option Value), k, w) = am_tv r := by cases h; rfl
theorem am_mono {H : Heap} {locs : List Loc} {Q1 : State → Prop} {g : JFrame} (h : ∀ t, Q1 t → Q t) (k : W p l e R s m args below meth c H locs cells slots Q1 g) : W p l e R s m args below meth c H locs cells slots Q g := fun T hT X =>
  let ⟨t, a, b⟩ := k T hT X
  ⟨t, a, h t b⟩
theorem am_MQ_t {Qc : Array Value → State → Outcome → State → Prop} {mc ms : Nat} (t : State) (h : MQ below Qc args s mc ms F t) : am_MQt below Qc args s mc ms F t := by
  obtain ⟨o, h1, h2, h3, L, hF, hL⟩ := h
  exact ⟨o, h1, h2, h3, L, hF.2, hL⟩
theorem am_irett (C : am_C p m c cc nL s args Ts own D cl A) {r : Int32 × Nat × am_w} {mc ms : Nat} {v : Int32} {t9 : FieldType} (hr9 : meth.sig.returnType = some t9) (hlocks : meth.locks = false) (hdg : decode cc pc = .ok (.ireturn, 1)) (hn : narrow t9 (.int v) = .int v) (h1 : cells ≤ mc) (h2 : slots ≤ ms) (hX : some (v, 0, w) = some r) :
    am_V p l e R s m args below meth c D cl ty A F nL cells slots (am_MQt below (am_Qt D cl ty A F (am_ti r)) args s mc ms F) pc lo [.int v] w := by
  cases hX
  exact am_widen h1 h2 (fun H locs ls hR hS hL => am_mono (fun t h => am_MQ_t t h) (W.zret C.1.1 C.1.2.1 hr9 hn (fun t ht hW => ⟨⟨Or.inl ⟨rfl, rfl⟩, by rw [ht]; exact hR.moved hW.alike⟩, hS.F ht⟩) hS.2.2 hdg hlocks))
theorem am_zrett (C : am_C p m c cc nL s args Ts own D cl A) {r : Int32 × Nat × am_w} {mc ms : Nat} {v : Int32} (hr9 : meth.sig.returnType = some .boolean) (hlocks : meth.locks = false) (hdg : decode cc pc = .ok (.ireturn, 1)) (h1 : cells ≤ mc) (h2 : slots ≤ ms) (hX : (if v &&& 1 = v then some (v, 0, w) else none) = some r) :
    am_V p l e R s m args below meth c D cl ty A F nL cells slots (am_MQt below (am_Qt D cl ty A F (am_ti r)) args s mc ms F) pc lo [.int v] w := by
  by_cases h : v &&& 1 = v
  · exact am_irett C hr9 hlocks hdg (by show Value.int (v &&& 1) = .int v; rw [h]) h1 h2 ((if_pos h).symm.trans hX)
  · rw [if_neg h] at hX
    cases hX
theorem am_vrett (C : am_C p m c cc nL s args Ts own D cl A) {r : Int32 × Nat × am_w} {mc ms : Nat} (hr9 : meth.sig.returnType = none) (hlocks : meth.locks = false) (hdg : decode cc pc = .ok (.return_, 1)) (h1 : cells ≤ mc) (h2 : slots ≤ ms) (hX : some ((0 : Int32), 0, w) = some r) :
    am_V p l e R s m args below meth c D cl ty A F nL cells slots (am_MQt below (am_Qt D cl ty A F (am_tv r)) args s mc ms F) pc lo [] w := by
  cases hX
  exact am_widen h1 h2 (fun H locs ls hR hS hL => am_mono (fun t h => am_MQ_t t h) (W.vret C.1.1 C.1.2.1 hr9 (fun t ht hW => ⟨⟨Or.inl ⟨rfl, rfl⟩, by rw [ht]; exact hR.moved hW.alike⟩, hS.F ht⟩) hS.2.2 hdg hlocks))
/-- a contract that answers or throws, out of a walk from its entry -/
theorem am_ofVt {y : MethodName} {Tw : List Cond} {rm : Room} {maxL mc ms : Nat} {ret : Option FieldType} {av : List Value} {q : Option Value × Nat × am_w} {F0 : Nat → Prop}
    (hy : plainName y.cls = true) (hall : ∀ w ∈ Tw, goodWord w = true) (hlen : (lg_sl av).length ≤ maxL) (hcat : ∀ v ∈ av, v.category = 1)
    (body : ∀ (p : Program) (e : Env) (s : State) (m : MethodId) (below : List Frame) (meth : Method) (c : Code), am_C p m c cc maxL s av.toArray Tw y.cls D cl A → meth.sig.returnType = ret → meth.locks = false → meth.name = y.name → c.exceptionTable.toList = [] →
      am_V p l e rm s m av.toArray below meth c D cl ty A F0 maxL 0 0 (am_MQt below (am_Qt D cl ty A F q) av.toArray s mc ms F) 0 (av.map some ++ List.replicate (maxL - av.length) none) [] w) : am_Mett l D cl ty A F y (Cond.code y cc maxL ret :: Tw) rm av w q mc ms := by
  refine MetFree.of_bodyS (code := cc) (maxLocals := maxL) (ret := ret) hy ?_ ?_
  · intro args s m h hn
    obtain ⟨meth, c, h1, h2, h3, h4, h5, h6, -, -⟩ := Cond.code_spec hn (atoms_spec (ws := Cond.code y cc maxL ret :: Tw) h _ List.mem_cons_self)
    exact ⟨meth, c, h1, h2, h3, h4, h5, h6⟩
  · intro p e s m args below meth c s₁ B hml hv _
    obtain ⟨rfl, hrep, hK, hA, hZ, hY⟩ := hv
    have hh0 : s₁.heap = s.heap := by rw [B.state]; rfl
    have hex : c.exceptionTable.toList = [] := by
      obtain ⟨meth', c', h1, h2, -, -, -, -, h7, -⟩ := Cond.code_spec B.named (atoms_spec (ws := Cond.code y cc maxL ret :: Tw) B.pre _ List.mem_cons_self)
      have X := Stand.of_body B
      have e1 : meth' = meth := Option.some.inj (h1.symm.trans X.method)
      subst e1
      have e2 : c' = c := Option.some.inj (h2.symm.trans X.code)
      subst e2
      simpa using h7
    have hw := body p e s m below meth c ⟨⟨B.exec, B.bytes, hml, findClass_of_methodNamed B.named, fun w h9 => atoms_spec (ws := Cond.code y cc maxL ret :: Tw) B.pre w (List.mem_cons_of_mem _ h9)⟩, hK, hA, hall, hZ, hY⟩ B.returns B.notSynchronized (name_of_methodNamed B.named B.method).1 hex s.heap [] _ hrep va_S.rf ((am_ls.entry av hlen hcat).sub (fun i v h => am_pad h))
    rw [← lg_entry_eq] at hw
    obtain ⟨t, a1, o, b1, b2, b3⟩ := hw s₁ hh0 (Stand.of_body B)
    exact ⟨t, o, a1, b1, b2, b3⟩
theorem am_isRef {C n d : String} (h : va_Zq C n d A s s.heap) : (Cond.isRef (.static C n d)).before args s = true := by
  have key : ∀ v : Value, va_Z C n d v A s s.heap → (Term.static C n d).eval args s none [] s = some v := by
    intro v hz
    obtain ⟨cf, kf, fi, f, a, cell, h1, h2, h3, h4, h5, h6, h7, h8⟩ := hz
    simp [Term.eval, State.fieldNamed?, h1, h2, h4, h5, h6, h7]
  rcases h with h | ⟨t, h⟩
  · simp [Cond.before, Cond.holds, Cond.value, key _ h]
  · simp [Cond.before, Cond.holds, Cond.value, key _ h]
abbrev am_names : List String := ["java/lang/RuntimeException", "java/lang/Exception"]
def am_OA (own : String) (ic k : Nat) : Prop := ∀ a ∈ Bundle.ownAtoms0 own ic (am_X k) am_names, a ∈ am_Zw ∨ a = .isRef (.static "java/lang/Throwable" "UNASSIGNED_STACK" "[Ljava/lang/StackTraceElement;") ∨ a = .isRef (.static "java/lang/Throwable" "SUPPRESSED_SENTINEL" "Ljava/util/List;")
theorem am_X_fit (k : Nat) : Bundle.fit (am_X k) = true := by
  unfold am_X
  split
  · decide
  · split <;> decide
-- new, dup, the constructor, athrow
set_option maxHeartbeats 4000000 in
theorem am_throw (C : am_C p m c cc nL s args Ts own D cl A) (hl : l.stackTraces = false) (hlk : meth.locks = false) (hex : c.exceptionTable.toList = []) {k index ic : Nat} (hk : ¬ k = 0) (hcl : Cond.classLink own index (am_X k) ∈ Ts) (hinst : Cond.instantiable (am_X k) 6 ∈ Ts) (hini : Cond.initialized (am_X k) ∈ Ts) (hoa : am_OA own ic k)
    (hd0 : decode cc pc = .ok (.new index, 3)) (hd3 : decode cc (pc + 3) = .ok (.dup, 1)) (hd4 : decode cc (pc + 3 + 1) = .ok (.invokespecial ic, 3)) (hd7 : decode cc (pc + 3 + 1 + 3) = .ok (.athrow, 1)) (hfr : 5 < R.frames) (hlo : (st.map fun v => v.category).sum + 90 ≤ R.locals) (hcells : 0 + 1 ≤ R.cells) (hslots : 0 + 6 ≤ R.slots) (u : Bool) {r : Option Value × Nat × am_w} {v9 : Option Value} (hX : (v9, k, am_th w) = r) :
    am_V p l e R s m args below meth c D cl ty A (am_F A false) nL 0 0 (am_MQt below (am_Qt D cl ty A (am_F A u) r) args s 1 6 (am_F A u)) pc lo st w := by
  subst hX
  intro H locs ls hR hS hL
  have hts := C.1.2.2.2.2
  have hno : locs = [] := by
    cases locs with
    | nil => rfl
    | cons x xs => exact absurd (hS.2.2 x List.mem_cons_self).1 (by decide)
  subst hno
  obtain ⟨cX, kX, hfX, hkX, -⟩ := Cond.instantiable_spec (hts _ hinst)
  have hle : s.heap.size ≤ w.1 := by rw [← hR.1]; exact hS.1
  refine W.newcK C.1.1 C.1.2.1 C.1.2.2.2.1 (hts _ hcl) (hts _ hinst) (hts _ hini) rfl hd0 hcells hslots hfX hR.1 fun H1 kC hkC e1 z1 o1 => ?_
  refine lv_dup C.1.1 C.1.2.1 hd3 rfl ?_
  intro T hT XS
  have htr : e.platform.stackTraces = false := by rw [XS.admits.platform]; exact hl
  have hat : ∀ a ∈ Bundle.ownAtoms0 own ic (am_X k) am_names, a.before args s = true := by
    intro a ha
    rcases hoa a ha with h | h | h
    · have h1 := Cond.tabsOnly_warm (args := #[]) (args' := args) (s := s) (T := s) (State.WarmedH.refl s) a (List.mem_filter.mp h).2 (C.2.2.2.2.1.2.2 a h)
      exact h1
    · rw [h]; exact am_isRef C.2.2.2.2.2.1
    · rw [h]; exact am_isRef C.2.2.2.2.2.2
  obtain ⟨U, hst, hrun, hend, hW, hsame, ce, hce, hoc⟩ := XS.ctorThrow0 (cls := am_X k) (names := am_names) (a := w.1) (g := F0 m (pc + 3 + 1) ls (.ref w.1 :: .ref w.1 :: st)) (rest := st) C.1.1 htr C.1.2.2.2.1 (am_X_fit k) (by decide) hat (fun x hx => by cases hx) hfX hkC (by rw [hT]; exact e1) hle rfl (hL.1.1.trans C.1.2.2.1.symm) rfl rfl rfl (by rw [C.1.2.1]; exact hd4) (by rw [C.1.2.1]; exact hd7) (fun x hx => by rw [hex] at hx; cases hx) (by show 2 + 3 < R.frames; exact hfr) (by
    show 2 * 0 + ((Value.ref w.1 :: st).map fun v => v.category).sum + (13 * (2 + 1) + 41) ≤ R.locals
    simp only [List.map_cons, List.sum_cons]
    show 2 * 0 + (1 + _) + (13 * (2 + 1) + 41) ≤ R.locals
    omega) hlk
  have hw1 : w.1 = s.heap.size := by
    have h1 := XS.heapSize
    rw [hT, z1] at h1
    omega
  have hU1 : s.heap.size ≤ U.heap.size := hsame.2.1
  have hU2 : U.heap.size ≤ s.heap.size + (0 + 1) := hsame.2.2.1
  have hlt : w.1 < U.heap.size := (Array.getElem?_eq_some_iff.mp hce).1
  have hold : ∀ q, q < s.heap.size → U.heap[q]? = s.heap[q]? := by
    intro q hq
    obtain ⟨c', h1, h2, h3, h4⟩ := hsame.2.2.2.2.2 q _ (Array.getElem?_eq_getElem hq)
    have h5 : c'.slots = (s.heap[q]).slots := Array.ext_getElem? (fun i => h4 i (by simp))
    have h6 : U.heap[q]? = some c' := h1
    rw [h6, h2, h5, Array.getElem?_eq_getElem hq]
  refine ⟨U, hst, .threw w.1, hrun, hend, ⟨⟨Or.inr ⟨hk, w.1, ce, rfl, hce, by rw [hoc.vm]; rfl, ?_⟩, ?_, fun a e9 he => ?_⟩, hU1, fun q h1 _ => hold q h1⟩, [], ⟨hW, hsame⟩, fun q hq => by cases hq⟩
  · have h1 := hoc.cls
    rw [← h1]
    exact hW.alike.findClass _ _
  · show U.heap.size = w.1 + 1
    omega
  · have h2 := hR.2 a e9 he
    have h3 : a < H.size := h2.2.lt
    rw [hR.1, hw1] at h3
    refine ⟨h2.1, (h2.2.kept (H1 := U.heap) ?_ (fun _ => rfl) (fun _ => rfl)).moved hW.alike⟩
    rw [hold a h3, hS.2.1 a h3 (fun z => absurd z.1 (by decide))]
end AMT
end
section
/-! the programs' steps at a world whose parts are known -/
section FL
variable {z : Nat} {sh : am_S} {hi : am_I} {hr : am_R} {a b ci k n j : Nat} {x : Int32}
theorem fl_fg (h : sh a = some (.inl ci)) : am_fg ci k a (z, sh, hi, hr) = some (hi a k) := by simp [am_fg, h]
theorem fl_rg (h : sh a = some (.inl ci)) (hb : hr a k = some b) : am_rg ci k a (z, sh, hi, hr) = some b := by simp [am_rg, h, hb]
theorem fl_fp (h : sh a = some (.inl ci)) : am_fp ci k a x (z, sh, hi, hr) = some (z, sh, am_up hi a k x, hr) := by simp [am_fp, h, am_wi]
theorem fl_rp (h : sh a = some (.inl ci)) : am_rp ci k a b (z, sh, hi, hr) = some (z, sh, hi, am_up hr a k (some b)) := by simp [am_rp, h, am_wr]
theorem fl_ob {α : Type} {f : Option α} (h : sh b = some (.inl ci)) : am_ob ci b (z, sh, hi, hr) f = f := by simp [am_ob, h]
theorem fl_al {t : FieldType} (h : sh a = some (.inr (t, n))) : am_al a (z, sh, hi, hr) = some (nI n) := by simp [am_al, h, nI]
theorem fl_nin (h : j < n) (hn : n < 2 ^ 31) : ¬ (nI j < 0 ∨ n ≤ (nI j).toNatClampNeg) := nI_in h hn
theorem fl_ig (h : sh a = some (.inr (.int, n))) (hj : j < n) (hn : n < 2 ^ 31) : am_ig a (nI j) (z, sh, hi, hr) = some (hi a j) := by
  simp only [am_ig, h]
  rw [if_neg (fl_nin hj hn), nI_clamp (by omega)]
theorem fl_is (h : sh a = some (.inr (.int, n))) (hj : j < n) (hn : n < 2 ^ 31) : am_is a (nI j) x (z, sh, hi, hr) = some (z, sh, am_up hi a j x, hr) := by
  simp only [am_is, h]
  rw [if_neg (fl_nin hj hn), nI_clamp (by omega)]
  rfl
theorem fl_cg (h : sh a = some (.inr (.char, n))) (hj : j < n) (hn : n < 2 ^ 31) : am_cg a (nI j) (z, sh, hi, hr) = some (hi a j) := by
  simp only [am_cg, h]
  rw [if_neg (fl_nin hj hn), nI_clamp (by omega)]
theorem fl_cs (h : sh a = some (.inr (.char, n))) (hj : j < n) (hn : n < 2 ^ 31) : am_cs a (nI j) x (z, sh, hi, hr) = some (z, sh, am_up hi a j x.toUInt32.toUInt16.toUInt32.toInt32, hr) := by
  simp only [am_cs, h]
  rw [if_neg (fl_nin hj hn), nI_clamp (by omega)]
  rfl
theorem fl_ag {K : String} (h : sh a = some (.inr (.object K, n))) (hj : j < n) (hn : n < 2 ^ 31) (hb : hr a j = some b) : am_ag a (nI j) (z, sh, hi, hr) = some b := by
  simp only [am_ag, h]
  rw [if_neg (fl_nin hj hn), nI_clamp (by omega), hb]
theorem fl_lg (h : sh a = some (.inr (.long, n))) (hj : j < n) (hn : n < 2 ^ 31) : am_lg a (nI j) (z, sh, hi, hr) = some (hi a j) := by
  simp only [am_lg, h]
  rw [if_neg (fl_nin hj hn), nI_clamp (by omega)]
theorem fl_lp (h : sh a = some (.inr (.long, n))) (hj : j < n) (hn : n < 2 ^ 31) : am_lp a (nI j) x (z, sh, hi, hr) = some (z, sh, am_up hi a j x, hr) := by
  simp only [am_lp, h]
  rw [if_neg (fl_nin hj hn), nI_clamp (by omega)]
  rfl
end FL
end
